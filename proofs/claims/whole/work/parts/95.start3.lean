theorem g_0_R : m_InR g_0 := by
  intro i k
  have tb : m_rng (m_tb 402 k) := m_tb_rng 402 k
  unfold g_0
  unfold m_rng at tb ⊢
  split
  · split <;> omega
  · split
    · split <;> omega
    · split
      · split
        · omega
        · split <;> omega
      · split
        · split
          · omega
          · split <;> omega
        · omega
set_option maxHeartbeats 4000000 in
set_option maxRecDepth 100000 in
theorem whole_start {p : Program} {e : Env} {s : State} {m : MethodId} {below : List Frame} {meth : Method} {c : Code} (l : Launch) (hflags : l.flags = flags0) {b L : Nat} {xs : Nat → Int32} (hL : L ≤ 256) (C0 : lw_At p s m meth c b L xs) : W p l e room_1 s m #[Value.ref b] below meth c s.heap [] 0 0 (lw_Z below #[Value.ref b] s) (entryFrame m ([Value.ref b] : List Value).toArray 4) := by
  obtain ⟨hx, hb, hr, hml, hown, hts, hX, hbl, hlocks, hgv⟩ := C0
  obtain ⟨Y, hK⟩ := lw_cls hts
  obtain ⟨e0, hb5, hE⟩ := lw_env b hts hgv
  have htg : ∀ w ∈ m_tblG, w.before #[Value.ref b] s = true := fun w hw => hts w (List.mem_filter.mp hw).1
  have hl := lv_entry ([.ref b]) (n := 4) (Nat.le_of_ble_eq_true rfl)
  rw [lg_entry_eq]
  generalize (lg_sl ([.ref b]) ++ List.replicate (4 - (lg_sl ([.ref b])).length) Slot.unset).toArray = lsA at hl ⊢
  have hl : lv_has lsA 4 [(0, .ref b)] := hl
  have C : n_Cx p s m #[Value.ref b] c (fun q => s.heap.size ≤ q) (e0, Y) cL_law 4 "WhichLaneLaw" := ⟨hx, hb, hml, hown, htg, hK e0, hE Y, lw_ao hts, fun q h => h⟩
  refine lw_open (X := (e0, Y)) (A := fun q => s.heap.size ≤ q) C hl (fun u w ls2 hl2 => ?_) s.heap [] (fun k q h => by simp at h) ⟨fun i j p q h => by simp at h, fun k q h => by simp at h⟩ va_S.rf
  intro H locs hP hD hS
  obtain ⟨hinj, hA⟩ := X_1_D hD
  have h5 : (X_1 e0 u w Y).1 500 = b := hb5
  have CX : m_Cx p room_1 s m #[Value.ref b] meth c 91 5067 (fun q => s.heap.size ≤ q) (X_1 e0 u w Y) cL_law 4 "WhichLaneLaw" :=
    ⟨hx, hb, hml, hown, htg, hK _, (hE Y).re (fun k hk => by simp only [if_neg (show ¬ k < 66 by omega), if_neg (show ¬ k < 91 by omega)]), hinj, hA, Nat.le_of_ble_eq_true rfl, Nat.le_of_ble_eq_true rfl, hlocks⟩
  have hsc : s_scr (X_1 e0 u w Y) (fun q => s.heap.size ≤ q) L xs s := ⟨by rw [h5]; exact hX, by rw [h5]; exact hbl, by rw [h5]; exact Nat.not_le.mpr hbl, hL⟩
  have hJ := law_rows (p := p) (l := l) (e := e) (below := below) (Qf := lw_Z below #[Value.ref b] s) hinj CX hsc (fun _ _ => False)
  refine lw_loop hJ ?_ hL (L + 1) 0 g_0 g_0 (Int.le_refl 0) (by decide) (by omega) g_0_I (fun _ z => by cases z) ?_ g_0_R H locs ls2 (lw_world hP) hS ?_
  · intro ls g o1 o2 o3 H locs lsA hP hS hl
    refine va_forget (fun q hq => hS.2.2 q hq) ?_
    refine W.widen (k := 600000) (n := 7302250) (Nat.le_of_ble_eq_true rfl) (Nat.le_of_ble_eq_true rfl) ?_
    exact lw_ret hx hb hr hlocks dL_law_922
  · intro v hv
    simp only [List.mem_cons, List.not_mem_nil, or_false, Option.some.injEq] at hv
    rcases hv with rfl | rfl | rfl | rfl
    · trivial
    · trivial
    · trivial
    · exact m_rng_0
  · refine ⟨hl2.1, rfl, hl2.2.1, fun i v hv => ?_⟩
    match i, hv with
    | 0, hv => cases hv; exact (lv_at hl2 3 rfl).trans (by rw [← h5]; rfl)
    | 1, hv => cases hv; exact lv_at hl2 2 rfl
    | 2, hv => cases hv; exact lv_at hl2 1 rfl
    | 3, hv => cases hv; exact lv_at hl2 0 rfl
    | k + 4, hv => cases hv
