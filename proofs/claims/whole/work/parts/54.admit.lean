set_option maxRecDepth 20000
set_option maxHeartbeats 2000000
def v_uK (K : Nat → List Nat) (l n : Nat) : Nat → List Nat := fun j => if j = l then K l ++ [n] else K j
/-- one more stands in a lane -/
theorem v_R.stand {g g' : m_G} {s : Nat → Int} {n0 l n : Nat} {σ : d_S} {K : Nat → List Nat} {t came need stray : Int} (hW : h_W s) (hR : v_R g σ K n) (hI : d_I s n0 σ) (hJ : d_J σ) (hl : l < 6) (hlen : ((σ.1 l).length : Int) < s 7) (hc : v_car g n = (t, came, need, stray)) (hnb : 1 ≤ need ∧ need ≤ 99) (h54 : g 54 n = -1)
    (h0 : g' (44 + l) 0 = m_wrap (g (44 + l) 0 + 1)) (h1 : g' (44 + l) 1 = m_wrap (g (44 + l) 1 + need)) (h11 : g' (44 + l) 11 = (n : Int)) (h7 : g' (44 + l) 7 = if K l = [] then (n : Int) else g (44 + l) 7)
    (hk : ∀ k, (2 ≤ k ∧ k ≤ 6) → g' (44 + l) k = g (44 + l) k) (hb : ∀ m, g' 54 m = if K l ≠ [] ∧ (m : Int) = g (44 + l) 11 then (n : Int) else g 54 m) (ho : ∀ j, j ≠ 44 + l → j ≠ 54 → g' j = g j) : v_R g' (d_stand l t came need stray σ) (v_uK K l n) (n + 1) := by
  obtain ⟨hL, hA, hT, hS1, hS2, hS3⟩ := hR
  have hw7 := hW.2.1.2.2.2.2.2.1.2
  have hcar : ∀ m, v_car g' m = v_car g m := fun m => by
    unfold v_car
    rw [ho 51 (by omega) (by omega), ho 52 (by omega) (by omega), ho 53 (by omega) (by omega), ho 55 (by omega) (by omega)]
  obtain ⟨⟨⟨a1, a2, a3, a4, a5, a6, a7⟩, ⟨b1, b2, b3⟩, c⟩, hz⟩ := hL l hl
  have hln : (σ.1 l).length = (K l).length := by rw [b1, List.length_map]
  have hnK : n ∉ K l := fun z => absurd (hz n z) (by omega)
  refine ⟨fun l' hl' => ?_, ?_, ?_, ?_, ?_, ?_⟩
  · by_cases e : l' = l
    · subst e
      have eK : v_uK K l' n l' = K l' ++ [n] := by unfold v_uK; rw [if_pos rfl]
      rw [eK]
      refine ⟨?_, fun m hm => ?_⟩
      · unfold v_L d_stand
        simp only [m_up_ne (show (0 : Nat) ≠ 7 by decide), m_up_ne (show (1 : Nat) ≠ 7 by decide), m_up_ne (show (2 : Nat) ≠ 7 by decide), m_up_ne (show (3 : Nat) ≠ 7 by decide)]
        have eQ : d_uq σ.1 l' (σ.1 l' ++ [(t, came, need, stray)]) l' = σ.1 l' ++ [(t, came, need, stray)] := by unfold d_uq; rw [if_pos rfl]
        rw [eQ]
        refine ⟨⟨?_, ?_, ?_, ?_, ?_, ?_, ?_⟩, ⟨?_, ?_, ?_⟩, ?_⟩
        · rw [h0, a1, m_w2 (by omega) (by omega), List.length_append]; simp
        · rw [hk 5 (by omega)]; exact a2
        · rw [hk 2 (by omega)]; exact a3
        · rw [hk 3 (by omega)]; exact a4
        · rw [hk 4 (by omega)]; exact a5
        · rw [hk 6 (by omega)]; exact a6
        · have hb := d_need_t hI hl (d_len hW hI l' hl)
          rw [h1, a7]
          by_cases cc : 0 ≤ σ.2 0 l'
          · rw [if_pos cc, if_pos cc, m_w2 (by omega) (by omega), List.tail_append_of_ne_nil (hJ l' hl cc), d_need_app]
          · rw [if_neg cc, if_neg cc, m_w2 (by omega) (by omega), d_need_app]
        · rw [List.map_append, b1]
          congr 1
          · exact List.map_congr_left (fun m _ => (hcar m).symm)
          · simp only [List.map_cons, List.map_nil]; rw [hcar, hc]
        · have e54 : g' 54 n = -1 := by
            rw [hb n, if_neg, h54]
            rintro ⟨z1, z2⟩
            obtain ⟨m, m1, m2⟩ := v_la_mem b3 z1
            exact hnK (by rw [show n = m by omega]; exact m1)
          rw [h7]
          by_cases z : K l' = []
          · rw [if_pos z, z]
            exact ⟨rfl, e54⟩
          · rw [if_neg z]
            obtain ⟨m, m1, m2⟩ := v_la_mem b3 z
            rw [m2] at b3
            refine v_ch.snoc (e := m) (fun x hx => ?_) ?_ e54 b2 b3 z c
            · rw [hb x, if_neg (fun y => hx (by omega))]
            · rw [hb m, if_pos ⟨z, m2.symm⟩]
        · rw [h11]; exact v_la_snoc _ _
        · refine List.nodup_append.mpr ⟨c, by simp, fun x hx y hy => ?_⟩
          rw [List.mem_singleton.mp hy]
          exact fun z => hnK (z ▸ hx)
      · rcases List.mem_append.mp hm with hm | hm
        · have := hz m hm; omega
        · rw [List.mem_singleton.mp hm]; omega
    · have eK : v_uK K l n l' = K l' := by unfold v_uK; rw [if_neg e]
      rw [eK]
      refine ⟨(hL l' hl').1.same ?_ (fun k _ _ _ _ => by rw [ho _ (by omega) (by omega)]) (fun m hm => ⟨hcar m, ?_⟩), fun m hm => by have := (hL l' hl').2 m hm; omega⟩
      · unfold d_stand d_uq
        simp only
        rw [if_neg e, m_up_ne (show (0 : Nat) ≠ 7 by decide), m_up_ne (show (1 : Nat) ≠ 7 by decide), m_up_ne (show (2 : Nat) ≠ 7 by decide), m_up_ne (show (3 : Nat) ≠ 7 by decide)]
        exact ⟨rfl, rfl, rfl, rfl, rfl⟩
      · rw [hb m, if_neg]
        rintro ⟨z1, z2⟩
        obtain ⟨x, m1, m2⟩ := v_la_mem b3 z1
        have : m = x := by omega
        subst this
        exact e (hA l' l m hl' hl hm m1)
  · have key : ∀ a m, m ∈ v_uK K l n a → (m ∈ K a ∨ (a = l ∧ m = n)) := by
      intro a m h
      unfold v_uK at h
      by_cases e : a = l
      · subst e
        rw [if_pos rfl] at h
        rcases List.mem_append.mp h with h | h
        · exact Or.inl h
        · exact Or.inr ⟨rfl, List.mem_singleton.mp h⟩
      · rw [if_neg e] at h; exact Or.inl h
    intro a b' m ha hb' h1 h2
    rcases key a m h1 with h1 | ⟨h1, e1⟩
    · rcases key b' m h2 with h2 | ⟨h2, e2⟩
      · exact hA a b' m ha hb' h1 h2
      · have := (hL a ha).2 m h1; omega
    · rcases key b' m h2 with h2 | ⟨h2, e2⟩
      · have := (hL b' hb').2 m h2; omega
      · omega
  · intro t' ht'
    unfold d_stand
    simp only
    rw [m_up_ne (show (4 : Nat) ≠ 7 by decide), m_up_ne (show (5 : Nat) ≠ 7 by decide), m_up_ne (show (6 : Nat) ≠ 7 by decide), ho 40 (by omega) (by omega), ho 41 (by omega) (by omega), ho 42 (by omega) (by omega)]
    exact hT t' ht'
  all_goals
    unfold d_stand
    simp only
    rw [m_up_ne (show (8 : Nat) ≠ 7 by decide), ho 39 (by omega) (by omega)]
    assumption
theorem p3_join {s : Nat → Int} {n0 l n : Nat} {σ : d_S} {K : Nat → List Nat} {t came need stray : Int} {g : m_G} {q : m_Post} (hW : h_W s) (hR : v_R g σ K n) (hI : d_I s n0 σ) (hJ : d_J σ) (hl : l < 6) (hlen : ((σ.1 l).length : Int) < s 7) (hc : v_car g n = (t, came, need, stray)) (hnb : 1 ≤ need ∧ need ≤ 99) (h54 : g 54 n = -1) (hn : n < 500)
    (h : ∀ g', v_R g' (d_stand l t came need stray σ) (v_uK K l n) (n + 1) → v_F g g' → (∀ m, n ≤ m → g' 54 m = g 54 m) → (∀ j, j ≠ 44 + l → j ≠ 54 → g' j = g j) → q none g') : wX3_join.1 [.inr (.inr (44 + l)), .inr (.inr 50), .inl n] g q := by
  have hcl : m_lnc (44 + l) := by unfold m_lnc; omega
  obtain ⟨⟨⟨a1, -⟩, ⟨b1, b2, b3⟩, c⟩, hz⟩ := hR.1 l hl
  have hln : (σ.1 l).length = (K l).length := by rw [b1, List.length_map]
  have hnd : g 53 n = need := by unfold v_car at hc; exact congrArg (fun x => x.2.2.1) hc
  by_cases z : K l = []
  · have z0 : g (44 + l) 0 = 0 := by rw [a1, hln, z]; rfl
    refine p3_join_e hcl z0 hn ?_
    refine h _ (hR.stand hW hI hJ hl hlen hc hnb h54 ?_ ?_ ?_ ?_ ?_ ?_ ?_) ?_ ?_ ?_
    · simp only [m_upv]; simp
    · simp only [m_upv]; simp [hnd]
    · simp only [m_upv]; simp
    · simp only [m_upv]; simp [z]
    · intro k hk; simp only [m_upv]; rw [if_neg (by omega), if_neg (by omega), if_neg (by omega), if_neg (by omega)]
    · intro m; rw [if_neg (fun y => y.1 z)]; simp only [m_upv]; rw [if_neg (by omega), if_neg (by omega), if_neg (by omega), if_neg (by omega)]
    · intro j h1 h2; rw [m_up_ne h1, m_up_ne h1, m_up_ne h1, m_up_ne h1]
    · exact (((v_F.put (by omega)).trans (v_F.put (by omega))).trans (v_F.put (by omega))).trans (v_F.put (by omega))
    · intro m hm; simp only [m_upv]; rw [if_neg (by omega), if_neg (by omega), if_neg (by omega), if_neg (by omega)]
    · intro j h1 h2; rw [m_up_ne h1, m_up_ne h1, m_up_ne h1, m_up_ne h1]
  · obtain ⟨e, m1, m2⟩ := v_la_mem b3 z
    have he := hz e m1
    have hpos : 0 < (K l).length := List.length_pos_iff.mpr z
    refine p3_join_ne hcl m2 (by omega) (by omega) hn ?_
    refine h _ (hR.stand hW hI hJ hl hlen hc hnb h54 ?_ ?_ ?_ ?_ ?_ ?_ ?_) ?_ ?_ ?_
    · simp only [m_upv]; simp
    · simp only [m_upv]; simp [hnd]
    · simp only [m_upv]; simp
    · rw [if_neg z]; simp only [m_upv]; rw [if_neg (by omega), if_neg (by omega), if_neg (by omega), if_neg (by omega)]
    · intro k hk; simp only [m_upv]; rw [if_neg (by omega), if_neg (by omega), if_neg (by omega), if_neg (by omega)]
    · intro m; simp only [m_upv]; rw [if_neg (by omega), if_neg (by omega), if_neg (by omega)]
      by_cases y : m = e
      · rw [if_pos ⟨trivial, y⟩, if_pos ⟨z, by omega⟩]
      · rw [if_neg (fun w => y w.2), if_neg (fun w => y (by omega))]
    · intro j h1 h2; rw [m_up_ne h1, m_up_ne h1, m_up_ne h1, m_up_ne h2]
    · exact (((v_F.put (by omega)).trans (v_F.put (by omega))).trans (v_F.put (by omega))).trans (v_F.put (by omega))
    · intro m hm; simp only [m_upv]; rw [if_neg (by omega), if_neg (by omega), if_neg (by omega), if_neg (by omega)]
    · intro j h1 h2; rw [m_up_ne h1, m_up_ne h1, m_up_ne h1, m_up_ne h2]
/-- other numbers, the same lanes -/
theorem v_R.num {g g' : m_G} {σ σ' : d_S} {K : Nat → List Nat} {z z' : Nat} (h : v_R g σ K z) (hz : z ≤ z') (hQ : σ'.1 = σ.1) (h0 : σ'.2 0 = σ.2 0 ∧ σ'.2 1 = σ.2 1 ∧ σ'.2 2 = σ.2 2 ∧ σ'.2 3 = σ.2 3) (hg : ∀ j, (44 ≤ j ∧ j < 55) → g' j = g j) (h55 : ∀ m, m < z → g' 55 m = g 55 m)
    (hT : ∀ t, t < 5 → g' 40 t = σ'.2 4 t ∧ g' 41 t = σ'.2 5 t ∧ g' 42 t = σ'.2 6 t) (h4 : g' 39 4 = σ'.2 8 0) (h5 : g' 39 10 = σ'.2 8 1) (h6 : g' 39 5 = (if σ'.2 8 2 < 0 then -1 else σ'.2 8 2)) : v_R g' σ' K z' := by
  refine ⟨fun l hl => ⟨(h.1 l hl).1.same ⟨by rw [hQ], by rw [h0.1], by rw [h0.2.1], by rw [h0.2.2.1], by rw [h0.2.2.2]⟩ (fun k _ _ _ _ => by rw [hg _ (by omega)]) (fun n hn => ⟨?_, by rw [hg 54 (by omega)]⟩), fun n hn => by have := (h.1 l hl).2 n hn; omega⟩, h.2.1, hT, h4, h5, h6⟩
  unfold v_car
  rw [hg 51 (by omega), hg 52 (by omega), hg 53 (by omega), h55 n ((h.1 l hl).2 n hn)]
