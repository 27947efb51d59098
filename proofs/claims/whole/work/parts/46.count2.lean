set_option maxRecDepth 20000
set_option maxHeartbeats 2000000
/-- one step's adding to what is waited -/
def d_ad (F F' : m_G) (b : Int) : Prop := F' 6 = F 6 ∧ F' 7 = F 7 ∧ ∀ j, F 4 j ≤ F' 4 j ∧ F' 4 j ≤ F 4 j + b
theorem d_ad.rfl' {F : m_G} {b : Int} (hb : 0 ≤ b) : d_ad F F b := ⟨rfl, rfl, fun j => by omega⟩
theorem d_ad.trans {F G H : m_G} {a b c : Int} (h : d_ad F G a) (h2 : d_ad G H b) (hc : a + b ≤ c) : d_ad F H c := ⟨h2.1.trans h.1, h2.2.1.trans h.2.1, fun j => by have := h.2.2 j; have := h2.2.2 j; omega⟩
theorem d_ad.wt {F : m_G} {t : Nat} {v : Int} (h : 0 ≤ v ∧ v ≤ 7200) (hF : ∀ j, 0 ≤ F 4 j ∧ F 4 j ≤ 1000000000) : d_ad F (m_up F 4 t (m_wrap (F 4 t + m_wrap v))) 7200 := by
  have := hF t
  rw [m_w2 (x := v) (by omega) (by omega), m_w2 (x := F 4 t + v) (by omega) (by omega)]
  refine ⟨m_up_ne (by decide), m_up_ne (by decide), fun j => ?_⟩
  rw [m_up_eq]
  by_cases e : j = t
  · subst e; rw [m_us]; omega
  · rw [m_un e]; omega
theorem d_ad.of {F G H : m_G} {b : Int} (h : d_ad F G b) (h4 : H 4 = G 4) (h6 : H 6 = G 6) (h7 : H 7 = G 7) : d_ad F H b := ⟨h6.trans h.1, h7.trans h.2.1, fun j => by rw [h4]; exact h.2.2 j⟩
theorem d_ad_lv {s : Nat → Int} {l now : Nat} {σ : d_S} (hn : now ≤ 7200) (hF : ∀ j, 0 ≤ σ.2 4 j ∧ σ.2 4 j ≤ 1000000000) : d_ad σ.2 (d_lv s l now σ).2 7200 := by
  unfold d_lv
  split
  · rename_i c
    have c1 := c.1.2
    unfold d_leave
    split
    · exact d_ad.rfl' (by decide)
    · rename_i x r _
      refine (d_ad.wt (F := σ.2) (t := x.1.toNat) (v := now - σ.2 0 l) (by omega) hF).of ?_ ?_ ?_ <;>
      · simp only [m_up_eq, m_up_ne, ne_eq, Nat.reduceEqDiff, not_false_eq_true]
  · exact d_ad.rfl' (by decide)
theorem d_ad_sv {s : Nat → Int} {l now n : Nat} {σ : d_S} (hn : now ≤ 7200) (hnn : n ≤ now) (hl : l < 6) (hI : d_I s n σ) (hF : ∀ j, 0 ≤ σ.2 4 j ∧ σ.2 4 j ≤ 1000000000) : d_ad σ.2 (d_sv s l now σ).2 7200 := by
  unfold d_sv
  split
  · unfold d_serve
    split
    · exact d_ad.rfl' (by decide)
    · rename_i x r hq
      have hc := ((hI.1 l hl).2.1 x (by rw [hq]; exact List.mem_cons_self)).2.1
      refine (d_ad.wt (F := σ.2) (t := x.1.toNat) (v := now - x.2.1) (by omega) hF).of ?_ ?_ ?_ <;>
      · simp only [m_up_eq, m_up_ne, ne_eq, Nat.reduceEqDiff, not_false_eq_true]
  · exact d_ad.rfl' (by decide)
theorem d_ad_lane {s : Nat → Int} {l now : Nat} {σ : d_S} (hn : now ≤ 7200) (hl : l < 6) (hI : d_I s now σ) (hF : ∀ j, 0 ≤ σ.2 4 j ∧ σ.2 4 j ≤ 900000000) : d_ad σ.2 (d_lane s l now σ).2 14400 := by
  have h1 := d_ad_lv (s := s) (l := l) (σ := σ) hn (fun j => by have := hF j; omega)
  have h2 := d_ad_sv (n := now) (l := l) hn (Nat.le_refl _) hl (hI.lv (l := l) (Nat.le_refl _)) (fun j => by have := hF j; have := h1.2.2 j; omega)
  refine (h1.trans h2 (by decide)).of ?_ ?_ ?_ <;>
  · unfold d_lane d_lg; simp only [m_up_ne, ne_eq, Nat.reduceEqDiff, not_false_eq_true]
theorem d_ad_lanes {s : Nat → Int} {now : Nat} {σ : d_S} (hW : h_W s) (hn : now ≤ 7200) (hI : d_I s now σ) (hF : ∀ j, 0 ≤ σ.2 4 j ∧ σ.2 4 j ≤ 700000000) : ∀ L : Nat, L ≤ 6 → d_ad σ.2 (d_lanes s now L σ).2 (14400 * L)
  | 0, _ => d_ad.rfl' (by decide)
  | L + 1, h => by
    have h1 := d_ad_lanes hW hn hI hF L (by omega)
    have h2 := d_ad_lane (s := s) (l := L) (σ := d_lanes s now L σ) hn (by omega) (hI.lanes hW (Nat.le_refl _) L (by omega)) (fun j => by have := hF j; have := h1.2.2 j; omega)
    exact h1.trans h2 (by omega)
theorem d_K.run {s : Nat → Int} {nd : Nat → Nat → Int} (hW : h_W s) (hN : d_nd s nd) : ∀ n : Nat, n ≤ 7200 → d_K s n (d_run s nd n).2
  | 0, _ => fun t => by simp [d_run, d_0, d_arr]
  | n + 1, h => by
    have hz := hW.1
    have hK := d_K.run hW hN n (by omega)
    have hI := d_I.run hW hN n
    obtain ⟨c1, c2⟩ := d_come_F (nd := nd) (σ := d_run s nd n) hK (by omega) (s 0).toNat
    have hI2 := hI.come hW hN (Nat.le_refl n) (s 0).toNat (by omega)
    have hF : ∀ j, 0 ≤ (d_come s nd n (s 0).toNat (d_run s nd n)).2 4 j ∧ (d_come s nd n (s 0).toNat (d_run s nd n)).2 4 j ≤ 700000000 := fun j => by
      rw [c1 j]; have := (hK j).2; omega
    have h3 := d_ad_lanes hW (by omega) hI2 hF (s 1).toNat (by omega)
    intro t
    generalize hσ : d_lanes s n (s 1).toNat (d_come s nd n (s 0).toNat (d_run s nd n)) = σ' at h3
    have e : d_run s nd (n + 1) = σ' := hσ
    rw [e, h3.1, h3.2.1, d_arr_S]
    have h4 := h3.2.2 t
    rw [c1 t] at h4
    have h7 := (hK t).2
    refine ⟨fun ht => ?_, by omega, by omega⟩
    have h6 := c2 t ht
    by_cases c : d_at s t n = true
    · rw [if_pos ⟨by omega, c⟩] at h6
      rw [if_pos c]; omega
    · rw [if_neg (fun z => c z.2)] at h6
      rw [if_neg c]; omega
theorem d_ad_rest {G : m_G} : ∀ (L : List d_C) (F : m_G), (∀ c ∈ L, 0 ≤ c.2.1 ∧ c.2.1 ≤ 7200) → (∀ j, 0 ≤ F 4 j ∧ F 4 j + 7200 * L.length ≤ 1000000000) → d_ad F (d_rest L F) (7200 * L.length)
  | [], F, _, _ => d_ad.rfl' (by decide)
  | c :: r, F, h, hF => by
    have hc := h c List.mem_cons_self
    simp only [List.length_cons] at hF ⊢
    have h1 : d_ad F (d_wt F c.1 (7200 - c.2.1)) 7200 := d_ad.wt (by omega) (fun j => by have := hF j; omega)
    simp only [d_rest]
    refine h1.trans (d_ad_rest (G := G) r _ (fun x hx => h x (List.mem_cons_of_mem _ hx)) (fun j => ?_)) (by omega)
    have := hF j
    have := h1.2.2 j
    omega
theorem d_ad_endl {s : Nat → Int} {l n : Nat} {σ : d_S} (hW : h_W s) (hl : l < 6) (hI : d_I s n σ) (hF : ∀ j, 0 ≤ σ.2 4 j ∧ σ.2 4 j ≤ 900000000) : d_ad σ.2 (d_endl l σ).2 432000 := by
  have hlen := d_len hW hI l hl
  have hc := (hI.1 l hl).2.1
  unfold d_endl
  cases hq : σ.1 l with
  | nil => exact d_ad.rfl' (by decide)
  | cons c r =>
    rw [hq] at hlen hc
    simp only [List.length_cons] at hlen
    have h1 := hc c List.mem_cons_self
    simp only
    have fin : ∀ F : m_G, d_ad σ.2 F 7200 → d_ad σ.2 (d_rest r F) 432000 := by
      intro F hh
      refine hh.trans (d_ad_rest (G := F) r F (fun x hx => by have := (hc x (List.mem_cons_of_mem _ hx)).2.1; omega) (fun j => ?_)) (by omega)
      have := hF j
      have := hh.2.2 j
      omega
    refine fin _ ?_
    split
    · split
      · exact d_ad.wt (by omega) (fun j => by have := hF j; omega)
      · exact d_ad.rfl' (by decide)
    · exact d_ad.wt (by omega) (fun j => by have := hF j; omega)
theorem d_ad_end {s : Nat → Int} {n : Nat} {σ : d_S} (hW : h_W s) (hI : d_I s n σ) (hF : ∀ j, 0 ≤ σ.2 4 j ∧ σ.2 4 j ≤ 700000000) : ∀ L : Nat, L ≤ 6 → d_ad σ.2 (d_end L σ).2 (432000 * L)
  | 0, _ => d_ad.rfl' (by decide)
  | L + 1, h => by
    have h1 := d_ad_end hW hI hF L (by omega)
    have hI2 : d_I s n (d_end L σ) := hI.keep (d_end_Q L σ) (fun j hj => d_end_ne hj L σ)
    have h2 := d_ad_endl (l := L) hW (by omega) hI2 (fun j => by have := hF j; have := h1.2.2 j; omega)
    exact h1.trans h2 (by omega)
/-- the numbers of a day -/
theorem d_day_b {s : Nat → Int} {nd : Nat → Nat → Int} (hW : h_W s) (hN : d_nd s nd) (t : Nat) : ((t : Int) < s 0 → 0 ≤ (d_day s nd).2 7 t ∧ 0 ≤ (d_day s nd).2 6 t ∧ (d_day s nd).2 7 t + (d_day s nd).2 6 t = d_qs s t 4) ∧ 0 ≤ (d_day s nd).2 4 t ∧ (d_day s nd).2 4 t ≤ 700000000 := by
  have hz := hW.1
  have hK := d_K.run hW hN 7200 (Nat.le_refl _)
  have hI := d_I.run hW hN 7200
  have h1 := d_ad_end hW hI (fun j => by have := (hK j).2; omega) (s 1).toNat (by omega)
  unfold d_day
  rw [h1.1, h1.2.1]
  have h2 := h1.2.2 t
  have h3 := (hK t).2
  refine ⟨fun ht => ?_, by omega, by omega⟩
  have h4 := (hK t).1 ht
  rw [show (7200 : Nat) = 3600 + 3600 from rfl, d_arr_all hW ht] at h4
  exact h4
