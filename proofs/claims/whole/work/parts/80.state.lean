set_option maxRecDepth 20000
set_option maxHeartbeats 2000000
/-- what a state holds, behind every call -/
def i_A (A : m_G) : Prop := (h_W5 (A 68) ∧ ∀ k, 64 ≤ k → A 68 k = 0) ∧ ((A 66 5 = 0 ∨ A 66 5 = 1) ∧ (¬ A 66 5 = 0 → h_W5 (A 69))) ∧ (0 ≤ A 66 8 ∧ A 66 8 ≤ 64) ∧ 0 ≤ A 66 34 ∧ A 66 34 ≤ 5
theorem h_W.low {s s' : Nat → Int} (h : h_W s) (hs : ∀ k, k < 64 → s' k = s k) : h_W s' := by
  obtain ⟨a, b, c, d, e⟩ := h
  unfold h_W
  rw [hs 0 (by omega), hs 1 (by omega), hs 2 (by omega), hs 3 (by omega), hs 4 (by omega), hs 5 (by omega), hs 6 (by omega), hs 7 (by omega), hs 8 (by omega), hs 9 (by omega)]
  refine ⟨a, b, fun t ht => ?_, fun l hl => ?_, ?_⟩
  · rw [hs _ (by omega), hs _ (by omega)]
    obtain ⟨c1, c2, c3⟩ := c t ht
    exact ⟨c1, c2, fun k hk => by rw [hs _ (by omega)]; exact c3 k hk⟩
  · rw [hs _ (by omega)]
    obtain ⟨d1, d2⟩ := d l hl
    exact ⟨fun k hk => by rw [hs _ (by omega)]; exact d1 k hk, d2⟩
  · rw [sumC_eq _ (fun t k ht hk => hs _ (by omega))]; exact e
theorem h_W5.low {s s' : Nat → Int} (h : h_W5 s) (hs : ∀ k, k < 64 → s' k = s k) : h_W5 s' := by
  have hz := h.1.1
  refine ⟨h.1.low hs, fun t k ht hk => ?_⟩
  rw [hs 0 (by omega)] at ht
  rw [hs _ (by omega)]
  exact h.2 t k ht hk
theorem h_W5.sort {s : Nat → Int} (h : h_W5 s) {a b : Int} (h0 : s 0 < 5) (ha : 1 ≤ a ∧ a ≤ 60) (hb : 1 ≤ b ∧ b ≤ 99) : h_W5 (s_sort s a b) := by
  obtain ⟨⟨z, w, c, d, e⟩, f⟩ := h
  obtain ⟨S, hS⟩ : ∃ S : Nat, s 0 = (S : Int) := ⟨(s 0).toNat, by omega⟩
  have e0 : s_sort s a b 0 = (S : Int) + 1 := by unfold s_sort; rw [if_pos rfl, hS]
  have eo : ∀ j, j ≠ 0 → (j < 10 + 6 * S ∨ 16 + 6 * S ≤ j) → s_sort s a b j = s j := fun j h1 h2 => by
    unfold s_sort; rw [hS, Int.toNat_natCast, if_neg h1, if_neg (by omega), if_neg (by omega), if_neg (by omega)]
  have ea : s_sort s a b (10 + 6 * S) = a := by unfold s_sort; rw [hS, Int.toNat_natCast, if_neg (by omega), if_pos rfl]
  have eb : s_sort s a b (11 + 6 * S) = b := by unfold s_sort; rw [hS, Int.toNat_natCast, if_neg (by omega), if_neg (by omega), if_pos rfl]
  have ec : ∀ k, k < 4 → s_sort s a b (12 + 6 * S + k) = 0 := fun k hk => by unfold s_sort; rw [hS, Int.toNat_natCast, if_neg (by omega), if_neg (by omega), if_neg (by omega), if_pos (by omega)]
  have f5 : ∀ t k : Nat, (t : Int) < (S : Int) + 1 → k < 4 → s_sort s a b (12 + 6 * t + k) ≤ 25 := by
    intro t k ht hk
    by_cases y : t = S
    · subst y; rw [ec k hk]; decide
    · rw [eo _ (by omega) (by omega)]; exact f t k (by omega) hk
  refine ⟨⟨?_, ?_, fun t ht => ?_, fun l hl => ?_, ?_⟩, fun t k ht hk => ?_⟩
  · rw [e0, eo 1 (by decide) (by omega)]; omega
  · rw [eo 2 (by omega) (by omega), eo 3 (by omega) (by omega), eo 4 (by omega) (by omega), eo 5 (by omega) (by omega), eo 6 (by omega) (by omega), eo 7 (by omega) (by omega), eo 8 (by omega) (by omega), eo 9 (by omega) (by omega)]; exact w
  · rw [e0] at ht
    by_cases y : t = S
    · subst y; rw [ea, eb]; exact ⟨ha, hb, fun k hk => by rw [ec k hk]; decide⟩
    · rw [eo _ (by omega) (by omega), eo _ (by omega) (by omega)]
      obtain ⟨c1, c2, c3⟩ := c t (by omega)
      exact ⟨c1, c2, fun k hk => by rw [eo _ (by omega) (by omega)]; exact c3 k hk⟩
  · rw [eo 1 (by decide) (by omega)] at hl
    rw [eo _ (by omega) (by omega)]
    obtain ⟨d1, d2⟩ := d l hl
    exact ⟨fun k hk => by rw [eo _ (by omega) (by omega)]; exact d1 k hk, d2⟩
  · rw [e0, show ((S : Int) + 1).toNat = S + 1 by omega]
    have := sumC_25 (s := s_sort s a b) (S + 1) (fun t k ht hk => f5 t k (by omega) hk)
    omega
  · rw [e0] at ht; exact f5 t k ht hk
theorem h_W5.lane {s : Nat → Int} (h : h_W5 s) {a : Int} (h0 : s 1 < 6) (ha : 0 ≤ a ∧ a ≤ 31) : h_W5 (s_lane s a) := by
  obtain ⟨⟨z, w, c, d, e⟩, f⟩ := h
  obtain ⟨L, hL⟩ : ∃ L : Nat, s 1 = (L : Int) := ⟨(s 1).toNat, by omega⟩
  have e1 : s_lane s a 1 = (L : Int) + 1 := by unfold s_lane; rw [if_pos rfl, hL]
  have eo : ∀ j, j ≠ 1 → (j < 40 + 4 * L ∨ 44 + 4 * L ≤ j) → s_lane s a j = s j := fun j h1 h2 => by
    unfold s_lane; rw [hL, Int.toNat_natCast, if_neg h1, if_neg (by omega), if_neg (by omega)]
  have ea : s_lane s a (40 + 4 * L) = a := by unfold s_lane; rw [hL, Int.toNat_natCast, if_neg (by omega), if_pos rfl]
  have eb : ∀ k, 1 ≤ k → k < 4 → s_lane s a (40 + 4 * L + k) = -9 := fun k h1 hk => by unfold s_lane; rw [hL, Int.toNat_natCast, if_neg (by omega), if_neg (by omega), if_pos (by omega)]
  refine ⟨⟨?_, ?_, fun t ht => ?_, fun l hl => ?_, ?_⟩, fun t k ht hk => ?_⟩
  · rw [e1, eo 0 (by decide) (by omega)]; omega
  · rw [eo 2 (by omega) (by omega), eo 3 (by omega) (by omega), eo 4 (by omega) (by omega), eo 5 (by omega) (by omega), eo 6 (by omega) (by omega), eo 7 (by omega) (by omega), eo 8 (by omega) (by omega), eo 9 (by omega) (by omega)]; exact w
  · rw [eo 0 (by decide) (by omega)] at ht
    rw [eo _ (by omega) (by omega), eo _ (by omega) (by omega)]
    obtain ⟨c1, c2, c3⟩ := c t ht
    exact ⟨c1, c2, fun k hk => by rw [eo _ (by omega) (by omega)]; exact c3 k hk⟩
  · rw [e1] at hl
    by_cases y : l = L
    · subst y
      rw [ea]
      refine ⟨fun k hk => ?_, ha.1⟩
      by_cases y0 : k = 0
      · subst y0; rw [Nat.add_zero, ea]; exact Or.inr ha
      · rw [eb k (by omega) hk]; exact Or.inl rfl
    · rw [eo _ (by omega) (by omega)]
      obtain ⟨d1, d2⟩ := d l (by omega)
      exact ⟨fun k hk => by rw [eo _ (by omega) (by omega)]; exact d1 k hk, d2⟩
  · rw [eo 0 (by decide) (by omega), sumC_eq _ (fun t k ht hk => eo _ (by omega) (by omega))]; exact e
  · rw [eo 0 (by decide) (by omega)] at ht
    rw [eo _ (by omega) (by omega)]; exact f t k ht hk
theorem h_W5.wd {s : Nat → Int} (h : h_W5 s) {l k : Nat} {v : Int} (hv : 0 ≤ v ∧ v ≤ 31) : h_W5 (m_u s (40 + 4 * l + k) v) := by
  have hz := h.1.1
  refine ⟨h.1.word hv, fun t i ht hi => ?_⟩
  rw [m_un (by omega)] at ht
  rw [m_un (by omega)]; exact h.2 t i ht hi
theorem h_W5.st {s : Nat → Int} (h : h_W5 s) {w : Nat} {v : Int} (hw : w < 8) (hv : m_lst w ≤ v ∧ v ≤ m_mst w) : h_W5 (m_u s (2 + w) v) := by
  refine ⟨h.1.set hw hv, fun t i ht hi => ?_⟩
  rw [m_un (by omega)] at ht
  rw [m_un (by omega)]; exact h.2 t i ht hi
theorem ps_ap_W {c : Int} {vs : List Int} {s s' : Nat → Int} (hW : h_W5 s) (hv : ∀ i, 0 ≤ vs.getD i 0 ∧ vs.getD i 0 ≤ 99) (h : ps_ap c vs s = some s') : h_W5 s' := by
  have v0 := hv 0
  have v1 := hv 1
  have v2 := hv 2
  have hz := hW.1.1
  unfold ps_ap at h
  split at h
  · split at h
    · cases h
    · cases h
      exact hW.sort (by omega) (by omega) (by omega)
  · split at h
    · split at h
      · cases h
      · cases h
        exact hW.lane (by omega) (by omega)
    · split at h
      · split at h
        · cases h
        · cases h
          exact hW.com (t := (vs.getD 1 0).toNat) (k := (vs.getD 0 0).toNat) (by omega) (by omega) (by omega)
      · split at h
        · cases h
        · cases h
          exact hW.wd (by omega)
theorem ps_r_W {T : Nat → Int} {n : Nat} : ∀ (f p : Nat) (s s' : Nat → Int), p ≤ n → h_W5 s → (∀ k, 64 ≤ k → s k = 0) → ps_r T n f p s = .inl s' → h_W5 s' ∧ ∀ k, 64 ≤ k → s' k = 0
  | 0, p, s, s', _, hW, h0, h => by simp only [ps_r] at h; cases h; exact ⟨hW, h0⟩
  | f + 1, p, s, s', hp, hW, h0, h => by
    simp only [ps_r] at h
    by_cases c : p < n
    · rw [if_pos c] at h
      have hvv := fun i => ps_st_v (T := T) (n := n) (p := p) hp i
      have hpp := ps_st_p (T := T) (n := n) (p := p) hp
      cases ha : ps_ap (ps_s T n p) (ps_st T n p).2.2 s with
      | none => rw [ha] at h; cases h
      | some s1 =>
        rw [ha] at h
        have hb := ps_ap_b hW.1.1 hvv ha
        exact ps_r_W f _ s1 s' hpp.2.1 (ps_ap_W hW hvv ha) (fun k hk => (hb.2 k hk).trans (h0 k hk)) h
    · rw [if_neg c] at h; cases h; exact ⟨hW, h0⟩
/-- other cells, the same state in what counts -/
theorem i_A.of {A A' : m_G} (h : i_A A) (h68 : A' 68 = A 68) (h66 : A' 66 5 = A 66 5) (h69 : A' 69 = A 69) (h8 : 0 ≤ A' 66 8 ∧ A' 66 8 ≤ 64) (h34 : 0 ≤ A' 66 34 ∧ A' 66 34 ≤ 5) : i_A A' := by
  unfold i_A
  rw [h68, h66, h69]
  exact ⟨h.1, h.2.1, h8, h34⟩
theorem i_A.no {A : m_G} (h : i_A A) (c : Int) : i_A (x_no A c).2 := by
  unfold x_no
  refine h.of ?_ ?_ ?_ ?_ ?_
  · simp only; rw [m_up_ne (by decide)]
  · simp only [m_upv]; simp
  · simp only; rw [m_up_ne (by decide)]
  · simp only [m_upv]; simp; exact h.2.2.1
  · simp only [m_upv]; simp; exact h.2.2.2
theorem i_A.far {A : m_G} (h : i_A A) (c : Int) : i_A (x_far (x_no A c)).2 := h.no c
theorem i_A.put {A : m_G} (h : i_A A) {k : Nat} {v : Int} (hk : k < 64) (hW : h_W5 (m_u (A 68) k v)) : i_A (m_up A 68 k v) := by
  have o66 : (m_up A 68 k v) 66 = A 66 := m_up_ne (by decide)
  have o69 : (m_up A 68 k v) 69 = A 69 := m_up_ne (by decide)
  unfold i_A
  rw [o66, o69, m_up_eq]
  exact ⟨⟨hW, fun i hi => by rw [m_un (by omega)]; exact h.1.2 i hi⟩, h.2⟩
theorem i_A.by' {A : m_G} (h : i_A A) (k : Nat) (t : Int) : i_A (x_by A k t).2 := by unfold x_by; split; exact h; exact h.no _
theorem i_A.ln {A : m_G} (h : i_A A) (k : Nat) (t : Int) : i_A (x_ln A k t).2 := by unfold x_ln; split; exact h; exact h.no _
theorem i_A.sort' {A : m_G} (h : i_A A) (t w : Int) : i_A (x_sort A t w).2 := by unfold x_sort; split; split; exact h; exact h.no _; exact h.no _
theorem i_A.lane' {A : m_G} (h : i_A A) (t w : Int) : i_A (x_lane A t w).2 := by unfold x_lane; split; exact h; exact h.no _
theorem i_A.word' {A : m_G} (h : i_A A) (l v : Int) : i_A (x_word A l v).2 := by
  have hz := h.1.1.1.1
  unfold x_word
  split
  · split
    · exact h.no _
    · split
      · exact h.no _
      · exact h.put (by omega) (h.1.1.wd (l := l.toNat) (k := 0) (by omega))
  · exact h.no _
theorem i_A.set' {A : m_G} (h : i_A A) (w v : Int) : i_A (x_set A w v).2 := by
  unfold x_set
  split
  · rename_i c
    split
    · exact h.no _
    · split
      · exact h.no _
      · refine h.put (by omega) (h.1.1.st (w := w.toNat) (by omega) ?_)
        rw [Int.toNat_of_nonneg c.1]; omega
  · exact h.no _
theorem i_A.come' {A : m_G} (h : i_A A) (k t n : Int) : i_A (x_come A k t n).2 := by
  have hz := h.1.1.1.1
  unfold x_come
  split
  · split
    · exact h.no _
    · split
      · exact h.no _
      · exact h.put (by omega) (h.1.1.com (by omega) (by omega) (by omega))
  · exact h.no _
theorem i_A.row' {A : m_G} (h : i_A A) (v : Int) : i_A (x_row A v).2 := by
  have h34 := h.2.2.2
  unfold x_row
  split
  · exact h.no _
  · split
    · exact h.no _
    · refine h.of ?_ ?_ ?_ ?_ ?_
      · simp only; rw [m_up_ne (by decide), m_up_ne (by decide)]
      · simp only [m_upv]; simp
      · simp only; rw [m_up_ne (by decide), m_up_ne (by decide)]
      · simp only [m_upv]; simp; exact h.2.2.1
      · simp only [m_upv]; simp; omega
theorem i_A.image' {A : m_G} (h : i_A A) : i_A (x_image A).2 := by
  unfold x_image i_A
  simp only
  rw [m_up_ne (show (68 : Nat) ≠ 66 by decide), m_up_ne (show (69 : Nat) ≠ 66 by decide), m_ce_ne (show (68 : Nat) ≠ 69 by decide), m_ce_eq]
  have o : ∀ k, k ≠ 5 → (m_up (m_ce A 69 (A 68)) 66 5 1) 66 k = A 66 k := fun k hk => by rw [m_up_eq, m_un hk, m_ce_ne (by decide)]
  rw [o 8 (by decide), o 34 (by decide), m_up_eq, m_us]
  exact ⟨h.1, ⟨Or.inr rfl, fun _ => h.1.1⟩, h.2.2⟩
theorem i_A.on' {A : m_G} (h : i_A A) : i_A (x_on A).2 := by
  unfold x_on
  split
  · exact h.no _
  · rename_i c
    unfold i_A
    simp only
    rw [m_ce_ne (show (66 : Nat) ≠ 68 by decide), m_ce_ne (show (69 : Nat) ≠ 68 by decide), m_ce_eq]
    exact ⟨⟨(h.2.1.2 c).low (fun k hk => by rw [if_pos hk]), fun k hk => by rw [if_neg (by omega)]; exact h.1.2 k hk⟩, h.2⟩
theorem i_A.feed' {A : m_G} (h : i_A A) (n : Int) (b : Int64) : i_A (x_feed A n b).2 := by
  have h8 := h.2.2.1
  unfold x_feed
  split
  · exact h.no _
  · split
    · exact h.no _
    · refine h.of ?_ ?_ ?_ ?_ ?_
      · simp only; rw [m_up_ne (by decide), m_ce_ne (by decide)]
      · simp only; rw [m_up_eq, m_un (by decide), m_ce_ne (by decide)]
      · simp only; rw [m_up_ne (by decide), m_ce_ne (by decide)]
      · simp only; rw [m_up_eq, m_us]; omega
      · simp only; rw [m_up_eq, m_un (by decide), m_ce_ne (by decide)]; exact h.2.2.2
theorem i_A.fewest' {A : m_G} (h : i_A A) (m : Int) : i_A (x_fewest A m).2 := by unfold x_fewest; split; exact h.no _; split; exact h.no _; exact h
theorem i_A.buys' {A : m_G} (h : i_A A) (a b c : Int) : i_A (x_buys A a b c).2 := by unfold x_buys; split; split; exact h.far _; split; exact h.far _; exact h; exact h.far _
theorem i_A.fails' {A : m_G} (h : i_A A) (a b c : Int) : i_A (x_fails A a b c).2 := by unfold x_fails; split; split; exact h.far _; split; exact h.far _; exact h; exact h.far _
theorem i_A.order' {A : m_G} (h : i_A A) (i : Int) : i_A (x_order A i).2 := by unfold x_order; split; exact h.no _; exact h
theorem i_A.rests' {A : m_G} (h : i_A A) (t : Int) : i_A (x_rests A t).2 := by unfold x_rests; split; exact h; exact h.no _
theorem i_A.mean' {A : m_G} (h : i_A A) (t p : Int) : i_A (x_mean A t p).2 := by unfold x_mean; split; split; exact h; exact h.no _; exact h.no _
theorem i_A.judge' {A : m_G} (h : i_A A) : i_A (x_judge A).2 := by
  unfold x_judge
  refine h.of ?_ ?_ ?_ ?_ ?_
  · simp only; rw [m_up_ne (by decide)]
  · simp only; rw [m_up_eq, m_un (by decide)]
  · simp only; rw [m_up_ne (by decide)]
  · simp only; rw [m_up_eq, m_un (by decide)]; exact h.2.2.1
  · simp only; rw [m_up_eq, m_us]; decide
theorem i_A.house' {A : m_G} (h : i_A A) : i_A (x_house A).2 := by
  have h0 : i_A (m_up A 66 8 0) := h.of (m_up_ne (by decide)) (by rw [m_up_eq, m_un (by decide)]) (m_up_ne (by decide)) (by rw [m_up_eq, m_us]; decide) (by rw [m_up_eq, m_un (by decide)]; exact h.2.2.2)
  unfold x_house
  split
  · cases hr : ps_r (A 72) (A 66 8).toNat 64 0 (A 68) with
    | inr p => exact h0
    | inl s =>
      have hw := ps_r_W 64 0 (A 68) s (Nat.zero_le _) h.1.1 h.1.2 hr
      unfold i_A
      simp only
      have o : ∀ k, k ≠ 8 → (m_up (m_ce A 68 s) 66 8 0) 66 k = A 66 k := fun k hk => by rw [m_up_eq, m_un hk, m_ce_ne (by decide)]
      rw [m_up_ne (show (68 : Nat) ≠ 66 by decide), m_up_ne (show (69 : Nat) ≠ 66 by decide), m_ce_ne (show (69 : Nat) ≠ 68 by decide), m_ce_eq, o 5 (by decide), o 34 (by decide), m_up_eq, m_us]
      exact ⟨hw, h.2.1, by decide, h.2.2.2⟩
  · exact h0
