set_option maxRecDepth 20000
set_option maxHeartbeats 2000000
/-- what is bought of a's in a quarter -/
def s_buy (s : Nat → Int) (a : Nat) (h : Int) (k : Nat) : Int := s (12 + 6 * a + k) * h / 100
def s_buys (s : Nat → Int) (a b : Nat) (h : Int) (n : Nat) : Nat → Int := fun j => if 12 + 6 * a ≤ j ∧ j < 12 + 6 * a + n then s j - s_buy s a h (j - (12 + 6 * a)) else if 12 + 6 * b ≤ j ∧ j < 12 + 6 * b + n then s j + s_buy s a h (j - (12 + 6 * b)) else s j
/-- a row of what is told, not in mind -/
def h_W5 (s : Nat → Int) : Prop := h_W s ∧ ∀ t k : Nat, (t : Int) < s 0 → k < 4 → s (12 + 6 * t + k) ≤ 25
theorem sumC_eq {s s' : Nat → Int} : ∀ n : Nat, (∀ t k : Nat, t < n → k < 4 → s' (12 + 6 * t + k) = s (12 + 6 * t + k)) → sumC s' n = sumC s n
  | 0, _ => rfl
  | n + 1, h => by
    have h0 := h n 0 (by omega) (by omega)
    have h1 := h n 1 (by omega) (by omega)
    have h2 := h n 2 (by omega) (by omega)
    have h3 := h n 3 (by omega) (by omega)
    rw [show 12 + 6 * n + 0 = 12 + 6 * n by omega] at h0
    rw [show 12 + 6 * n + 1 = 13 + 6 * n by omega] at h1
    rw [show 12 + 6 * n + 2 = 14 + 6 * n by omega] at h2
    rw [show 12 + 6 * n + 3 = 15 + 6 * n by omega] at h3
    simp only [sumC]
    rw [sumC_eq n (fun t k ht hk => h t k (by omega) hk), h0, h1, h2, h3]
theorem sumC_25 {s : Nat → Int} : ∀ n : Nat, (∀ t k : Nat, t < n → k < 4 → s (12 + 6 * t + k) ≤ 25) → sumC s n ≤ 100 * n
  | 0, _ => by simp [sumC]
  | n + 1, h => by
    have h0 := h n 0 (by omega) (by omega)
    have h1 := h n 1 (by omega) (by omega)
    have h2 := h n 2 (by omega) (by omega)
    have h3 := h n 3 (by omega) (by omega)
    rw [show 12 + 6 * n + 0 = 12 + 6 * n by omega] at h0
    rw [show 12 + 6 * n + 1 = 13 + 6 * n by omega] at h1
    rw [show 12 + 6 * n + 2 = 14 + 6 * n by omega] at h2
    rw [show 12 + 6 * n + 3 = 15 + 6 * n by omega] at h3
    have := sumC_25 n (fun t k ht hk => h t k (by omega) hk)
    simp only [sumC]
    omega
/-- rows that differ in settings and words -/
theorem h_W.words {s s' : Nat → Int} (h : h_W s) (h0 : ∀ j, j ≠ 1 → j < 40 → s' j = s j) (h1 : 0 ≤ s' 1 ∧ s' 1 ≤ 6) (h2 : ∀ l : Nat, (l : Int) < s' 1 → (∀ k, k < 4 → s' (40 + 4 * l + k) = -9 ∨ (0 ≤ s' (40 + 4 * l + k) ∧ s' (40 + 4 * l + k) ≤ 31)) ∧ 0 ≤ s' (40 + 4 * l)) : h_W s' := by
  obtain ⟨⟨a1, a2⟩, a3, a4, a5, a6⟩ := h
  have e := fun j hj hj2 => h0 j hj hj2
  have t5 : ∀ t : Nat, (t : Int) < s' 0 → t < 5 := fun t ht => by rw [h0 0 (by decide) (by decide)] at ht; omega
  refine ⟨⟨by rw [h0 0 (by decide) (by decide)]; exact a1, h1⟩, ?_, fun t ht => ?_, h2, ?_⟩
  · rw [h0 2 (by decide) (by decide), h0 3 (by decide) (by decide), h0 4 (by decide) (by decide), h0 5 (by decide) (by decide), h0 6 (by decide) (by decide), h0 7 (by decide) (by decide), h0 8 (by decide) (by decide), h0 9 (by decide) (by decide)]
    exact a3
  · have := t5 t ht
    rw [h0 0 (by decide) (by decide)] at ht
    rw [h0 _ (by omega) (by omega), h0 _ (by omega) (by omega)]
    refine ⟨(a4 t ht).1, (a4 t ht).2.1, fun k hk => ?_⟩
    rw [h0 _ (by omega) (by omega)]
    exact (a4 t ht).2.2 k hk
  · rw [h0 0 (by decide) (by decide), sumC_eq _ (fun t k ht hk => h0 _ (by omega) (by omega))]
    exact a6
theorem h_W.alone {s : Nat → Int} (h : h_W s) {l : Nat} {v : Int} (hv : 0 ≤ v ∧ v ≤ 31) : h_W (s_alone s l v) := by
  have us : ∀ j, j < 40 → s_alone s l v j = s j := fun j hj => by unfold s_alone; rw [if_neg (by omega), if_neg (by omega)]
  refine h.words (fun j h1 h2 => us j h2) (by rw [us 1 (by decide)]; exact h.1.2) (fun j hj => ?_)
  rw [us 1 (by decide)] at hj
  have := h.2.2.2.1 j hj
  unfold s_alone
  refine ⟨fun k hk => ?_, ?_⟩
  · split
    · exact Or.inr hv
    · split
      · exact Or.inl rfl
      · exact this.1 k hk
  · split
    · exact hv.1
    · rw [if_neg (by omega)]; exact this.2
theorem h_W.lanes {s : Nat → Int} (h : h_W s) {n : Int} (h0 : 0 ≤ n) (hn : n ≤ s 1) : h_W (m_u s 1 n) := by
  have hz := h.1.2
  refine h.words (fun j h1 h2 => m_un h1) (by rw [m_us]; omega) (fun j hj => ?_)
  rw [m_us] at hj
  have := h.2.2.2.1 j (by omega)
  rw [m_un (by omega)]
  refine ⟨fun k hk => ?_, this.2⟩
  rw [m_un (by omega)]
  exact this.1 k hk
theorem h_W.narrow {s : Nat → Int} (h : h_W s) : h_W (s_narrow s) := by
  have us : ∀ j, j < 40 → s_narrow s j = s j := fun j hj => by unfold s_narrow; rw [if_neg (by omega)]
  refine h.words (fun j h1 h2 => us j h2) (by rw [us 1 (by decide)]; exact h.1.2) (fun j hj => ?_)
  rw [us 1 (by decide)] at hj
  have hh := h.2.2.2.1 j hj
  unfold s_narrow
  refine ⟨fun k hk => ?_, ?_⟩
  · have := hh.1 k hk
    split
    · rename_i c
      exact Or.inr (m_lowW (by omega) (by omega))
    · exact this
  · have := hh.1 0 (by omega)
    rw [Nat.add_zero] at this
    split
    · rename_i c
      exact (m_lowW (by omega) (by omega)).1
    · exact hh.2
theorem h_W.word {s : Nat → Int} (h : h_W s) {l k : Nat} {v : Int} (hv : 0 ≤ v ∧ v ≤ 31) : h_W (m_u s (40 + 4 * l + k) v) := by
  refine h.words (fun j h1 h2 => m_un (by omega)) (by rw [m_un (by omega)]; exact h.1.2) (fun j hj => ?_)
  rw [m_un (by omega)] at hj
  have hh := h.2.2.2.1 j hj
  refine ⟨fun i hi => ?_, ?_⟩
  · by_cases e : 40 + 4 * j + i = 40 + 4 * l + k
    · rw [e, m_us]; exact Or.inr hv
    · rw [m_un e]; exact hh.1 i hi
  · by_cases e : 40 + 4 * j = 40 + 4 * l + k
    · rw [e, m_us]; exact hv.1
    · rw [m_un e]; exact hh.2
theorem h_W.set {s : Nat → Int} (h : h_W s) {w : Nat} {v : Int} (hw : w < 8) (hv : m_lst w ≤ v ∧ v ≤ m_mst w) : h_W (m_u s (2 + w) v) := by
  obtain ⟨⟨a1, a2⟩, a3, a4, a5, a6⟩ := h
  have us : ∀ j, j < 2 ∨ 10 ≤ j → m_u s (2 + w) v j = s j := fun j hj => m_un (by omega)
  have t5 : ∀ t : Nat, (t : Int) < s 0 → t < 5 := fun t ht => by omega
  refine ⟨⟨by rw [us 0 (by decide)]; exact a1, by rw [us 1 (by decide)]; exact a2⟩, ?_, fun t ht => ?_, fun l hl => ?_, ?_⟩
  · unfold m_lst m_mst at hv
    obtain ⟨b0, b1, b2, b3, b4, b5, b6, b7⟩ := a3
    have c : ∀ (j : Nat) (a b : Int), j < 8 → (a ≤ s (2 + j) ∧ s (2 + j) ≤ b) → (w = j → a ≤ v ∧ v ≤ b) → a ≤ m_u s (2 + w) v (2 + j) ∧ m_u s (2 + w) v (2 + j) ≤ b := by
      intro j a b _ h1 h2
      by_cases e : 2 + j = 2 + w
      · rw [e, m_us]; exact h2 (by omega)
      · rw [m_un e]; exact h1
    refine ⟨c 0 0 60 (by decide) b0 (fun e => ?_), c 1 0 20 (by decide) b1 (fun e => ?_), c 2 0 100 (by decide) b2 (fun e => ?_), c 3 0 99 (by decide) b3 (fun e => ?_), c 4 0 4 (by decide) b4 (fun e => ?_), c 5 1 60 (by decide) b5 (fun e => ?_), c 6 0 99 (by decide) b6 (fun e => ?_), c 7 0 9 (by decide) b7 (fun e => ?_)⟩ <;>
    · subst e; simpa using hv
  · rw [us 0 (by decide)] at ht
    rw [us _ (by omega), us _ (by omega)]
    refine ⟨(a4 t ht).1, (a4 t ht).2.1, fun k hk => ?_⟩
    rw [us _ (by omega)]
    exact (a4 t ht).2.2 k hk
  · rw [us 1 (by decide)] at hl
    rw [us _ (by omega)]
    refine ⟨fun k hk => ?_, (a5 l hl).2⟩
    rw [us _ (by omega)]
    exact (a5 l hl).1 k hk
  · rw [us 0 (by decide), sumC_eq _ (fun t k ht hk => us _ (by omega))]
    exact a6
/-- rows that differ in who comes -/
theorem h_W.coms {s s' : Nat → Int} (h : h_W s) (h0 : ∀ j, (∀ t k, t < 5 → k < 4 → j ≠ 12 + 6 * t + k) → s' j = s j) (h1 : ∀ t k : Nat, (t : Int) < s 0 → k < 4 → 0 ≤ s' (12 + 6 * t + k) ∧ s' (12 + 6 * t + k) ≤ 50) (h2 : sumC s' (s 0).toNat ≤ 500) : h_W s' := by
  obtain ⟨⟨a1, a2⟩, a3, a4, a5, a6⟩ := h
  have us : ∀ j, j < 12 → s' j = s j := fun j hj => h0 j (fun t k _ _ => by omega)
  have t5 : ∀ t : Nat, (t : Int) < s 0 → t < 5 := fun t ht => by omega
  refine ⟨⟨by rw [us 0 (by decide)]; exact a1, by rw [us 1 (by decide)]; exact a2⟩, ?_, fun t ht => ?_, fun l hl => ?_, by rw [us 0 (by decide)]; exact h2⟩
  · rw [us 2 (by decide), us 3 (by decide), us 4 (by decide), us 5 (by decide), us 6 (by decide), us 7 (by decide), us 8 (by decide), us 9 (by decide)]
    exact a3
  · rw [us 0 (by decide)] at ht
    rw [h0 (10 + 6 * t) (fun j k _ _ => by omega), h0 (11 + 6 * t) (fun j k _ _ => by omega)]
    exact ⟨(a4 t ht).1, (a4 t ht).2.1, fun k hk => h1 t k ht hk⟩
  · rw [us 1 (by decide)] at hl
    have w : ∀ j, 40 ≤ j → s' j = s j := fun j hj => h0 j (fun t k _ _ => by omega)
    rw [w _ (by omega)]
    refine ⟨fun k hk => ?_, (a5 l hl).2⟩
    rw [w _ (by omega)]
    exact (a5 l hl).1 k hk
theorem h_W5.com {s : Nat → Int} (h : h_W5 s) {t k : Nat} {n : Int} (ht : (t : Int) < s 0) (hk : k < 4) (hn : 0 ≤ n ∧ n ≤ 25) : h_W5 (m_u s (12 + 6 * t + k) n) := by
  have hz := h.1.1
  have c5 : ∀ j i : Nat, (j : Int) < s 0 → i < 4 → 0 ≤ m_u s (12 + 6 * t + k) n (12 + 6 * j + i) ∧ m_u s (12 + 6 * t + k) n (12 + 6 * j + i) ≤ 25 := by
    intro j i hj hi
    by_cases e : 12 + 6 * j + i = 12 + 6 * t + k
    · rw [e, m_us]; exact hn
    · rw [m_un e]; exact ⟨((h.1.2.2.1 j hj).2.2 i hi).1, h.2 j i hj hi⟩
  refine ⟨h.1.coms (fun j hj => m_un (hj t k (by omega) hk)) (fun j i hj hi => ⟨(c5 j i hj hi).1, by have := (c5 j i hj hi).2; omega⟩) ?_, fun j i hj hi => ?_⟩
  · have := sumC_25 (s := m_u s (12 + 6 * t + k) n) (s 0).toNat (fun j i hj hi => (c5 j i (by omega) hi).2)
    omega
  · rw [m_un (by omega)] at hj
    exact (c5 j i hj hi).2
theorem s_buy_b {s : Nat → Int} {a k : Nat} {h : Int} (h0 : 0 ≤ h ∧ h ≤ 100) (hc : 0 ≤ s (12 + 6 * a + k)) : 0 ≤ s_buy s a h k ∧ s_buy s a h k ≤ s (12 + 6 * a + k) := by
  unfold s_buy
  have h1 : 0 ≤ s (12 + 6 * a + k) * h := Int.mul_nonneg hc h0.1
  have h2 : s (12 + 6 * a + k) * h ≤ s (12 + 6 * a + k) * 100 := Int.mul_le_mul_of_nonneg_left h0.2 hc
  omega
theorem s_buys_sum {s : Nat → Int} {a b : Nat} {h : Int} (hab : a ≠ b) : ∀ n : Nat, sumC (s_buys s a b h 4) n = sumC s n + (if a < n then -(s_buy s a h 0 + s_buy s a h 1 + s_buy s a h 2 + s_buy s a h 3) else 0) + (if b < n then (s_buy s a h 0 + s_buy s a h 1 + s_buy s a h 2 + s_buy s a h 3) else 0)
  | 0 => by simp [sumC]
  | n + 1 => by
    have v : ∀ k, k < 4 → s_buys s a b h 4 (12 + 6 * n + k) = s (12 + 6 * n + k) + (if a = n then -(s_buy s a h k) else 0) + (if b = n then s_buy s a h k else 0) := by
      intro k hk
      unfold s_buys
      by_cases e : a = n
      · subst e
        rw [if_pos (by omega), if_pos rfl, if_neg (by omega), show 12 + 6 * a + k - (12 + 6 * a) = k by omega]; omega
      · rw [if_neg (by omega), if_neg e]
        by_cases e2 : b = n
        · subst e2
          rw [if_pos (by omega), if_pos rfl, show 12 + 6 * b + k - (12 + 6 * b) = k by omega]; omega
        · rw [if_neg (by omega), if_neg e2]; omega
    have v0 := v 0 (by decide)
    have v1 := v 1 (by decide)
    have v2 := v 2 (by decide)
    have v3 := v 3 (by decide)
    rw [show 12 + 6 * n + 0 = 12 + 6 * n by omega] at v0
    rw [show 12 + 6 * n + 1 = 13 + 6 * n by omega] at v1
    rw [show 12 + 6 * n + 2 = 14 + 6 * n by omega] at v2
    rw [show 12 + 6 * n + 3 = 15 + 6 * n by omega] at v3
    simp only [sumC]
    rw [s_buys_sum hab n, v0, v1, v2, v3]
    clear v v0 v1 v2 v3
    rcases Nat.lt_trichotomy a n with e | e | e <;> rcases Nat.lt_trichotomy b n with e2 | e2 | e2 <;>
    · first
      | omega
      | (simp only [show (a < n) = (a < n) from rfl]
         split <;> split <;> split <;> split <;> omega)
theorem h_W5.buys {s : Nat → Int} (h : h_W5 s) {a b : Nat} {c : Int} (ha : (a : Int) < s 0) (hb : (b : Int) < s 0) (hab : a ≠ b) (hc : 0 ≤ c ∧ c ≤ 100) : h_W (s_buys s a b c 4) := by
  have hz := h.1.1
  have c0 : ∀ j i : Nat, (j : Int) < s 0 → i < 4 → 0 ≤ s (12 + 6 * j + i) ∧ s (12 + 6 * j + i) ≤ 25 := fun j i hj hi => ⟨((h.1.2.2.1 j hj).2.2 i hi).1, h.2 j i hj hi⟩
  refine h.1.coms (fun j hj => ?_) (fun j i hj hi => ?_) ?_
  · unfold s_buys
    rw [if_neg (fun z => hj a (j - (12 + 6 * a)) (by omega) (by omega) (by omega)), if_neg (fun z => hj b (j - (12 + 6 * b)) (by omega) (by omega) (by omega))]
  · have h1 := c0 j i hj hi
    unfold s_buys
    by_cases e : 12 + 6 * a ≤ 12 + 6 * j + i ∧ 12 + 6 * j + i < 12 + 6 * a + 4
    · rw [if_pos e]
      have e2 : a = j := by omega
      subst e2
      rw [show 12 + 6 * a + i - (12 + 6 * a) = i by omega]
      have := s_buy_b (s := s) (a := a) (k := i) hc h1.1
      omega
    · rw [if_neg e]
      by_cases e3 : 12 + 6 * b ≤ 12 + 6 * j + i ∧ 12 + 6 * j + i < 12 + 6 * b + 4
      · rw [if_pos e3]
        have e2 : b = j := by omega
        subst e2
        rw [show 12 + 6 * b + i - (12 + 6 * b) = i by omega]
        have h2 := c0 a i ha hi
        have := s_buy_b (s := s) (a := a) (k := i) hc h2.1
        omega
      · rw [if_neg e3]; omega
  · rw [s_buys_sum hab, if_pos (by omega), if_pos (by omega)]
    have := h.1.2.2.2.2
    omega
