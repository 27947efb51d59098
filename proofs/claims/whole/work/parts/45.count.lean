set_option maxRecDepth 20000
set_option maxHeartbeats 2000000
/-- of so many in a quarter, how many before its m-th second -/
def d_pre (n m : Nat) : Nat := (m * n + 899) / 900
theorem d_pre_step {n m : Nat} (hn : n ≤ 900) : d_pre n m ≤ d_pre n (m + 1) ∧ d_pre n (m + 1) ≤ d_pre n m + 1 := by
  unfold d_pre
  rw [Nat.add_mul, Nat.one_mul]
  omega
theorem d_pre_ex {n m : Nat} (hm : m < 900) : (∃ k, k < n ∧ k * 900 / n = m) ↔ d_pre n m < d_pre n (m + 1) := by
  unfold d_pre
  have hmn : (m + 1) * n ≤ 900 * n := Nat.mul_le_mul_right n (by omega)
  rw [Nat.add_mul, Nat.one_mul] at hmn ⊢
  generalize hX : m * n = X at hmn ⊢
  constructor
  · rintro ⟨k, hk, e⟩
    have h0 : 0 < n := by omega
    have h1 : m * n ≤ k * 900 := by
      have := Nat.div_mul_le_self (k * 900) n
      rw [e] at this; exact this
    have h2 : k * 900 < (m + 1) * n := by
      have := Nat.lt_div_mul_add (a := k * 900) h0
      rw [e] at this
      rw [Nat.add_mul, Nat.one_mul]; exact this
    rw [Nat.add_mul, Nat.one_mul] at h2
    rw [hX] at h1 h2
    omega
  · intro h
    have h0 : 0 < n := by omega
    refine ⟨(X + 899) / 900, by omega, ?_⟩
    have h1 : X ≤ (X + 899) / 900 * 900 := by omega
    have h2 : (X + 899) / 900 * 900 < X + n := by omega
    refine (Nat.div_eq_iff h0).2 ?_
    rw [Nat.mul_comm] at hX
    rw [Nat.mul_comm m n, hX]
    omega
/-- how many of a sort come before a second -/
def d_arr (s : Nat → Int) (t : Nat) : Nat → Nat
  | 0 => 0
  | n + 1 => d_arr s t n + (if d_at s t n = true then 1 else 0)
def d_qs (s : Nat → Int) (t : Nat) : Nat → Nat
  | 0 => 0
  | q + 1 => d_qs s t q + (s (12 + 6 * t + q)).toNat
theorem d_arr_S (s : Nat → Int) (t n : Nat) : d_arr s t (n + 1) = d_arr s t n + (if d_at s t n = true then 1 else 0) := rfl
theorem d_arr_le (s : Nat → Int) (t : Nat) : ∀ n, d_arr s t n ≤ n
  | 0 => Nat.le_refl 0
  | n + 1 => by have := d_arr_le s t n; simp only [d_arr]; split <;> omega
theorem d_arr_at {s : Nat → Int} (hW : h_W s) {t : Nat} (ht : (t : Int) < s 0) : ∀ n, n < 3600 → d_arr s t n = d_qs s t (n / 900) + d_pre (s (12 + 6 * t + n / 900)).toNat (n % 900)
  | 0, _ => by simp [d_arr, d_qs, d_pre]
  | n + 1, h => by
    have hq : n / 900 < 4 := by omega
    have hc := (hW.2.2.1 t ht).2.2 (n / 900) hq
    obtain ⟨N, hN⟩ : ∃ N : Nat, s (12 + 6 * t + n / 900) = (N : Int) := ⟨_, (Int.toNat_of_nonneg hc.1).symm⟩
    have ih := d_arr_at hW ht n (by omega)
    have ex := (d_at_iff hN (by omega : n < 3600)).trans (d_pre_ex (n := N) (m := n % 900) (by omega))
    have st := d_pre_step (n := N) (m := n % 900) (by omega)
    rw [hN, Int.toNat_natCast] at ih
    have now : d_arr s t (n + 1) = d_qs s t (n / 900) + d_pre N (n % 900 + 1) := by
      simp only [d_arr]
      rw [ih]
      by_cases c : d_at s t n = true
      · rw [if_pos c]; have := ex.1 c; omega
      · rw [if_neg c]; have hz := mt ex.2 c; omega
    rw [now]
    by_cases c : n % 900 = 899
    · rw [show (n + 1) / 900 = n / 900 + 1 by omega, show (n + 1) % 900 = 0 by omega, c]
      simp only [d_qs]
      rw [hN, Int.toNat_natCast]
      unfold d_pre
      omega
    · rw [show (n + 1) / 900 = n / 900 by omega, show (n + 1) % 900 = n % 900 + 1 by omega, hN, Int.toNat_natCast]
theorem d_arr_all {s : Nat → Int} (hW : h_W s) {t : Nat} (ht : (t : Int) < s 0) : ∀ i, d_arr s t (3600 + i) = d_qs s t 4
  | 0 => by
    have hc := (hW.2.2.1 t ht).2.2 3 (by decide)
    obtain ⟨N, hN⟩ : ∃ N : Nat, s (12 + 6 * t + 3) = (N : Int) := ⟨_, (Int.toNat_of_nonneg hc.1).symm⟩
    have ih := d_arr_at hW ht 3599 (by omega)
    rw [show 3599 / 900 = 3 by decide, show 3599 % 900 = 899 by decide, hN, Int.toNat_natCast] at ih
    have ex := (d_at_iff (s := s) (t := t) (now := 3599) hN (by omega)).trans (d_pre_ex (n := N) (m := 899) (by omega))
    have st := d_pre_step (n := N) (m := 899) (by omega)
    have e4 : d_qs s t 4 = d_qs s t 3 + N := by rw [show d_qs s t 4 = d_qs s t 3 + (s (12 + 6 * t + 3)).toNat from rfl, hN, Int.toNat_natCast]
    have e900 : d_pre N (899 + 1) = N := by unfold d_pre; omega
    show d_arr s t (3599 + 1) = _
    rw [d_arr_S, ih]
    by_cases c : d_at s t 3599 = true
    · rw [if_pos c]; have := ex.1 c; omega
    · rw [if_neg c]; have hz := mt ex.2 c; omega
  | i + 1 => by
    have h := d_arr_all hW ht i
    show d_arr s t (3600 + i + 1) = _
    rw [d_arr_S]
    rw [if_neg (by unfold d_at; simp; omega), h]
    rfl
/-- counts and sums in range, at a second -/
def d_K (s : Nat → Int) (n : Nat) (F : m_G) : Prop := ∀ t : Nat, ((t : Int) < s 0 → 0 ≤ F 7 t ∧ 0 ≤ F 6 t ∧ F 7 t + F 6 t = d_arr s t n) ∧ 0 ≤ F 4 t ∧ F 4 t ≤ 86400 * n
theorem d_stand_F (l : Nat) (t came need stray : Int) (σ : d_S) : ∀ i, i ≠ 7 → (d_stand l t came need stray σ).2 i = σ.2 i := fun i hi => by unfold d_stand; exact m_up_ne hi
theorem d_cnt_F (s : Nat → Int) (σ : d_S) : ∀ i, i ≠ 8 → (d_cnt s σ).2 i = σ.2 i := fun i hi => by unfold d_cnt; exact m_up_ne hi
/-- one that comes is taken or lost -/
theorem d_one_F {s : Nat → Int} {t : Nat} {now : Nat} {need : Int} {σ : d_S} : (∀ j, (d_one s t now need σ).2 4 j = σ.2 4 j) ∧ (∀ j, j ≠ t → (d_one s t now need σ).2 6 j = σ.2 6 j ∧ (d_one s t now need σ).2 7 j = σ.2 7 j) ∧ (((d_one s t now need σ).2 6 t = m_wrap (σ.2 6 t + 1) ∧ (d_one s t now need σ).2 7 t = σ.2 7 t) ∨ ((d_one s t now need σ).2 6 t = σ.2 6 t ∧ (d_one s t now need σ).2 7 t = m_wrap (σ.2 7 t + 1))) := by
  unfold d_one d_put
  simp only [Int.toNat_natCast]
  have c4 := d_cnt_F s σ 4 (by decide)
  have c6 := d_cnt_F s σ 6 (by decide)
  have c7 := d_cnt_F s σ 7 (by decide)
  split
  · simp only [m_up_eq, m_up_ne, ne_eq, Nat.reduceEqDiff, not_false_eq_true]
    rw [c4, c6, c7]
    exact ⟨fun j => rfl, fun j hj => ⟨m_un hj, rfl⟩, Or.inl ⟨m_us, rfl⟩⟩
  · split
    · unfold d_stand
      simp only [m_up_eq, m_up_ne, ne_eq, Nat.reduceEqDiff, not_false_eq_true, Int.toNat_natCast]
      rw [c4, c6, c7]
      exact ⟨fun j => rfl, fun j hj => ⟨rfl, m_un hj⟩, Or.inr ⟨rfl, m_us⟩⟩
    · unfold d_stand
      simp only [m_up_eq, m_up_ne, ne_eq, Nat.reduceEqDiff, not_false_eq_true, Int.toNat_natCast]
      rw [c4, c6, c7]
      exact ⟨fun j => rfl, fun j hj => ⟨rfl, m_un hj⟩, Or.inr ⟨rfl, m_us⟩⟩
theorem d_come_F {s : Nat → Int} {nd : Nat → Nat → Int} {now : Nat} {σ : d_S} (hK : d_K s now σ.2) (hn : now ≤ 7200) : ∀ T : Nat, (∀ j, (d_come s nd now T σ).2 4 j = σ.2 4 j) ∧ (∀ j : Nat, (j : Int) < s 0 → 0 ≤ (d_come s nd now T σ).2 7 j ∧ 0 ≤ (d_come s nd now T σ).2 6 j ∧ (d_come s nd now T σ).2 7 j + (d_come s nd now T σ).2 6 j = d_arr s j now + (if j < T ∧ d_at s j now = true then 1 else 0))
  | 0 => ⟨fun j => rfl, fun j hj0 => by have := (hK j).1 hj0; simp only [d_come]; rw [if_neg (by omega)]; omega⟩
  | T + 1 => by
    obtain ⟨h1, h2⟩ := d_come_F (nd := nd) hK hn T
    simp only [d_come]
    by_cases c : d_at s T now = true
    · rw [if_pos c]
      obtain ⟨o1, o2, o3⟩ := d_one_F (s := s) (t := T) (now := now) (need := nd T (now / 900)) (σ := d_come s nd now T σ)
      refine ⟨fun j => (o1 j).trans (h1 j), fun j hj0 => ?_⟩
      have hj := h2 j hj0
      by_cases e : j = T
      · subst e
        rw [if_neg (by omega)] at hj
        rw [if_pos ⟨by omega, c⟩]
        have := d_arr_le s j now
        rcases o3 with ⟨a, b⟩ | ⟨a, b⟩
        · rw [a, b, m_w2 (by omega) (by omega)]; omega
        · rw [a, b, m_w2 (by omega) (by omega)]; omega
      · obtain ⟨a, b⟩ := o2 j e
        rw [a, b]
        by_cases e2 : j < T ∧ d_at s j now = true
        · rw [if_pos e2] at hj; rw [if_pos ⟨by omega, e2.2⟩]; exact hj
        · rw [if_neg e2] at hj; rw [if_neg (fun z => e2 ⟨by omega, z.2⟩)]; exact hj
    · rw [if_neg c]
      refine ⟨h1, fun j hj0 => ?_⟩
      have hj := h2 j hj0
      by_cases e2 : j < T ∧ d_at s j now = true
      · rw [if_pos e2] at hj; rw [if_pos ⟨by omega, e2.2⟩]; exact hj
      · rw [if_neg e2] at hj; rw [if_neg (fun z => e2 ⟨by have := z.1; by_cases e : j = T; · subst e; exact absurd z.2 c
                                                          · omega, z.2⟩)]; exact hj
