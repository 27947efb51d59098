set_option maxRecDepth 20000
set_option maxHeartbeats 2000000
noncomputable section
def a_gcd (a b : Int) : Int := ((Nat.gcd a.toNat b.toNat : Nat) : Int)
def a_mn (σ : d_S) (t : Nat) (p : Int) : Int := if σ.2 7 t = 0 then p else if p = 0 then σ.2 4 t / a_gcd (σ.2 7 t) (σ.2 4 t) else σ.2 7 t / a_gcd (σ.2 7 t) (σ.2 4 t)
def x_mean (A : m_G) (t p : Int) : Int × m_G := if 0 ≤ t ∧ t < A 68 0 then (if 0 ≤ p ∧ p < 2 then (a_mn (a_day (A 68)) t.toNat p, A) else x_no A (-2)) else x_no A (-1)
def a_mean (σ : d_S) (t : Nat) : Int := if σ.2 7 t = 0 then 0 else σ.2 4 t / σ.2 7 t
/-- the first sort whose wait is not as told, of the first so many -/
def jd (σ : d_S) (w : Nat → Int) (n : Int) : Nat → Int
  | 0 => -9
  | t + 1 => if 0 ≤ jd σ w n t then jd σ w n t else if (t : Int) = n then n else if w t = a_mean σ t then -9 else (t : Int)
def x_judge (A : m_G) : Int × m_G := (if 0 ≤ jd (a_day (A 68)) (A 90) (A 66 34) (A 68 0).toNat then jd (a_day (A 68)) (A 90) (A 66 34) (A 68 0).toNat else if A 68 0 < A 66 34 then A 68 0 else -9, m_up A 66 34 0)
def d_gone (σ : d_S) : Nat → Int
  | 0 => 0
  | t + 1 => m_wrap (d_gone σ t + σ.2 5 t)
def a_count (A : m_G) (w : Int) : Int := if 10 < w ∧ w < 17 then A 67 (w - 10).toNat else if w = 0 then A 68 0 else if w = 1 then A 68 1 else if w = 2 then sumC (A 68) (A 68 0).toNat else if w = 3 then d_gone (a_day (A 68)) (A 68 0).toNat else if w = 4 then sumG (A 68) (A 68 1).toNat else if w = 5 then A 66 34 else if w = 6 then A 66 8 else -9
def x_count (A : m_G) (w : Int) : Int × m_G := (a_count A w, A)
end
theorem m_half {a b : Nat} (hb : 0 < a % b) (h0 : 0 < b) {k : Nat} (h : b < 2 ^ (k + 1)) : b % (a % b) < 2 ^ k := by
  have h1 : a % b < b := Nat.mod_lt _ h0
  have h2 : b % (a % b) < a % b := Nat.mod_lt _ hb
  have h3 := Nat.div_add_mod b (a % b)
  have h4 : 1 ≤ b / (a % b) := Nat.div_pos (Nat.le_of_lt h1) hb
  have h5 : a % b ≤ (a % b) * (b / (a % b)) := Nat.le_mul_of_pos_right _ h4
  have h6 : 2 ^ (k + 1) = 2 * 2 ^ k := by rw [Nat.pow_succ, Nat.mul_comm]
  omega
theorem m_tmod {a b : Nat} : ((a : Int)).tmod (b : Int) = ((a % b : Nat) : Int) := by rw [Int.tmod_eq_emod_of_nonneg (Int.natCast_nonneg a)]; rfl
theorem p9_common : ∀ (k n a b : Nat) {g : m_G} {q : m_Post}, 2 * k + 1 ≤ n → b < 2 ^ k → a < 1000000000 → b < 1000000000 → q (some (.inl ((Nat.gcd a b : Nat) : Int))) g → (wX9_common n).1 [.inl a, .inl b] g q := by
  intro k
  induction k with
  | zero =>
    intro n a b g q hn hb ha hbb h
    obtain ⟨n, rfl⟩ : ∃ m, n = m + 1 := ⟨n - 1, by omega⟩
    have e : b = 0 := by simp at hb; exact hb
    subst e
    show (m_wp 2 (kX9_common (wX9_common n))).1 _ _ _
    generalize wX9_common n = K
    refine m_wp_of (by simp [m_fit]) (fun J hJ => ?_)
    simp only [m_ini, Nat.reduceSub, List.replicate]
    refine m_run_ok hJ (fun _ => false) 40 _ _ _ _ ?_
    simp only [e_go, rX9_common_0, rX9_common_1, rX9_common_4, rX9_common_5, rX9_common_8, rX9_common_9, rX9_common_10, rX9_common_11, rX9_common_12, rX9_common_15, e_callS2, e_goto, e_if, e_ild0, e_ild1, e_pushn, e_pushs, e_rem, e_ret, m_b0, m_b01, m_b1, m_em, Classical.not_not, Nat.reduceBEq, Nat.reduceLT, Nat.reduceLeDiff, Nat.reduceAdd, cond_true, cond_false, Bool.or_false, Bool.false_or, Bool.or_true, Bool.true_or, beq_iff_eq, true_and, and_true, true_or, or_true, forall_const, not_true_eq_false, not_false_eq_true, false_implies, implies_true, Nat.reduceEqDiff, List.length_nil, List.length_cons]
    rw [Nat.gcd_zero_right] at h
    exact ⟨fun z => absurd rfl z, fun _ => h⟩
  | succ k ih =>
    intro n a b g q hn hb ha hbb h
    obtain ⟨n, rfl⟩ : ∃ m, n = m + 1 := ⟨n - 1, by omega⟩
    show (m_wp 2 (kX9_common (wX9_common n))).1 _ _ _
    generalize hK : wX9_common n = K
    refine m_wp_of (by simp [m_fit]) (fun J hJ => ?_)
    simp only [m_ini, Nat.reduceSub, List.replicate]
    refine m_run_ok hJ (fun _ => false) 40 _ _ _ _ ?_
    simp only [e_go, rX9_common_0, rX9_common_1, rX9_common_4, rX9_common_5, rX9_common_8, rX9_common_9, rX9_common_10, rX9_common_11, rX9_common_12, rX9_common_15, e_callS2, e_goto, e_if, e_ild0, e_ild1, e_pushn, e_pushs, e_rem, e_ret, m_b0, m_b01, m_b1, m_em, Classical.not_not, Nat.reduceBEq, Nat.reduceLT, Nat.reduceLeDiff, Nat.reduceAdd, cond_true, cond_false, Bool.or_false, Bool.false_or, Bool.or_true, Bool.true_or, beq_iff_eq, true_and, and_true, true_or, or_true, forall_const, not_true_eq_false, not_false_eq_true, false_implies, implies_true, Nat.reduceEqDiff, List.length_nil, List.length_cons]
    refine ⟨fun c => ⟨c, ?_⟩, fun c => ?_⟩
    · have h0 : 0 < b := by omega
      have hr : a % b < b := Nat.mod_lt _ h0
      rw [m_tmod, ← hK]
      rw [Nat.gcd_comm, Nat.gcd_rec, Nat.gcd_comm] at h
      have two : ∀ q2 : m_Post, q2 (some (.inl ((Nat.gcd b (a % b) : Nat) : Int))) g → (wX9_common n).1 [.inl b, .inl ((a % b : Nat) : Int)] g q2 := by
        intro q2 h2
        obtain ⟨n, rfl⟩ : ∃ m, n = m + 1 := ⟨n - 1, by omega⟩
        show (m_wp 2 (kX9_common (wX9_common n))).1 _ _ _
        generalize hK2 : wX9_common n = K2
        refine m_wp_of (by simp [m_fit]) (fun J hJ => ?_)
        simp only [m_ini, Nat.reduceSub, List.replicate]
        refine m_run_ok hJ (fun _ => false) 40 _ _ _ _ ?_
        simp only [e_go, rX9_common_0, rX9_common_1, rX9_common_4, rX9_common_5, rX9_common_8, rX9_common_9, rX9_common_10, rX9_common_11, rX9_common_12, rX9_common_15, e_callS2, e_goto, e_if, e_ild0, e_ild1, e_pushn, e_pushs, e_rem, e_ret, m_b0, m_b01, m_b1, m_em, Classical.not_not, Nat.reduceBEq, Nat.reduceLT, Nat.reduceLeDiff, Nat.reduceAdd, cond_true, cond_false, Bool.or_false, Bool.false_or, Bool.or_true, Bool.true_or, beq_iff_eq, true_and, and_true, true_or, or_true, forall_const, not_true_eq_false, not_false_eq_true, false_implies, implies_true, Nat.reduceEqDiff, List.length_nil, List.length_cons]
        refine ⟨fun c => ⟨c, ?_⟩, fun c => ?_⟩
        · rw [m_tmod, ← hK2]
          rw [Nat.gcd_comm, Nat.gcd_rec, Nat.gcd_comm] at h2
          have h9 : b % (a % b) < a % b := Nat.mod_lt _ (by omega)
          refine ih n (a % b) (b % (a % b)) (by omega) (m_half (by omega) h0 hb) (by omega) (by omega) ?_
          simp only [e_go, rX9_common_0, rX9_common_1, rX9_common_4, rX9_common_5, rX9_common_8, rX9_common_9, rX9_common_10, rX9_common_11, rX9_common_12, rX9_common_15, e_callS2, e_goto, e_if, e_ild0, e_ild1, e_pushn, e_pushs, e_rem, e_ret, m_b0, m_b01, m_b1, m_em, Classical.not_not, Nat.reduceBEq, Nat.reduceLT, Nat.reduceLeDiff, Nat.reduceAdd, cond_true, cond_false, Bool.or_false, Bool.false_or, Bool.or_true, Bool.true_or, beq_iff_eq, true_and, and_true, true_or, or_true, forall_const, not_true_eq_false, not_false_eq_true, false_implies, implies_true, Nat.reduceEqDiff, List.length_nil, List.length_cons]
          exact h2
        · have e : a % b = 0 := by omega
          rw [e, Nat.gcd_zero_right] at h2
          exact h2
      refine two _ ?_
      simp only [e_go, rX9_common_0, rX9_common_1, rX9_common_4, rX9_common_5, rX9_common_8, rX9_common_9, rX9_common_10, rX9_common_11, rX9_common_12, rX9_common_15, e_callS2, e_goto, e_if, e_ild0, e_ild1, e_pushn, e_pushs, e_rem, e_ret, m_b0, m_b01, m_b1, m_em, Classical.not_not, Nat.reduceBEq, Nat.reduceLT, Nat.reduceLeDiff, Nat.reduceAdd, cond_true, cond_false, Bool.or_false, Bool.false_or, Bool.or_true, Bool.true_or, beq_iff_eq, true_and, and_true, true_or, or_true, forall_const, not_true_eq_false, not_false_eq_true, false_implies, implies_true, Nat.reduceEqDiff, List.length_nil, List.length_cons]
      exact h
    · have e : b = 0 := by omega
      subst e
      rw [Nat.gcd_zero_right] at h
      exact h
