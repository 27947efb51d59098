set_option maxRecDepth 20000
set_option maxHeartbeats 2000000
/-- all that come of the first n sorts -/
def sumC (s : Nat → Int) : Nat → Int
  | 0 => 0
  | t + 1 => sumC s t + s (12 + 6 * t) + s (13 + 6 * t) + s (14 + 6 * t) + s (15 + 6 * t)
/-- numbers in range: what a row of the reference may hold -/
def h_W (s : Nat → Int) : Prop :=
  ((0 ≤ s 0 ∧ s 0 ≤ 5) ∧ 0 ≤ s 1 ∧ s 1 ≤ 6) ∧ ((0 ≤ s 2 ∧ s 2 ≤ 60) ∧ (0 ≤ s 3 ∧ s 3 ≤ 20) ∧ (0 ≤ s 4 ∧ s 4 ≤ 100) ∧ (0 ≤ s 5 ∧ s 5 ≤ 99) ∧ (0 ≤ s 6 ∧ s 6 ≤ 4) ∧ (1 ≤ s 7 ∧ s 7 ≤ 60) ∧ (0 ≤ s 8 ∧ s 8 ≤ 99) ∧ 0 ≤ s 9 ∧ s 9 ≤ 9) ∧
  (∀ t : Nat, (t : Int) < s 0 → (1 ≤ s (10 + 6 * t) ∧ s (10 + 6 * t) ≤ 60) ∧ (1 ≤ s (11 + 6 * t) ∧ s (11 + 6 * t) ≤ 99) ∧ ∀ k, k < 4 → 0 ≤ s (12 + 6 * t + k) ∧ s (12 + 6 * t + k) ≤ 50) ∧
  (∀ l : Nat, (l : Int) < s 1 → (∀ k, k < 4 → s (40 + 4 * l + k) = -9 ∨ (0 ≤ s (40 + 4 * l + k) ∧ s (40 + 4 * l + k) ≤ 31)) ∧ 0 ≤ s (40 + 4 * l)) ∧ sumC s (s 0).toNat ≤ 500
theorem m_w2 {x : Int} (h : 0 ≤ x) (h2 : x ≤ 2147483647) : m_wrap x = x := m_wrap_id ⟨by omega, h2⟩
theorem sumC_pos {s : Nat → Int} (hW : h_W s) : ∀ n : Nat, (n : Int) ≤ s 0 → 0 ≤ sumC s n ∧ sumC s n ≤ 200 * n := by
  intro n
  induction n with
  | zero => intro _; simp [sumC]
  | succ n ih =>
    intro h
    have h1 := ih (by omega)
    have h2 := (hW.2.2.1 n (by omega)).2.2
    have a0 := h2 0 (by omega)
    have a1 := h2 1 (by omega)
    have a2 := h2 2 (by omega)
    have a3 := h2 3 (by omega)
    rw [show 12 + 6 * n + 0 = 12 + 6 * n by omega] at a0
    rw [show 12 + 6 * n + 1 = 13 + 6 * n by omega] at a1
    rw [show 12 + 6 * n + 2 = 14 + 6 * n by omega] at a2
    rw [show 12 + 6 * n + 3 = 15 + 6 * n by omega] at a3
    simp only [sumC]
    omega
theorem p_allComers {b : Nat} (hb : m_hs b) {g : m_G} {s : Nat → Int} {q : m_Post} (hR : h_R g b s) (hW : h_W s) (h : q (some (.inl (sumC s (s 0).toNat))) g) : wX2_allComers.1 [.inr (.inr b)] g q := by
  have hz := hR.2.1
  have e0 := hR.1.1
  refine m_wp_of (by simp [m_fit]) (fun J hJ => ?_)
  simp only [m_ini, Nat.reduceSub, List.replicate]
  refine m_run_ok hJ (fun pc => pc == 4) 60 _ _ _ _ ?_
  simp only [e_go, rX2_allComers_0, rX2_allComers_1, rX2_allComers_2, rX2_allComers_3, rX2_allComers_4, rX2_allComers_5, rX2_allComers_6, rX2_allComers_9, rX2_allComers_12, rX2_allComers_13, rX2_allComers_14, rX2_allComers_15, rX2_allComers_16, rX2_allComers_19, rX2_allComers_20, rX2_allComers_21, rX2_allComers_24, rX2_allComers_25, rX2_allComers_26, rX2_allComers_27, rX2_allComers_28, rX2_allComers_29, rX2_allComers_30, rX2_allComers_31, rX2_allComers_32, rX2_allComers_35, rX2_allComers_38, rX2_allComers_41, rX2_allComers_44, rX2_allComers_45, e_ald0, e_bin, e_get, e_goto, e_iald, e_icmp, e_ild1, e_ild2, e_ild3, e_inc2, e_inc3, e_ist1, e_ist2, e_ist3, e_nl0, e_nl1, e_nl2, e_push, e_ret, m_b0, m_b01, m_b1, m_em, Classical.not_not, Nat.reduceBEq, Nat.reduceLT, Nat.reduceLeDiff, Nat.reduceAdd, cond_true, cond_false, Bool.or_false, Bool.false_or, Bool.or_true, Bool.true_or, beq_iff_eq, true_and, and_true, true_or, or_true, forall_const, not_true_eq_false, not_false_eq_true, false_implies, implies_true, Nat.reduceEqDiff, List.length_nil, List.length_cons, obH hb, fvH0 hb, fsH0 hb, fvH1 hb, fsH1 hb, fvH2 hb, fvH3 hb, fvH4 hb, fvH5 hb, fvH6 hb, fvH7 hb, kdH1 hb, lnH1 hb, ltH1 hb, kdH2 hb, lnH2 hb, ltH2 hb, kdH3 hb, lnH3 hb, ltH3 hb, kdH4 hb, lnH4 hb, ltH4 hb, kdH5 hb, lnH5 hb, ltH5 hb, kdH6 hb, lnH6 hb, ltH6 hb]
  have loop : ∀ (n i : Nat) (x3 : Option m_V), i + n = (s 0).toNat → J 4 [some (.inr (.inr b)), some (.inl (sumC s i)), some (.inl (i : Int)), x3] [] g := by
    intro n
    induction n with
    | zero =>
      intro i x3 hi
      refine m_run_ok hJ (fun pc => pc == 4) 60 _ _ _ _ ?_
      simp only [e_go, rX2_allComers_0, rX2_allComers_1, rX2_allComers_2, rX2_allComers_3, rX2_allComers_4, rX2_allComers_5, rX2_allComers_6, rX2_allComers_9, rX2_allComers_12, rX2_allComers_13, rX2_allComers_14, rX2_allComers_15, rX2_allComers_16, rX2_allComers_19, rX2_allComers_20, rX2_allComers_21, rX2_allComers_24, rX2_allComers_25, rX2_allComers_26, rX2_allComers_27, rX2_allComers_28, rX2_allComers_29, rX2_allComers_30, rX2_allComers_31, rX2_allComers_32, rX2_allComers_35, rX2_allComers_38, rX2_allComers_41, rX2_allComers_44, rX2_allComers_45, e_ald0, e_bin, e_get, e_goto, e_iald, e_icmp, e_ild1, e_ild2, e_ild3, e_inc2, e_inc3, e_ist1, e_ist2, e_ist3, e_nl0, e_nl1, e_nl2, e_push, e_ret, m_b0, m_b01, m_b1, m_em, Classical.not_not, Nat.reduceBEq, Nat.reduceLT, Nat.reduceLeDiff, Nat.reduceAdd, cond_true, cond_false, Bool.or_false, Bool.false_or, Bool.or_true, Bool.true_or, beq_iff_eq, true_and, and_true, true_or, or_true, forall_const, not_true_eq_false, not_false_eq_true, false_implies, implies_true, Nat.reduceEqDiff, List.length_nil, List.length_cons, obH hb, fvH0 hb, fsH0 hb, fvH1 hb, fsH1 hb, fvH2 hb, fvH3 hb, fvH4 hb, fvH5 hb, fvH6 hb, fvH7 hb, kdH1 hb, lnH1 hb, ltH1 hb, kdH2 hb, lnH2 hb, ltH2 hb, kdH3 hb, lnH3 hb, ltH3 hb, kdH4 hb, lnH4 hb, ltH4 hb, kdH5 hb, lnH5 hb, ltH5 hb, kdH6 hb, lnH6 hb, ltH6 hb]
      refine ⟨fun _ => ?_, fun c => absurd c (by omega)⟩
      rw [show i = (s 0).toNat by omega]; exact h
    | succ n ih =>
      intro i x3 hi
      have hs := sumC_pos hW i (by omega)
      have hs2 := sumC_pos hW (i + 1) (by omega)
      have hr := (hR.2.2.2.1 i (by omega)).2.2
      have hw := (hW.2.2.1 i (by omega)).2.2
      have b0 := hr 0 (by omega)
      have b1 := hr 1 (by omega)
      have b2 := hr 2 (by omega)
      have b3 := hr 3 (by omega)
      have a0 := hw 0 (by omega)
      have a1 := hw 1 (by omega)
      have a2 := hw 2 (by omega)
      have a3 := hw 3 (by omega)
      rw [show 12 + 6 * i + 0 = 12 + 6 * i by omega] at a0 b0
      rw [show 12 + 6 * i + 1 = 13 + 6 * i by omega] at a1 b1
      rw [show 12 + 6 * i + 2 = 14 + 6 * i by omega] at a2 b2
      rw [show 12 + 6 * i + 3 = 15 + 6 * i by omega] at a3 b3
      have hlt : ¬ (s 0 ≤ (i : Int)) := by omega
      have ih' := ih (i + 1) (some (.inl 4)) (by omega)
      refine m_run_ok hJ (fun pc => pc == 4) 120 _ _ _ _ ?_
      have f0 : m_wrap (m_wrap ((i : Int) * 4) + 0) = 4 * i + 0 := m_ix (by omega) (by omega) (by omega) (by omega)
      have f1 : m_wrap (m_wrap ((i : Int) * 4) + 1) = 4 * i + 1 := m_ix (by omega) (by omega) (by omega) (by omega)
      have f2 : m_wrap (m_wrap ((i : Int) * 4) + 2) = 4 * i + 2 := m_ix (by omega) (by omega) (by omega) (by omega)
      have f3 : m_wrap (m_wrap ((i : Int) * 4) + 3) = 4 * i + 3 := m_ix (by omega) (by omega) (by omega) (by omega)
      have k1 : m_wrap 1 = 1 := m_w1 (by decide) (by decide)
      have k2 : m_wrap 2 = 2 := m_w1 (by decide) (by decide)
      have k3 : m_wrap 3 = 3 := m_w1 (by decide) (by decide)
      have k4 : m_wrap 4 = 4 := m_w1 (by decide) (by decide)
      simp only [e_go, rX2_allComers_0, rX2_allComers_1, rX2_allComers_2, rX2_allComers_3, rX2_allComers_4, rX2_allComers_5, rX2_allComers_6, rX2_allComers_9, rX2_allComers_12, rX2_allComers_13, rX2_allComers_14, rX2_allComers_15, rX2_allComers_16, rX2_allComers_19, rX2_allComers_20, rX2_allComers_21, rX2_allComers_24, rX2_allComers_25, rX2_allComers_26, rX2_allComers_27, rX2_allComers_28, rX2_allComers_29, rX2_allComers_30, rX2_allComers_31, rX2_allComers_32, rX2_allComers_35, rX2_allComers_38, rX2_allComers_41, rX2_allComers_44, rX2_allComers_45, e_ald0, e_bin, e_get, e_goto, e_iald, e_icmp, e_ild1, e_ild2, e_ild3, e_inc2, e_inc3, e_ist1, e_ist2, e_ist3, e_nl0, e_nl1, e_nl2, e_push, e_ret, m_b0, m_b01, m_b1, m_em, Classical.not_not, Nat.reduceBEq, Nat.reduceLT, Nat.reduceLeDiff, Nat.reduceAdd, cond_true, cond_false, Bool.or_false, Bool.false_or, Bool.or_true, Bool.true_or, beq_iff_eq, true_and, and_true, true_or, or_true, forall_const, not_true_eq_false, not_false_eq_true, false_implies, implies_true, Nat.reduceEqDiff, List.length_nil, List.length_cons, obH hb, fvH0 hb, fsH0 hb, fvH1 hb, fsH1 hb, fvH2 hb, fvH3 hb, fvH4 hb, fvH5 hb, fvH6 hb, fvH7 hb, kdH1 hb, lnH1 hb, ltH1 hb, kdH2 hb, lnH2 hb, ltH2 hb, kdH3 hb, lnH3 hb, ltH3 hb, kdH4 hb, lnH4 hb, ltH4 hb, kdH5 hb, lnH5 hb, ltH5 hb, kdH6 hb, lnH6 hb, ltH6 hb, e0, Int.reduceAdd, Int.reduceLE, f0, f1, f2, f3, k1, k2, k3, k4]
      refine ⟨fun c => absurd c hlt, fun _ => ?_⟩
      rw [show (4 * (i : Int) + 0).toNat = 4 * i + 0 by omega, show (4 * (i : Int) + 1).toNat = 4 * i + 1 by omega, show (4 * (i : Int) + 2).toNat = 4 * i + 2 by omega, show (4 * (i : Int) + 3).toNat = 4 * i + 3 by omega, b0, b1, b2, b3]
      simp only [sumC] at ih' hs2
      rw [m_w2 (x := sumC s i + s (12 + 6 * i)) (by omega) (by omega), m_w2 (x := sumC s i + s (12 + 6 * i) + s (13 + 6 * i)) (by omega) (by omega), m_w2 (x := sumC s i + s (12 + 6 * i) + s (13 + 6 * i) + s (14 + 6 * i)) (by omega) (by omega), m_w2 (x := sumC s i + s (12 + 6 * i) + s (13 + 6 * i) + s (14 + 6 * i) + s (15 + 6 * i)) (by omega) (by omega), m_w2 (x := (i : Int) + 1) (by omega) (by omega)]
      refine ⟨by omega, by omega, by omega, by omega, ?_⟩
      exact ih'
  exact loop (s 0).toNat 0 none (by omega)
