theorem p_isQuarter {k : Int} {g : m_G} {q : m_Post} (h : q (some (.inl (if 0 ≤ k ∧ k < 4 then 1 else 0))) g) : wX8_isQuarter.1 [.inl k] g q := by
  refine m_wp_of (by simp [m_fit]) (fun J hJ => ?_)
  simp only [m_ini]
  refine m_run_ok hJ (fun _ => false) 20 _ _ _ _ ?_
  simp only [e_go, rX8_isQuarter_0, rX8_isQuarter_1, rX8_isQuarter_4, rX8_isQuarter_5, rX8_isQuarter_6, rX8_isQuarter_9, rX8_isQuarter_10, rX8_isQuarter_13, rX8_isQuarter_14, e_goto, e_icmp, e_if, e_ild0, e_push, e_retz, Nat.reduceBEq, Nat.reduceLT, Nat.reduceLeDiff, Nat.reduceAdd, cond_true, cond_false, Bool.or_false, Bool.false_or, Bool.or_true, Bool.true_or, beq_iff_eq, true_and, and_true, true_or, or_true, forall_const, not_true_eq_false, not_false_eq_true, false_implies, implies_true, Nat.reduceEqDiff, List.length_nil, List.length_cons]
  grind
theorem p_hasSort {b : Nat} (hb : m_hs b) {t : Int} {g : m_G} {q : m_Post} (h : q (some (.inl (if 0 ≤ t ∧ t < g b 0 then 1 else 0))) g) : wX2_hasSort.1 [.inr (.inr b), .inl t] g q := by
  refine m_wp_of (by simp [m_fit]) (fun J hJ => ?_)
  simp only [m_ini]
  refine m_run_ok hJ (fun _ => false) 20 _ _ _ _ ?_
  simp only [e_go, rX2_hasSort_0, rX2_hasSort_1, rX2_hasSort_4, rX2_hasSort_5, rX2_hasSort_6, rX2_hasSort_9, rX2_hasSort_12, rX2_hasSort_13, rX2_hasSort_16, rX2_hasSort_17, e_ald0, e_get, e_goto, e_icmp, e_if, e_ild1, e_push, e_retz, Nat.reduceBEq, Nat.reduceLT, Nat.reduceLeDiff, Nat.reduceAdd, cond_true, cond_false, Bool.or_false, Bool.false_or, Bool.or_true, Bool.true_or, beq_iff_eq, true_and, and_true, true_or, or_true, forall_const, not_true_eq_false, not_false_eq_true, false_implies, implies_true, Nat.reduceEqDiff, List.length_nil, List.length_cons, obH hb, fvH0 hb, fsH0 hb, fvH1 hb, fsH1 hb, fvH2 hb, fvH3 hb, fvH4 hb, fvH5 hb, fvH6 hb, fvH7 hb, kdH1 hb, lnH1 hb, ltH1 hb, kdH2 hb, lnH2 hb, ltH2 hb, kdH3 hb, lnH3 hb, ltH3 hb, kdH4 hb, lnH4 hb, ltH4 hb, kdH5 hb, lnH5 hb, ltH5 hb, kdH6 hb, lnH6 hb, ltH6 hb]
  grind
