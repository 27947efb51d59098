theorem m_b0 {c : Prop} [Decidable c] : ((if c then (1 : Int) else 0) = 0) = (¬ c) := by by_cases h : c <;> simp [h]
theorem m_b01 {c : Prop} [Decidable c] : ((if c then (1 : Int) else 0) = 0 ∨ (if c then (1 : Int) else 0) = 1) = True := by by_cases h : c <;> simp [h]
theorem m_w1 {x : Int} (h : -2147483648 ≤ x) (h2 : x ≤ 2147483647) : m_wrap x = x := m_wrap_id ⟨h, h2⟩
theorem p_isQuarter {k : Int} {g : m_G} {q : m_Post} (h : q (some (.inl (if 0 ≤ k ∧ k < 4 then 1 else 0))) g) : wX8_isQuarter.1 [.inl k] g q := by
  refine m_wp_of (by simp [m_fit]) (fun J hJ => ?_)
  simp only [m_ini]
  refine m_run_ok hJ (fun _ => false) 20 _ _ _ _ ?_
  simp only [e_go, rX8_isQuarter_0, rX8_isQuarter_1, rX8_isQuarter_4, rX8_isQuarter_5, rX8_isQuarter_6, rX8_isQuarter_9, rX8_isQuarter_10, rX8_isQuarter_13, rX8_isQuarter_14, e_goto, e_icmp, e_if, e_ild0, e_push, e_retz, m_b0, m_b01, Classical.not_not, Nat.reduceBEq, Nat.reduceLT, Nat.reduceLeDiff, Nat.reduceAdd, cond_true, cond_false, Bool.or_false, Bool.false_or, Bool.or_true, Bool.true_or, beq_iff_eq, true_and, and_true, true_or, or_true, forall_const, not_true_eq_false, not_false_eq_true, false_implies, implies_true, Nat.reduceEqDiff, List.length_nil, List.length_cons]
  grind
theorem p_hasBit {w k : Int} {g : m_G} {q : m_Post} (h : q (some (.inl (if m_iand (m_ishr w k) 1 = 1 then 1 else 0))) g) : wX8_hasBit.1 [.inl w, .inl k] g q := by
  refine m_wp_of (by simp [m_fit]) (fun J hJ => ?_)
  simp only [m_ini]
  refine m_run_ok hJ (fun _ => false) 20 _ _ _ _ ?_
  simp only [e_go, rX8_hasBit_0, rX8_hasBit_1, rX8_hasBit_2, rX8_hasBit_3, rX8_hasBit_4, rX8_hasBit_5, rX8_hasBit_6, rX8_hasBit_9, rX8_hasBit_10, rX8_hasBit_13, rX8_hasBit_14, e_bin, e_goto, e_icmp, e_ild0, e_ild1, e_push, e_retz, m_b0, m_b01, Classical.not_not, Nat.reduceBEq, Nat.reduceLT, Nat.reduceLeDiff, Nat.reduceAdd, cond_true, cond_false, Bool.or_false, Bool.false_or, Bool.or_true, Bool.true_or, beq_iff_eq, true_and, and_true, true_or, or_true, forall_const, not_true_eq_false, not_false_eq_true, false_implies, implies_true, Nat.reduceEqDiff, List.length_nil, List.length_cons]
  grind
/-- how many sorts and lanes a house may have -/
def m_hz (g : m_G) (b : Nat) : Prop := (0 ≤ g b 0 ∧ g b 0 ≤ 5) ∧ 0 ≤ g b 1 ∧ g b 1 ≤ 6
theorem p_hasSort {b : Nat} (hb : m_hs b) {t : Int} {g : m_G} {q : m_Post} (h : q (some (.inl (if 0 ≤ t ∧ t < g b 0 then 1 else 0))) g) : wX2_hasSort.1 [.inr (.inr b), .inl t] g q := by
  refine m_wp_of (by simp [m_fit]) (fun J hJ => ?_)
  simp only [m_ini]
  refine m_run_ok hJ (fun _ => false) 20 _ _ _ _ ?_
  simp only [e_go, rX2_hasSort_0, rX2_hasSort_1, rX2_hasSort_4, rX2_hasSort_5, rX2_hasSort_6, rX2_hasSort_9, rX2_hasSort_12, rX2_hasSort_13, rX2_hasSort_16, rX2_hasSort_17, e_ald0, e_get, e_goto, e_icmp, e_if, e_ild1, e_push, e_retz, m_b0, m_b01, Classical.not_not, Nat.reduceBEq, Nat.reduceLT, Nat.reduceLeDiff, Nat.reduceAdd, cond_true, cond_false, Bool.or_false, Bool.false_or, Bool.or_true, Bool.true_or, beq_iff_eq, true_and, and_true, true_or, or_true, forall_const, not_true_eq_false, not_false_eq_true, false_implies, implies_true, Nat.reduceEqDiff, List.length_nil, List.length_cons, obH hb, fvH0 hb, fsH0 hb, fvH1 hb, fsH1 hb, fvH2 hb, fvH3 hb, fvH4 hb, fvH5 hb, fvH6 hb, fvH7 hb, kdH1 hb, lnH1 hb, ltH1 hb, kdH2 hb, lnH2 hb, ltH2 hb, kdH3 hb, lnH3 hb, ltH3 hb, kdH4 hb, lnH4 hb, ltH4 hb, kdH5 hb, lnH5 hb, ltH5 hb, kdH6 hb, lnH6 hb, ltH6 hb]
  grind
theorem p_hasLane {b : Nat} (hb : m_hs b) {t : Int} {g : m_G} {q : m_Post} (h : q (some (.inl (if 0 ≤ t ∧ t < g b 1 then 1 else 0))) g) : wX2_hasLane.1 [.inr (.inr b), .inl t] g q := by
  refine m_wp_of (by simp [m_fit]) (fun J hJ => ?_)
  simp only [m_ini]
  refine m_run_ok hJ (fun _ => false) 20 _ _ _ _ ?_
  simp only [e_go, rX2_hasLane_0, rX2_hasLane_1, rX2_hasLane_4, rX2_hasLane_5, rX2_hasLane_6, rX2_hasLane_9, rX2_hasLane_12, rX2_hasLane_13, rX2_hasLane_16, rX2_hasLane_17, e_ald0, e_get, e_goto, e_icmp, e_if, e_ild1, e_push, e_retz, m_b0, m_b01, Classical.not_not, Nat.reduceBEq, Nat.reduceLT, Nat.reduceLeDiff, Nat.reduceAdd, cond_true, cond_false, Bool.or_false, Bool.false_or, Bool.or_true, Bool.true_or, beq_iff_eq, true_and, and_true, true_or, or_true, forall_const, not_true_eq_false, not_false_eq_true, false_implies, implies_true, Nat.reduceEqDiff, List.length_nil, List.length_cons, obH hb, fvH0 hb, fsH0 hb, fvH1 hb, fsH1 hb, fvH2 hb, fvH3 hb, fvH4 hb, fvH5 hb, fvH6 hb, fvH7 hb, kdH1 hb, lnH1 hb, ltH1 hb, kdH2 hb, lnH2 hb, ltH2 hb, kdH3 hb, lnH3 hb, ltH3 hb, kdH4 hb, lnH4 hb, ltH4 hb, kdH5 hb, lnH5 hb, ltH5 hb, kdH6 hb, lnH6 hb, ltH6 hb]
  grind
theorem p_comersOf {b : Nat} (hb : m_hs b) {t k : Int} {g : m_G} {q : m_Post} (hz : m_hz g b) (h : q (some (.inl (if (0 ≤ t ∧ t < g b 0) ∧ 0 ≤ k ∧ k < 4 then g (b + 3) (4 * t + k).toNat else 0))) g) : wX2_comersOf.1 [.inr (.inr b), .inl t, .inl k] g q := by
  obtain ⟨hz1, hz2⟩ := hz
  refine m_wp_of (by simp [m_fit]) (fun J hJ => ?_)
  simp only [m_ini]
  refine m_run_ok hJ (fun _ => false) 30 _ _ _ _ ?_
  simp only [e_go, rX2_comersOf_0, rX2_comersOf_1, rX2_comersOf_2, rX2_comersOf_5, rX2_comersOf_8, rX2_comersOf_9, rX2_comersOf_12, rX2_comersOf_15, rX2_comersOf_16, rX2_comersOf_19, rX2_comersOf_20, rX2_comersOf_21, rX2_comersOf_22, rX2_comersOf_23, rX2_comersOf_24, rX2_comersOf_25, rX2_comersOf_28, rX2_comersOf_29, e_ald0, e_bin, e_callS1, e_callV2, e_get, e_goto, e_iald, e_if, e_ild1, e_ild2, e_push, e_pushn, e_pushs, e_ret, m_b0, m_b01, Classical.not_not, Nat.reduceBEq, Nat.reduceLT, Nat.reduceLeDiff, Nat.reduceAdd, cond_true, cond_false, Bool.or_false, Bool.false_or, Bool.or_true, Bool.true_or, beq_iff_eq, true_and, and_true, true_or, or_true, forall_const, not_true_eq_false, not_false_eq_true, false_implies, implies_true, Nat.reduceEqDiff, List.length_nil, List.length_cons, obH hb, fvH0 hb, fsH0 hb, fvH1 hb, fsH1 hb, fvH2 hb, fvH3 hb, fvH4 hb, fvH5 hb, fvH6 hb, fvH7 hb, kdH1 hb, lnH1 hb, ltH1 hb, kdH2 hb, lnH2 hb, ltH2 hb, kdH3 hb, lnH3 hb, ltH3 hb, kdH4 hb, lnH4 hb, ltH4 hb, kdH5 hb, lnH5 hb, ltH5 hb, kdH6 hb, lnH6 hb, ltH6 hb]
  refine p_hasSort hb ?_
  simp only [e_go, rX2_comersOf_0, rX2_comersOf_1, rX2_comersOf_2, rX2_comersOf_5, rX2_comersOf_8, rX2_comersOf_9, rX2_comersOf_12, rX2_comersOf_15, rX2_comersOf_16, rX2_comersOf_19, rX2_comersOf_20, rX2_comersOf_21, rX2_comersOf_22, rX2_comersOf_23, rX2_comersOf_24, rX2_comersOf_25, rX2_comersOf_28, rX2_comersOf_29, e_ald0, e_bin, e_callS1, e_callV2, e_get, e_goto, e_iald, e_if, e_ild1, e_ild2, e_push, e_pushn, e_pushs, e_ret, m_b0, m_b01, Classical.not_not, Nat.reduceBEq, Nat.reduceLT, Nat.reduceLeDiff, Nat.reduceAdd, cond_true, cond_false, Bool.or_false, Bool.false_or, Bool.or_true, Bool.true_or, beq_iff_eq, true_and, and_true, true_or, or_true, forall_const, not_true_eq_false, not_false_eq_true, false_implies, implies_true, Nat.reduceEqDiff, List.length_nil, List.length_cons, obH hb, fvH0 hb, fsH0 hb, fvH1 hb, fsH1 hb, fvH2 hb, fvH3 hb, fvH4 hb, fvH5 hb, fvH6 hb, fvH7 hb, kdH1 hb, lnH1 hb, ltH1 hb, kdH2 hb, lnH2 hb, ltH2 hb, kdH3 hb, lnH3 hb, ltH3 hb, kdH4 hb, lnH4 hb, ltH4 hb, kdH5 hb, lnH5 hb, ltH5 hb, kdH6 hb, lnH6 hb, ltH6 hb]
  refine ⟨fun c1 => ?_, fun c1 => ?_⟩
  · grind [m_wrap]
  · refine p_isQuarter ?_
    simp only [e_go, rX2_comersOf_0, rX2_comersOf_1, rX2_comersOf_2, rX2_comersOf_5, rX2_comersOf_8, rX2_comersOf_9, rX2_comersOf_12, rX2_comersOf_15, rX2_comersOf_16, rX2_comersOf_19, rX2_comersOf_20, rX2_comersOf_21, rX2_comersOf_22, rX2_comersOf_23, rX2_comersOf_24, rX2_comersOf_25, rX2_comersOf_28, rX2_comersOf_29, e_ald0, e_bin, e_callS1, e_callV2, e_get, e_goto, e_iald, e_if, e_ild1, e_ild2, e_push, e_pushn, e_pushs, e_ret, m_b0, m_b01, Classical.not_not, Nat.reduceBEq, Nat.reduceLT, Nat.reduceLeDiff, Nat.reduceAdd, cond_true, cond_false, Bool.or_false, Bool.false_or, Bool.or_true, Bool.true_or, beq_iff_eq, true_and, and_true, true_or, or_true, forall_const, not_true_eq_false, not_false_eq_true, false_implies, implies_true, Nat.reduceEqDiff, List.length_nil, List.length_cons, obH hb, fvH0 hb, fsH0 hb, fvH1 hb, fsH1 hb, fvH2 hb, fvH3 hb, fvH4 hb, fvH5 hb, fvH6 hb, fvH7 hb, kdH1 hb, lnH1 hb, ltH1 hb, kdH2 hb, lnH2 hb, ltH2 hb, kdH3 hb, lnH3 hb, ltH3 hb, kdH4 hb, lnH4 hb, ltH4 hb, kdH5 hb, lnH5 hb, ltH5 hb, kdH6 hb, lnH6 hb, ltH6 hb]
    grind [m_wrap]
