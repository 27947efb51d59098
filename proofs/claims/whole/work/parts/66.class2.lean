set_option maxRecDepth 20000
set_option maxHeartbeats 2000000
theorem h_N.zero {g : m_G} {b : Nat} {s : Nat → Int} (hz : h_Z g b) (hs : s 0 ≤ 5) : h_N g b s (nd0 s) := fun t k ht hk => by
  rw [hz _ (by omega), if_pos rfl]
  rfl
theorem p1_meanOf {b : Nat} (hb : m_hs b) {g : m_G} {s : Nat → Int} {t : Nat} {q : m_Post} (hR : h_R g b s) (hW : h_W s) (hO : v_O g b (a_day s)) (ht : (t : Int) < s 0) (h : q (some (.inl (a_mean (a_day s) t))) g) : wX1_meanOf.1 [.inr (.inr 39), .inl t] g q := by
  have hz := hW.1
  have hd := d_day_b hW (nd0_b hW) t
  change ((t : Int) < s 0 → 0 ≤ (a_day s).2 7 t ∧ 0 ≤ (a_day s).2 6 t ∧ (a_day s).2 7 t + (a_day s).2 6 t = d_qs s t 4) ∧ 0 ≤ (a_day s).2 4 t ∧ (a_day s).2 4 t ≤ 700000000 at hd
  have hd1 := hd.1 ht
  have h4 := d_qs_b hW ht
  refine m_wp_of (by simp [m_fit]) (fun J hJ => ?_)
  simp only [m_ini, Nat.reduceSub, List.replicate]
  refine m_run_ok hJ (fun _ => false) 60 _ _ _ _ ?_
  simp only [e_go, rX1_meanOf_0, rX1_meanOf_1, rX1_meanOf_2, rX1_meanOf_5, rX1_meanOf_6, rX1_meanOf_7, rX1_meanOf_8, rX1_meanOf_11, rX1_meanOf_12, rX1_meanOf_15, rX1_meanOf_16, rX1_meanOf_19, rX1_meanOf_20, rX1_meanOf_21, rX1_meanOf_22, rX1_meanOf_23, e_ald0, e_callV2, e_div, e_get, e_goto, e_iald, e_icmp, e_ild1, e_ild2, e_ist2, e_nl0, e_nl1, e_nl2, e_push, e_pushn, e_pushs, e_ret, m_b0, m_b01, m_b1, m_em, Classical.not_not, Nat.reduceBEq, Nat.reduceLT, Nat.reduceLeDiff, Nat.reduceAdd, cond_true, cond_false, Bool.or_false, Bool.false_or, Bool.or_true, Bool.true_or, beq_iff_eq, true_and, and_true, true_or, or_true, forall_const, not_true_eq_false, not_false_eq_true, false_implies, implies_true, Nat.reduceEqDiff, List.length_nil, List.length_cons, ob_39, fv_39_0, fv_39_1, fv_39_2, fv_39_3, fv_39_4, fs_39_4, fv_39_5, fs_39_5, fv_39_6, fv_39_7, fs_39_7, fv_39_8, fs_39_8, fv_39_9, fs_39_9, fv_39_10, fs_39_10, kd_40, ln_40, Int.toNat_natCast]
  refine p1_keptOf hb hR hW hO ht (by omega) ?_
  rw [show ((d_qs s t 4 : Nat) : Int) - (a_day s).2 6 t = (a_day s).2 7 t by omega]
  simp only [e_go, rX1_meanOf_0, rX1_meanOf_1, rX1_meanOf_2, rX1_meanOf_5, rX1_meanOf_6, rX1_meanOf_7, rX1_meanOf_8, rX1_meanOf_11, rX1_meanOf_12, rX1_meanOf_15, rX1_meanOf_16, rX1_meanOf_19, rX1_meanOf_20, rX1_meanOf_21, rX1_meanOf_22, rX1_meanOf_23, e_ald0, e_callV2, e_div, e_get, e_goto, e_iald, e_icmp, e_ild1, e_ild2, e_ist2, e_nl0, e_nl1, e_nl2, e_push, e_pushn, e_pushs, e_ret, m_b0, m_b01, m_b1, m_em, Classical.not_not, Nat.reduceBEq, Nat.reduceLT, Nat.reduceLeDiff, Nat.reduceAdd, cond_true, cond_false, Bool.or_false, Bool.false_or, Bool.or_true, Bool.true_or, beq_iff_eq, true_and, and_true, true_or, or_true, forall_const, not_true_eq_false, not_false_eq_true, false_implies, implies_true, Nat.reduceEqDiff, List.length_nil, List.length_cons, ob_39, fv_39_0, fv_39_1, fv_39_2, fv_39_3, fv_39_4, fs_39_4, fv_39_5, fs_39_5, fv_39_6, fv_39_7, fs_39_7, fv_39_8, fs_39_8, fv_39_9, fs_39_9, fv_39_10, fs_39_10, kd_40, ln_40, Int.toNat_natCast]
  rw [(hO.1 t (by omega)).1]
  unfold a_mean at h
  refine ⟨fun c => ⟨by omega, by omega, ?_⟩, fun c => ?_⟩
  · rw [if_neg (by omega)] at h
    rw [a_mean_b (by omega) hd.2]; exact h
  · rw [if_pos (by omega)] at h; exact h
theorem q8_cost {g A : m_G} {q : m_Post} (hM : c_M g A) (hW : h_W (A 68)) (h : ∀ g', k_E g g' (x_cost A).2 → q (some (.inl (x_cost A).1)) g') : wX8_cost.1 [.inr (.inr 0)] g q := by
  obtain ⟨b, h1⟩ : ∃ b : Nat, b = 1 := ⟨1, rfl⟩
  have hb : m_hs b := Or.inl h1
  have hR : h_R g b (A 68) := h1 ▸ hM.1.1
  have hZ : h_Z g b := h1 ▸ hM.1.2
  refine m_wp_of (by simp [m_fit]) (fun J hJ => ?_)
  simp only [m_ini, Nat.reduceSub, List.replicate]
  refine m_run_ok hJ (fun _ => false) 40 _ _ _ _ ?_
  simp only [e_go, rX8_cost_0, rX8_cost_1, rX8_cost_4, rX8_cost_5, rX8_cost_8, rX8_cost_11, rX8_cost_12, rX8_cost_15, rX8_cost_18, e_ald0, e_callV1, e_callV2, e_get, e_pushn, e_pushs, e_ret, m_b0, m_b01, m_b1, m_em, Classical.not_not, Nat.reduceBEq, Nat.reduceLT, Nat.reduceLeDiff, Nat.reduceAdd, cond_true, cond_false, Bool.or_false, Bool.false_or, Bool.or_true, Bool.true_or, beq_iff_eq, true_and, and_true, true_or, or_true, forall_const, not_true_eq_false, not_false_eq_true, false_implies, implies_true, Nat.reduceEqDiff, List.length_nil, List.length_cons, ob_0, fv00 h1, fv_0_3, obH hb, fvH0 hb, fsH0 hb, fvH1 hb, fsH1 hb, fvH2 hb, fvH3 hb, fvH4 hb, fvH5 hb, fvH6 hb, fvH7 hb, kdH1 hb, lnH1 hb, ltH1 hb, kdH2 hb, lnH2 hb, ltH2 hb, kdH3 hb, lnH3 hb, ltH3 hb, kdH4 hb, lnH4 hb, ltH4 hb, kdH5 hb, lnH5 hb, ltH5 hb, kdH6 hb, lnH6 hb, ltH6 hb, ob_39, fv_39_0, fv_39_1, fv_39_2, fv_39_3, fv_39_4, fs_39_4, fv_39_5, fs_39_5, fv_39_6, fv_39_7, fs_39_7, fv_39_8, fs_39_8, fv_39_9, fs_39_9, fv_39_10, fs_39_10]
  refine p1_run hb hR (h_N.zero hZ hW.1.1.2) hW (nd0_b hW) (fun g' hO hF => ?_)
  simp only [e_go, rX8_cost_0, rX8_cost_1, rX8_cost_4, rX8_cost_5, rX8_cost_8, rX8_cost_11, rX8_cost_12, rX8_cost_15, rX8_cost_18, e_ald0, e_callV1, e_callV2, e_get, e_pushn, e_pushs, e_ret, m_b0, m_b01, m_b1, m_em, Classical.not_not, Nat.reduceBEq, Nat.reduceLT, Nat.reduceLeDiff, Nat.reduceAdd, cond_true, cond_false, Bool.or_false, Bool.false_or, Bool.or_true, Bool.true_or, beq_iff_eq, true_and, and_true, true_or, or_true, forall_const, not_true_eq_false, not_false_eq_true, false_implies, implies_true, Nat.reduceEqDiff, List.length_nil, List.length_cons, ob_0, fv00 h1, fv_0_3, obH hb, fvH0 hb, fsH0 hb, fvH1 hb, fsH1 hb, fvH2 hb, fvH3 hb, fvH4 hb, fvH5 hb, fvH6 hb, fvH7 hb, kdH1 hb, lnH1 hb, ltH1 hb, kdH2 hb, lnH2 hb, ltH2 hb, kdH3 hb, lnH3 hb, ltH3 hb, kdH4 hb, lnH4 hb, ltH4 hb, kdH5 hb, lnH5 hb, ltH5 hb, kdH6 hb, lnH6 hb, ltH6 hb, ob_39, fv_39_0, fv_39_1, fv_39_2, fv_39_3, fv_39_4, fs_39_4, fv_39_5, fs_39_5, fv_39_6, fv_39_7, fs_39_7, fv_39_8, fs_39_8, fv_39_9, fs_39_9, fv_39_10, fs_39_10]
  refine p1_allCost hb (hR.same (hF.h hb)) hW hO ?_
  simp only [e_go, rX8_cost_0, rX8_cost_1, rX8_cost_4, rX8_cost_5, rX8_cost_8, rX8_cost_11, rX8_cost_12, rX8_cost_15, rX8_cost_18, e_ald0, e_callV1, e_callV2, e_get, e_pushn, e_pushs, e_ret, m_b0, m_b01, m_b1, m_em, Classical.not_not, Nat.reduceBEq, Nat.reduceLT, Nat.reduceLeDiff, Nat.reduceAdd, cond_true, cond_false, Bool.or_false, Bool.false_or, Bool.or_true, Bool.true_or, beq_iff_eq, true_and, and_true, true_or, or_true, forall_const, not_true_eq_false, not_false_eq_true, false_implies, implies_true, Nat.reduceEqDiff, List.length_nil, List.length_cons, ob_0, fv00 h1, fv_0_3, obH hb, fvH0 hb, fsH0 hb, fvH1 hb, fsH1 hb, fvH2 hb, fvH3 hb, fvH4 hb, fvH5 hb, fvH6 hb, fvH7 hb, kdH1 hb, lnH1 hb, ltH1 hb, kdH2 hb, lnH2 hb, ltH2 hb, kdH3 hb, lnH3 hb, ltH3 hb, kdH4 hb, lnH4 hb, ltH4 hb, kdH5 hb, lnH5 hb, ltH5 hb, kdH6 hb, lnH6 hb, ltH6 hb, ob_39, fv_39_0, fv_39_1, fv_39_2, fv_39_3, fv_39_4, fs_39_4, fv_39_5, fs_39_5, fv_39_6, fv_39_7, fs_39_7, fv_39_8, fs_39_8, fv_39_9, fs_39_9, fv_39_10, fs_39_10]
  exact h g' (hM.same hF.c)
theorem q8_waited {g A : m_G} {t : Int} {q : m_Post} (hM : c_M g A) (hW : h_W (A 68)) (h : ∀ g', k_E g g' (x_by A 4 t).2 → q (some (.inl (x_by A 4 t).1)) g') : wX8_waited.1 [.inr (.inr 0), .inl t] g q := by
  obtain ⟨b, h1⟩ : ∃ b : Nat, b = 1 := ⟨1, rfl⟩
  have hb : m_hs b := Or.inl h1
  have hR : h_R g b (A 68) := h1 ▸ hM.1.1
  have hZ : h_Z g b := h1 ▸ hM.1.2
  have hz := hW.1
  refine m_wp_of (by simp [m_fit]) (fun J hJ => ?_)
  simp only [m_ini, Nat.reduceSub, List.replicate]
  refine m_run_ok hJ (fun _ => false) 40 _ _ _ _ ?_
  simp only [e_go, rX8_waited_0, rX8_waited_1, rX8_waited_4, rX8_waited_5, rX8_waited_8, rX8_waited_11, rX8_waited_12, rX8_waited_13, rX8_waited_16, rX8_waited_17, rX8_waited_18, rX8_waited_21, rX8_waited_22, rX8_waited_25, rX8_waited_28, rX8_waited_29, rX8_waited_32, rX8_waited_35, rX8_waited_36, rX8_waited_37, e_ald0, e_callV2, e_get, e_iald, e_if, e_ild1, e_push, e_pushn, e_pushs, e_ret, m_b0, m_b01, m_b1, m_em, Classical.not_not, Nat.reduceBEq, Nat.reduceLT, Nat.reduceLeDiff, Nat.reduceAdd, cond_true, cond_false, Bool.or_false, Bool.false_or, Bool.or_true, Bool.true_or, beq_iff_eq, true_and, and_true, true_or, or_true, forall_const, not_true_eq_false, not_false_eq_true, false_implies, implies_true, Nat.reduceEqDiff, List.length_nil, List.length_cons, ob_0, fv00 h1, fv_0_3, obH hb, fvH0 hb, fsH0 hb, fvH1 hb, fsH1 hb, fvH2 hb, fvH3 hb, fvH4 hb, fvH5 hb, fvH6 hb, fvH7 hb, kdH1 hb, lnH1 hb, ltH1 hb, kdH2 hb, lnH2 hb, ltH2 hb, kdH3 hb, lnH3 hb, ltH3 hb, kdH4 hb, lnH4 hb, ltH4 hb, kdH5 hb, lnH5 hb, ltH5 hb, kdH6 hb, lnH6 hb, ltH6 hb, ob_39, fv_39_0, fv_39_1, fv_39_2, fv_39_3, fv_39_4, fs_39_4, fv_39_5, fs_39_5, fv_39_6, fv_39_7, fs_39_7, fv_39_8, fs_39_8, fv_39_9, fs_39_9, fv_39_10, fs_39_10, kd_40, ln_40]
  unfold x_by at h
  refine p_hasSort hb hR ?_
  simp only [e_go, rX8_waited_0, rX8_waited_1, rX8_waited_4, rX8_waited_5, rX8_waited_8, rX8_waited_11, rX8_waited_12, rX8_waited_13, rX8_waited_16, rX8_waited_17, rX8_waited_18, rX8_waited_21, rX8_waited_22, rX8_waited_25, rX8_waited_28, rX8_waited_29, rX8_waited_32, rX8_waited_35, rX8_waited_36, rX8_waited_37, e_ald0, e_callV2, e_get, e_iald, e_if, e_ild1, e_push, e_pushn, e_pushs, e_ret, m_b0, m_b01, m_b1, m_em, Classical.not_not, Nat.reduceBEq, Nat.reduceLT, Nat.reduceLeDiff, Nat.reduceAdd, cond_true, cond_false, Bool.or_false, Bool.false_or, Bool.or_true, Bool.true_or, beq_iff_eq, true_and, and_true, true_or, or_true, forall_const, not_true_eq_false, not_false_eq_true, false_implies, implies_true, Nat.reduceEqDiff, List.length_nil, List.length_cons, ob_0, fv00 h1, fv_0_3, obH hb, fvH0 hb, fsH0 hb, fvH1 hb, fsH1 hb, fvH2 hb, fvH3 hb, fvH4 hb, fvH5 hb, fvH6 hb, fvH7 hb, kdH1 hb, lnH1 hb, ltH1 hb, kdH2 hb, lnH2 hb, ltH2 hb, kdH3 hb, lnH3 hb, ltH3 hb, kdH4 hb, lnH4 hb, ltH4 hb, kdH5 hb, lnH5 hb, ltH5 hb, kdH6 hb, lnH6 hb, ltH6 hb, ob_39, fv_39_0, fv_39_1, fv_39_2, fv_39_3, fv_39_4, fs_39_4, fv_39_5, fs_39_5, fv_39_6, fv_39_7, fs_39_7, fv_39_8, fs_39_8, fv_39_9, fs_39_9, fv_39_10, fs_39_10, kd_40, ln_40]
  refine ⟨fun c => ?_, fun c => ?_⟩
  rotate_left
  · rw [if_neg c] at h
    refine q8_no hM (by decide) (fun g' hE => ?_)
    simp only [e_go, rX8_waited_0, rX8_waited_1, rX8_waited_4, rX8_waited_5, rX8_waited_8, rX8_waited_11, rX8_waited_12, rX8_waited_13, rX8_waited_16, rX8_waited_17, rX8_waited_18, rX8_waited_21, rX8_waited_22, rX8_waited_25, rX8_waited_28, rX8_waited_29, rX8_waited_32, rX8_waited_35, rX8_waited_36, rX8_waited_37, e_ald0, e_callV2, e_get, e_iald, e_if, e_ild1, e_push, e_pushn, e_pushs, e_ret, m_b0, m_b01, m_b1, m_em, Classical.not_not, Nat.reduceBEq, Nat.reduceLT, Nat.reduceLeDiff, Nat.reduceAdd, cond_true, cond_false, Bool.or_false, Bool.false_or, Bool.or_true, Bool.true_or, beq_iff_eq, true_and, and_true, true_or, or_true, forall_const, not_true_eq_false, not_false_eq_true, false_implies, implies_true, Nat.reduceEqDiff, List.length_nil, List.length_cons, ob_0, fv00 h1, fv_0_3, obH hb, fvH0 hb, fsH0 hb, fvH1 hb, fsH1 hb, fvH2 hb, fvH3 hb, fvH4 hb, fvH5 hb, fvH6 hb, fvH7 hb, kdH1 hb, lnH1 hb, ltH1 hb, kdH2 hb, lnH2 hb, ltH2 hb, kdH3 hb, lnH3 hb, ltH3 hb, kdH4 hb, lnH4 hb, ltH4 hb, kdH5 hb, lnH5 hb, ltH5 hb, kdH6 hb, lnH6 hb, ltH6 hb, ob_39, fv_39_0, fv_39_1, fv_39_2, fv_39_3, fv_39_4, fs_39_4, fv_39_5, fs_39_5, fv_39_6, fv_39_7, fs_39_7, fv_39_8, fs_39_8, fv_39_9, fs_39_9, fv_39_10, fs_39_10, kd_40, ln_40]
    exact h g' hE
  · rw [if_pos c] at h
    refine p1_run hb hR (h_N.zero hZ hW.1.1.2) hW (nd0_b hW) (fun g' hO hF => ?_)
    simp only [e_go, rX8_waited_0, rX8_waited_1, rX8_waited_4, rX8_waited_5, rX8_waited_8, rX8_waited_11, rX8_waited_12, rX8_waited_13, rX8_waited_16, rX8_waited_17, rX8_waited_18, rX8_waited_21, rX8_waited_22, rX8_waited_25, rX8_waited_28, rX8_waited_29, rX8_waited_32, rX8_waited_35, rX8_waited_36, rX8_waited_37, e_ald0, e_callV2, e_get, e_iald, e_if, e_ild1, e_push, e_pushn, e_pushs, e_ret, m_b0, m_b01, m_b1, m_em, Classical.not_not, Nat.reduceBEq, Nat.reduceLT, Nat.reduceLeDiff, Nat.reduceAdd, cond_true, cond_false, Bool.or_false, Bool.false_or, Bool.or_true, Bool.true_or, beq_iff_eq, true_and, and_true, true_or, or_true, forall_const, not_true_eq_false, not_false_eq_true, false_implies, implies_true, Nat.reduceEqDiff, List.length_nil, List.length_cons, ob_0, fv00 h1, fv_0_3, obH hb, fvH0 hb, fsH0 hb, fvH1 hb, fsH1 hb, fvH2 hb, fvH3 hb, fvH4 hb, fvH5 hb, fvH6 hb, fvH7 hb, kdH1 hb, lnH1 hb, ltH1 hb, kdH2 hb, lnH2 hb, ltH2 hb, kdH3 hb, lnH3 hb, ltH3 hb, kdH4 hb, lnH4 hb, ltH4 hb, kdH5 hb, lnH5 hb, ltH5 hb, kdH6 hb, lnH6 hb, ltH6 hb, ob_39, fv_39_0, fv_39_1, fv_39_2, fv_39_3, fv_39_4, fs_39_4, fv_39_5, fs_39_5, fv_39_6, fv_39_7, fs_39_7, fv_39_8, fs_39_8, fv_39_9, fs_39_9, fv_39_10, fs_39_10, kd_40, ln_40]
    refine ⟨by omega, ?_⟩
    rw [(hO.1 t.toNat (by omega)).1]
    exact h g' (hM.same hF.c)
theorem q8_served {g A : m_G} {t : Int} {q : m_Post} (hM : c_M g A) (hW : h_W (A 68)) (h : ∀ g', k_E g g' (x_by A 5 t).2 → q (some (.inl (x_by A 5 t).1)) g') : wX8_served.1 [.inr (.inr 0), .inl t] g q := by
  obtain ⟨b, h1⟩ : ∃ b : Nat, b = 1 := ⟨1, rfl⟩
  have hb : m_hs b := Or.inl h1
  have hR : h_R g b (A 68) := h1 ▸ hM.1.1
  have hZ : h_Z g b := h1 ▸ hM.1.2
  have hz := hW.1
  refine m_wp_of (by simp [m_fit]) (fun J hJ => ?_)
  simp only [m_ini, Nat.reduceSub, List.replicate]
  refine m_run_ok hJ (fun _ => false) 40 _ _ _ _ ?_
  simp only [e_go, rX8_served_0, rX8_served_1, rX8_served_4, rX8_served_5, rX8_served_8, rX8_served_11, rX8_served_12, rX8_served_13, rX8_served_16, rX8_served_17, rX8_served_18, rX8_served_21, rX8_served_22, rX8_served_25, rX8_served_28, rX8_served_29, rX8_served_32, rX8_served_35, rX8_served_36, rX8_served_37, e_ald0, e_callV2, e_get, e_iald, e_if, e_ild1, e_push, e_pushn, e_pushs, e_ret, m_b0, m_b01, m_b1, m_em, Classical.not_not, Nat.reduceBEq, Nat.reduceLT, Nat.reduceLeDiff, Nat.reduceAdd, cond_true, cond_false, Bool.or_false, Bool.false_or, Bool.or_true, Bool.true_or, beq_iff_eq, true_and, and_true, true_or, or_true, forall_const, not_true_eq_false, not_false_eq_true, false_implies, implies_true, Nat.reduceEqDiff, List.length_nil, List.length_cons, ob_0, fv00 h1, fv_0_3, obH hb, fvH0 hb, fsH0 hb, fvH1 hb, fsH1 hb, fvH2 hb, fvH3 hb, fvH4 hb, fvH5 hb, fvH6 hb, fvH7 hb, kdH1 hb, lnH1 hb, ltH1 hb, kdH2 hb, lnH2 hb, ltH2 hb, kdH3 hb, lnH3 hb, ltH3 hb, kdH4 hb, lnH4 hb, ltH4 hb, kdH5 hb, lnH5 hb, ltH5 hb, kdH6 hb, lnH6 hb, ltH6 hb, ob_39, fv_39_0, fv_39_1, fv_39_2, fv_39_3, fv_39_4, fs_39_4, fv_39_5, fs_39_5, fv_39_6, fv_39_7, fs_39_7, fv_39_8, fs_39_8, fv_39_9, fs_39_9, fv_39_10, fs_39_10, kd_41, ln_41]
  unfold x_by at h
  refine p_hasSort hb hR ?_
  simp only [e_go, rX8_served_0, rX8_served_1, rX8_served_4, rX8_served_5, rX8_served_8, rX8_served_11, rX8_served_12, rX8_served_13, rX8_served_16, rX8_served_17, rX8_served_18, rX8_served_21, rX8_served_22, rX8_served_25, rX8_served_28, rX8_served_29, rX8_served_32, rX8_served_35, rX8_served_36, rX8_served_37, e_ald0, e_callV2, e_get, e_iald, e_if, e_ild1, e_push, e_pushn, e_pushs, e_ret, m_b0, m_b01, m_b1, m_em, Classical.not_not, Nat.reduceBEq, Nat.reduceLT, Nat.reduceLeDiff, Nat.reduceAdd, cond_true, cond_false, Bool.or_false, Bool.false_or, Bool.or_true, Bool.true_or, beq_iff_eq, true_and, and_true, true_or, or_true, forall_const, not_true_eq_false, not_false_eq_true, false_implies, implies_true, Nat.reduceEqDiff, List.length_nil, List.length_cons, ob_0, fv00 h1, fv_0_3, obH hb, fvH0 hb, fsH0 hb, fvH1 hb, fsH1 hb, fvH2 hb, fvH3 hb, fvH4 hb, fvH5 hb, fvH6 hb, fvH7 hb, kdH1 hb, lnH1 hb, ltH1 hb, kdH2 hb, lnH2 hb, ltH2 hb, kdH3 hb, lnH3 hb, ltH3 hb, kdH4 hb, lnH4 hb, ltH4 hb, kdH5 hb, lnH5 hb, ltH5 hb, kdH6 hb, lnH6 hb, ltH6 hb, ob_39, fv_39_0, fv_39_1, fv_39_2, fv_39_3, fv_39_4, fs_39_4, fv_39_5, fs_39_5, fv_39_6, fv_39_7, fs_39_7, fv_39_8, fs_39_8, fv_39_9, fs_39_9, fv_39_10, fs_39_10, kd_41, ln_41]
  refine ⟨fun c => ?_, fun c => ?_⟩
  rotate_left
  · rw [if_neg c] at h
    refine q8_no hM (by decide) (fun g' hE => ?_)
    simp only [e_go, rX8_served_0, rX8_served_1, rX8_served_4, rX8_served_5, rX8_served_8, rX8_served_11, rX8_served_12, rX8_served_13, rX8_served_16, rX8_served_17, rX8_served_18, rX8_served_21, rX8_served_22, rX8_served_25, rX8_served_28, rX8_served_29, rX8_served_32, rX8_served_35, rX8_served_36, rX8_served_37, e_ald0, e_callV2, e_get, e_iald, e_if, e_ild1, e_push, e_pushn, e_pushs, e_ret, m_b0, m_b01, m_b1, m_em, Classical.not_not, Nat.reduceBEq, Nat.reduceLT, Nat.reduceLeDiff, Nat.reduceAdd, cond_true, cond_false, Bool.or_false, Bool.false_or, Bool.or_true, Bool.true_or, beq_iff_eq, true_and, and_true, true_or, or_true, forall_const, not_true_eq_false, not_false_eq_true, false_implies, implies_true, Nat.reduceEqDiff, List.length_nil, List.length_cons, ob_0, fv00 h1, fv_0_3, obH hb, fvH0 hb, fsH0 hb, fvH1 hb, fsH1 hb, fvH2 hb, fvH3 hb, fvH4 hb, fvH5 hb, fvH6 hb, fvH7 hb, kdH1 hb, lnH1 hb, ltH1 hb, kdH2 hb, lnH2 hb, ltH2 hb, kdH3 hb, lnH3 hb, ltH3 hb, kdH4 hb, lnH4 hb, ltH4 hb, kdH5 hb, lnH5 hb, ltH5 hb, kdH6 hb, lnH6 hb, ltH6 hb, ob_39, fv_39_0, fv_39_1, fv_39_2, fv_39_3, fv_39_4, fs_39_4, fv_39_5, fs_39_5, fv_39_6, fv_39_7, fs_39_7, fv_39_8, fs_39_8, fv_39_9, fs_39_9, fv_39_10, fs_39_10, kd_41, ln_41]
    exact h g' hE
  · rw [if_pos c] at h
    refine p1_run hb hR (h_N.zero hZ hW.1.1.2) hW (nd0_b hW) (fun g' hO hF => ?_)
    simp only [e_go, rX8_served_0, rX8_served_1, rX8_served_4, rX8_served_5, rX8_served_8, rX8_served_11, rX8_served_12, rX8_served_13, rX8_served_16, rX8_served_17, rX8_served_18, rX8_served_21, rX8_served_22, rX8_served_25, rX8_served_28, rX8_served_29, rX8_served_32, rX8_served_35, rX8_served_36, rX8_served_37, e_ald0, e_callV2, e_get, e_iald, e_if, e_ild1, e_push, e_pushn, e_pushs, e_ret, m_b0, m_b01, m_b1, m_em, Classical.not_not, Nat.reduceBEq, Nat.reduceLT, Nat.reduceLeDiff, Nat.reduceAdd, cond_true, cond_false, Bool.or_false, Bool.false_or, Bool.or_true, Bool.true_or, beq_iff_eq, true_and, and_true, true_or, or_true, forall_const, not_true_eq_false, not_false_eq_true, false_implies, implies_true, Nat.reduceEqDiff, List.length_nil, List.length_cons, ob_0, fv00 h1, fv_0_3, obH hb, fvH0 hb, fsH0 hb, fvH1 hb, fsH1 hb, fvH2 hb, fvH3 hb, fvH4 hb, fvH5 hb, fvH6 hb, fvH7 hb, kdH1 hb, lnH1 hb, ltH1 hb, kdH2 hb, lnH2 hb, ltH2 hb, kdH3 hb, lnH3 hb, ltH3 hb, kdH4 hb, lnH4 hb, ltH4 hb, kdH5 hb, lnH5 hb, ltH5 hb, kdH6 hb, lnH6 hb, ltH6 hb, ob_39, fv_39_0, fv_39_1, fv_39_2, fv_39_3, fv_39_4, fs_39_4, fv_39_5, fs_39_5, fv_39_6, fv_39_7, fs_39_7, fv_39_8, fs_39_8, fv_39_9, fs_39_9, fv_39_10, fs_39_10, kd_41, ln_41]
    refine ⟨by omega, ?_⟩
    rw [(hO.1 t.toNat (by omega)).2.1]
    exact h g' (hM.same hF.c)
theorem q8_lost {g A : m_G} {t : Int} {q : m_Post} (hM : c_M g A) (hW : h_W (A 68)) (h : ∀ g', k_E g g' (x_by A 6 t).2 → q (some (.inl (x_by A 6 t).1)) g') : wX8_lost.1 [.inr (.inr 0), .inl t] g q := by
  obtain ⟨b, h1⟩ : ∃ b : Nat, b = 1 := ⟨1, rfl⟩
  have hb : m_hs b := Or.inl h1
  have hR : h_R g b (A 68) := h1 ▸ hM.1.1
  have hZ : h_Z g b := h1 ▸ hM.1.2
  have hz := hW.1
  refine m_wp_of (by simp [m_fit]) (fun J hJ => ?_)
  simp only [m_ini, Nat.reduceSub, List.replicate]
  refine m_run_ok hJ (fun _ => false) 40 _ _ _ _ ?_
  simp only [e_go, rX8_lost_0, rX8_lost_1, rX8_lost_4, rX8_lost_5, rX8_lost_8, rX8_lost_11, rX8_lost_12, rX8_lost_13, rX8_lost_16, rX8_lost_17, rX8_lost_18, rX8_lost_21, rX8_lost_22, rX8_lost_25, rX8_lost_28, rX8_lost_29, rX8_lost_32, rX8_lost_35, rX8_lost_36, rX8_lost_37, e_ald0, e_callV2, e_get, e_iald, e_if, e_ild1, e_push, e_pushn, e_pushs, e_ret, m_b0, m_b01, m_b1, m_em, Classical.not_not, Nat.reduceBEq, Nat.reduceLT, Nat.reduceLeDiff, Nat.reduceAdd, cond_true, cond_false, Bool.or_false, Bool.false_or, Bool.or_true, Bool.true_or, beq_iff_eq, true_and, and_true, true_or, or_true, forall_const, not_true_eq_false, not_false_eq_true, false_implies, implies_true, Nat.reduceEqDiff, List.length_nil, List.length_cons, ob_0, fv00 h1, fv_0_3, obH hb, fvH0 hb, fsH0 hb, fvH1 hb, fsH1 hb, fvH2 hb, fvH3 hb, fvH4 hb, fvH5 hb, fvH6 hb, fvH7 hb, kdH1 hb, lnH1 hb, ltH1 hb, kdH2 hb, lnH2 hb, ltH2 hb, kdH3 hb, lnH3 hb, ltH3 hb, kdH4 hb, lnH4 hb, ltH4 hb, kdH5 hb, lnH5 hb, ltH5 hb, kdH6 hb, lnH6 hb, ltH6 hb, ob_39, fv_39_0, fv_39_1, fv_39_2, fv_39_3, fv_39_4, fs_39_4, fv_39_5, fs_39_5, fv_39_6, fv_39_7, fs_39_7, fv_39_8, fs_39_8, fv_39_9, fs_39_9, fv_39_10, fs_39_10, kd_42, ln_42]
  unfold x_by at h
  refine p_hasSort hb hR ?_
  simp only [e_go, rX8_lost_0, rX8_lost_1, rX8_lost_4, rX8_lost_5, rX8_lost_8, rX8_lost_11, rX8_lost_12, rX8_lost_13, rX8_lost_16, rX8_lost_17, rX8_lost_18, rX8_lost_21, rX8_lost_22, rX8_lost_25, rX8_lost_28, rX8_lost_29, rX8_lost_32, rX8_lost_35, rX8_lost_36, rX8_lost_37, e_ald0, e_callV2, e_get, e_iald, e_if, e_ild1, e_push, e_pushn, e_pushs, e_ret, m_b0, m_b01, m_b1, m_em, Classical.not_not, Nat.reduceBEq, Nat.reduceLT, Nat.reduceLeDiff, Nat.reduceAdd, cond_true, cond_false, Bool.or_false, Bool.false_or, Bool.or_true, Bool.true_or, beq_iff_eq, true_and, and_true, true_or, or_true, forall_const, not_true_eq_false, not_false_eq_true, false_implies, implies_true, Nat.reduceEqDiff, List.length_nil, List.length_cons, ob_0, fv00 h1, fv_0_3, obH hb, fvH0 hb, fsH0 hb, fvH1 hb, fsH1 hb, fvH2 hb, fvH3 hb, fvH4 hb, fvH5 hb, fvH6 hb, fvH7 hb, kdH1 hb, lnH1 hb, ltH1 hb, kdH2 hb, lnH2 hb, ltH2 hb, kdH3 hb, lnH3 hb, ltH3 hb, kdH4 hb, lnH4 hb, ltH4 hb, kdH5 hb, lnH5 hb, ltH5 hb, kdH6 hb, lnH6 hb, ltH6 hb, ob_39, fv_39_0, fv_39_1, fv_39_2, fv_39_3, fv_39_4, fs_39_4, fv_39_5, fs_39_5, fv_39_6, fv_39_7, fs_39_7, fv_39_8, fs_39_8, fv_39_9, fs_39_9, fv_39_10, fs_39_10, kd_42, ln_42]
  refine ⟨fun c => ?_, fun c => ?_⟩
  rotate_left
  · rw [if_neg c] at h
    refine q8_no hM (by decide) (fun g' hE => ?_)
    simp only [e_go, rX8_lost_0, rX8_lost_1, rX8_lost_4, rX8_lost_5, rX8_lost_8, rX8_lost_11, rX8_lost_12, rX8_lost_13, rX8_lost_16, rX8_lost_17, rX8_lost_18, rX8_lost_21, rX8_lost_22, rX8_lost_25, rX8_lost_28, rX8_lost_29, rX8_lost_32, rX8_lost_35, rX8_lost_36, rX8_lost_37, e_ald0, e_callV2, e_get, e_iald, e_if, e_ild1, e_push, e_pushn, e_pushs, e_ret, m_b0, m_b01, m_b1, m_em, Classical.not_not, Nat.reduceBEq, Nat.reduceLT, Nat.reduceLeDiff, Nat.reduceAdd, cond_true, cond_false, Bool.or_false, Bool.false_or, Bool.or_true, Bool.true_or, beq_iff_eq, true_and, and_true, true_or, or_true, forall_const, not_true_eq_false, not_false_eq_true, false_implies, implies_true, Nat.reduceEqDiff, List.length_nil, List.length_cons, ob_0, fv00 h1, fv_0_3, obH hb, fvH0 hb, fsH0 hb, fvH1 hb, fsH1 hb, fvH2 hb, fvH3 hb, fvH4 hb, fvH5 hb, fvH6 hb, fvH7 hb, kdH1 hb, lnH1 hb, ltH1 hb, kdH2 hb, lnH2 hb, ltH2 hb, kdH3 hb, lnH3 hb, ltH3 hb, kdH4 hb, lnH4 hb, ltH4 hb, kdH5 hb, lnH5 hb, ltH5 hb, kdH6 hb, lnH6 hb, ltH6 hb, ob_39, fv_39_0, fv_39_1, fv_39_2, fv_39_3, fv_39_4, fs_39_4, fv_39_5, fs_39_5, fv_39_6, fv_39_7, fs_39_7, fv_39_8, fs_39_8, fv_39_9, fs_39_9, fv_39_10, fs_39_10, kd_42, ln_42]
    exact h g' hE
  · rw [if_pos c] at h
    refine p1_run hb hR (h_N.zero hZ hW.1.1.2) hW (nd0_b hW) (fun g' hO hF => ?_)
    simp only [e_go, rX8_lost_0, rX8_lost_1, rX8_lost_4, rX8_lost_5, rX8_lost_8, rX8_lost_11, rX8_lost_12, rX8_lost_13, rX8_lost_16, rX8_lost_17, rX8_lost_18, rX8_lost_21, rX8_lost_22, rX8_lost_25, rX8_lost_28, rX8_lost_29, rX8_lost_32, rX8_lost_35, rX8_lost_36, rX8_lost_37, e_ald0, e_callV2, e_get, e_iald, e_if, e_ild1, e_push, e_pushn, e_pushs, e_ret, m_b0, m_b01, m_b1, m_em, Classical.not_not, Nat.reduceBEq, Nat.reduceLT, Nat.reduceLeDiff, Nat.reduceAdd, cond_true, cond_false, Bool.or_false, Bool.false_or, Bool.or_true, Bool.true_or, beq_iff_eq, true_and, and_true, true_or, or_true, forall_const, not_true_eq_false, not_false_eq_true, false_implies, implies_true, Nat.reduceEqDiff, List.length_nil, List.length_cons, ob_0, fv00 h1, fv_0_3, obH hb, fvH0 hb, fsH0 hb, fvH1 hb, fsH1 hb, fvH2 hb, fvH3 hb, fvH4 hb, fvH5 hb, fvH6 hb, fvH7 hb, kdH1 hb, lnH1 hb, ltH1 hb, kdH2 hb, lnH2 hb, ltH2 hb, kdH3 hb, lnH3 hb, ltH3 hb, kdH4 hb, lnH4 hb, ltH4 hb, kdH5 hb, lnH5 hb, ltH5 hb, kdH6 hb, lnH6 hb, ltH6 hb, ob_39, fv_39_0, fv_39_1, fv_39_2, fv_39_3, fv_39_4, fs_39_4, fv_39_5, fs_39_5, fv_39_6, fv_39_7, fs_39_7, fv_39_8, fs_39_8, fv_39_9, fs_39_9, fv_39_10, fs_39_10, kd_42, ln_42]
    refine ⟨by omega, ?_⟩
    rw [(hO.1 t.toNat (by omega)).2.2]
    exact h g' (hM.same hF.c)
theorem q8_longest {g A : m_G} {t : Int} {q : m_Post} (hM : c_M g A) (hW : h_W (A 68)) (h : ∀ g', k_E g g' (x_ln A 2 t).2 → q (some (.inl (x_ln A 2 t).1)) g') : wX8_longest.1 [.inr (.inr 0), .inl t] g q := by
  obtain ⟨b, h1⟩ : ∃ b : Nat, b = 1 := ⟨1, rfl⟩
  have hb : m_hs b := Or.inl h1
  have hR : h_R g b (A 68) := h1 ▸ hM.1.1
  have hZ : h_Z g b := h1 ▸ hM.1.2
  have hz := hW.1
  refine m_wp_of (by simp [m_fit]) (fun J hJ => ?_)
  simp only [m_ini, Nat.reduceSub, List.replicate]
  unfold x_ln at h
  by_cases c : 0 ≤ t ∧ t < A 68 1
  · rw [if_pos c] at h
    have hcl : m_lnc (44 + t.toNat) := by unfold m_lnc; omega
    refine m_run_ok hJ (fun _ => false) 40 _ _ _ _ ?_
    simp only [e_go, rX8_longest_0, rX8_longest_1, rX8_longest_4, rX8_longest_5, rX8_longest_8, rX8_longest_11, rX8_longest_12, rX8_longest_13, rX8_longest_16, rX8_longest_17, rX8_longest_18, rX8_longest_21, rX8_longest_22, rX8_longest_25, rX8_longest_28, rX8_longest_29, rX8_longest_32, rX8_longest_35, rX8_longest_36, rX8_longest_37, rX8_longest_40, e_aald, e_ald0, e_callV2, e_get, e_if, e_ild1, e_push, e_pushn, e_pushs, e_ret, m_b0, m_b01, m_b1, m_em, Classical.not_not, Nat.reduceBEq, Nat.reduceLT, Nat.reduceLeDiff, Nat.reduceAdd, cond_true, cond_false, Bool.or_false, Bool.false_or, Bool.or_true, Bool.true_or, beq_iff_eq, true_and, and_true, true_or, or_true, forall_const, not_true_eq_false, not_false_eq_true, false_implies, implies_true, Nat.reduceEqDiff, List.length_nil, List.length_cons, ob_0, fv00 h1, fv_0_3, obH hb, fvH0 hb, fsH0 hb, fvH1 hb, fsH1 hb, fvH2 hb, fvH3 hb, fvH4 hb, fvH5 hb, fvH6 hb, fvH7 hb, kdH1 hb, lnH1 hb, ltH1 hb, kdH2 hb, lnH2 hb, ltH2 hb, kdH3 hb, lnH3 hb, ltH3 hb, kdH4 hb, lnH4 hb, ltH4 hb, kdH5 hb, lnH5 hb, ltH5 hb, kdH6 hb, lnH6 hb, ltH6 hb, ob_39, fv_39_0, fv_39_1, fv_39_2, fv_39_3, fv_39_4, fs_39_4, fv_39_5, fs_39_5, fv_39_6, fv_39_7, fs_39_7, fv_39_8, fs_39_8, fv_39_9, fs_39_9, fv_39_10, fs_39_10, kd_43, ln_43, obL hcl, fvL0 hcl, fsL0 hcl, fvL1 hcl, fsL1 hcl, fvL2 hcl, fsL2 hcl, fvL3 hcl, fsL3 hcl, fvL4 hcl, fsL4 hcl, fvL5 hcl, fsL5 hcl, fvL6 hcl, fsL6 hcl, fvL7 hcl, fsL7 hcl, fvL8 hcl, fsL8 hcl, fvL9 hcl, fsL9 hcl, fvL10 hcl, fsL10 hcl, fvL11 hcl, fsL11 hcl]
    refine p_hasLane hb hR ?_
    simp only [e_go, rX8_longest_0, rX8_longest_1, rX8_longest_4, rX8_longest_5, rX8_longest_8, rX8_longest_11, rX8_longest_12, rX8_longest_13, rX8_longest_16, rX8_longest_17, rX8_longest_18, rX8_longest_21, rX8_longest_22, rX8_longest_25, rX8_longest_28, rX8_longest_29, rX8_longest_32, rX8_longest_35, rX8_longest_36, rX8_longest_37, rX8_longest_40, e_aald, e_ald0, e_callV2, e_get, e_if, e_ild1, e_push, e_pushn, e_pushs, e_ret, m_b0, m_b01, m_b1, m_em, Classical.not_not, Nat.reduceBEq, Nat.reduceLT, Nat.reduceLeDiff, Nat.reduceAdd, cond_true, cond_false, Bool.or_false, Bool.false_or, Bool.or_true, Bool.true_or, beq_iff_eq, true_and, and_true, true_or, or_true, forall_const, not_true_eq_false, not_false_eq_true, false_implies, implies_true, Nat.reduceEqDiff, List.length_nil, List.length_cons, ob_0, fv00 h1, fv_0_3, obH hb, fvH0 hb, fsH0 hb, fvH1 hb, fsH1 hb, fvH2 hb, fvH3 hb, fvH4 hb, fvH5 hb, fvH6 hb, fvH7 hb, kdH1 hb, lnH1 hb, ltH1 hb, kdH2 hb, lnH2 hb, ltH2 hb, kdH3 hb, lnH3 hb, ltH3 hb, kdH4 hb, lnH4 hb, ltH4 hb, kdH5 hb, lnH5 hb, ltH5 hb, kdH6 hb, lnH6 hb, ltH6 hb, ob_39, fv_39_0, fv_39_1, fv_39_2, fv_39_3, fv_39_4, fs_39_4, fv_39_5, fs_39_5, fv_39_6, fv_39_7, fs_39_7, fv_39_8, fs_39_8, fv_39_9, fs_39_9, fv_39_10, fs_39_10, kd_43, ln_43, obL hcl, fvL0 hcl, fsL0 hcl, fvL1 hcl, fsL1 hcl, fvL2 hcl, fsL2 hcl, fvL3 hcl, fsL3 hcl, fvL4 hcl, fsL4 hcl, fvL5 hcl, fsL5 hcl, fvL6 hcl, fsL6 hcl, fvL7 hcl, fsL7 hcl, fvL8 hcl, fsL8 hcl, fvL9 hcl, fsL9 hcl, fvL10 hcl, fsL10 hcl, fvL11 hcl, fsL11 hcl]
    refine ⟨fun _ => ?_, fun z => absurd c z⟩
    refine p1_run hb hR (h_N.zero hZ hW.1.1.2) hW (nd0_b hW) (fun g' hO hF => ?_)
    simp only [e_go, rX8_longest_0, rX8_longest_1, rX8_longest_4, rX8_longest_5, rX8_longest_8, rX8_longest_11, rX8_longest_12, rX8_longest_13, rX8_longest_16, rX8_longest_17, rX8_longest_18, rX8_longest_21, rX8_longest_22, rX8_longest_25, rX8_longest_28, rX8_longest_29, rX8_longest_32, rX8_longest_35, rX8_longest_36, rX8_longest_37, rX8_longest_40, e_aald, e_ald0, e_callV2, e_get, e_if, e_ild1, e_push, e_pushn, e_pushs, e_ret, m_b0, m_b01, m_b1, m_em, Classical.not_not, Nat.reduceBEq, Nat.reduceLT, Nat.reduceLeDiff, Nat.reduceAdd, cond_true, cond_false, Bool.or_false, Bool.false_or, Bool.or_true, Bool.true_or, beq_iff_eq, true_and, and_true, true_or, or_true, forall_const, not_true_eq_false, not_false_eq_true, false_implies, implies_true, Nat.reduceEqDiff, List.length_nil, List.length_cons, ob_0, fv00 h1, fv_0_3, obH hb, fvH0 hb, fsH0 hb, fvH1 hb, fsH1 hb, fvH2 hb, fvH3 hb, fvH4 hb, fvH5 hb, fvH6 hb, fvH7 hb, kdH1 hb, lnH1 hb, ltH1 hb, kdH2 hb, lnH2 hb, ltH2 hb, kdH3 hb, lnH3 hb, ltH3 hb, kdH4 hb, lnH4 hb, ltH4 hb, kdH5 hb, lnH5 hb, ltH5 hb, kdH6 hb, lnH6 hb, ltH6 hb, ob_39, fv_39_0, fv_39_1, fv_39_2, fv_39_3, fv_39_4, fs_39_4, fv_39_5, fs_39_5, fv_39_6, fv_39_7, fs_39_7, fv_39_8, fs_39_8, fv_39_9, fs_39_9, fv_39_10, fs_39_10, kd_43, ln_43, obL hcl, fvL0 hcl, fsL0 hcl, fvL1 hcl, fsL1 hcl, fvL2 hcl, fsL2 hcl, fvL3 hcl, fsL3 hcl, fvL4 hcl, fsL4 hcl, fvL5 hcl, fsL5 hcl, fvL6 hcl, fsL6 hcl, fvL7 hcl, fsL7 hcl, fvL8 hcl, fsL8 hcl, fvL9 hcl, fsL9 hcl, fvL10 hcl, fsL10 hcl, fvL11 hcl, fsL11 hcl]
    refine ⟨by omega, ?_⟩
    rw [(hO.2.1 t.toNat (by omega)).1]
    exact h g' (hM.same hF.c)
  · rw [if_neg c] at h
    refine m_run_ok hJ (fun _ => false) 40 _ _ _ _ ?_
    simp only [e_go, rX8_longest_0, rX8_longest_1, rX8_longest_4, rX8_longest_5, rX8_longest_8, rX8_longest_11, rX8_longest_12, rX8_longest_13, rX8_longest_16, rX8_longest_17, rX8_longest_18, rX8_longest_21, rX8_longest_22, rX8_longest_25, rX8_longest_28, rX8_longest_29, rX8_longest_32, rX8_longest_35, rX8_longest_36, rX8_longest_37, rX8_longest_40, e_aald, e_ald0, e_callV2, e_get, e_if, e_ild1, e_push, e_pushn, e_pushs, e_ret, m_b0, m_b01, m_b1, m_em, Classical.not_not, Nat.reduceBEq, Nat.reduceLT, Nat.reduceLeDiff, Nat.reduceAdd, cond_true, cond_false, Bool.or_false, Bool.false_or, Bool.or_true, Bool.true_or, beq_iff_eq, true_and, and_true, true_or, or_true, forall_const, not_true_eq_false, not_false_eq_true, false_implies, implies_true, Nat.reduceEqDiff, List.length_nil, List.length_cons, ob_0, fv00 h1, fv_0_3, obH hb, fvH0 hb, fsH0 hb, fvH1 hb, fsH1 hb, fvH2 hb, fvH3 hb, fvH4 hb, fvH5 hb, fvH6 hb, fvH7 hb, kdH1 hb, lnH1 hb, ltH1 hb, kdH2 hb, lnH2 hb, ltH2 hb, kdH3 hb, lnH3 hb, ltH3 hb, kdH4 hb, lnH4 hb, ltH4 hb, kdH5 hb, lnH5 hb, ltH5 hb, kdH6 hb, lnH6 hb, ltH6 hb, ob_39, fv_39_0, fv_39_1, fv_39_2, fv_39_3, fv_39_4, fs_39_4, fv_39_5, fs_39_5, fv_39_6, fv_39_7, fs_39_7, fv_39_8, fs_39_8, fv_39_9, fs_39_9, fv_39_10, fs_39_10, kd_43, ln_43]
    refine p_hasLane hb hR ?_
    simp only [e_go, rX8_longest_0, rX8_longest_1, rX8_longest_4, rX8_longest_5, rX8_longest_8, rX8_longest_11, rX8_longest_12, rX8_longest_13, rX8_longest_16, rX8_longest_17, rX8_longest_18, rX8_longest_21, rX8_longest_22, rX8_longest_25, rX8_longest_28, rX8_longest_29, rX8_longest_32, rX8_longest_35, rX8_longest_36, rX8_longest_37, rX8_longest_40, e_aald, e_ald0, e_callV2, e_get, e_if, e_ild1, e_push, e_pushn, e_pushs, e_ret, m_b0, m_b01, m_b1, m_em, Classical.not_not, Nat.reduceBEq, Nat.reduceLT, Nat.reduceLeDiff, Nat.reduceAdd, cond_true, cond_false, Bool.or_false, Bool.false_or, Bool.or_true, Bool.true_or, beq_iff_eq, true_and, and_true, true_or, or_true, forall_const, not_true_eq_false, not_false_eq_true, false_implies, implies_true, Nat.reduceEqDiff, List.length_nil, List.length_cons, ob_0, fv00 h1, fv_0_3, obH hb, fvH0 hb, fsH0 hb, fvH1 hb, fsH1 hb, fvH2 hb, fvH3 hb, fvH4 hb, fvH5 hb, fvH6 hb, fvH7 hb, kdH1 hb, lnH1 hb, ltH1 hb, kdH2 hb, lnH2 hb, ltH2 hb, kdH3 hb, lnH3 hb, ltH3 hb, kdH4 hb, lnH4 hb, ltH4 hb, kdH5 hb, lnH5 hb, ltH5 hb, kdH6 hb, lnH6 hb, ltH6 hb, ob_39, fv_39_0, fv_39_1, fv_39_2, fv_39_3, fv_39_4, fs_39_4, fv_39_5, fs_39_5, fv_39_6, fv_39_7, fs_39_7, fv_39_8, fs_39_8, fv_39_9, fs_39_9, fv_39_10, fs_39_10, kd_43, ln_43]
    refine ⟨fun z => absurd z c, fun _ => ?_⟩
    refine q8_no hM (by decide) (fun g' hE => ?_)
    simp only [e_go, rX8_longest_0, rX8_longest_1, rX8_longest_4, rX8_longest_5, rX8_longest_8, rX8_longest_11, rX8_longest_12, rX8_longest_13, rX8_longest_16, rX8_longest_17, rX8_longest_18, rX8_longest_21, rX8_longest_22, rX8_longest_25, rX8_longest_28, rX8_longest_29, rX8_longest_32, rX8_longest_35, rX8_longest_36, rX8_longest_37, rX8_longest_40, e_aald, e_ald0, e_callV2, e_get, e_if, e_ild1, e_push, e_pushn, e_pushs, e_ret, m_b0, m_b01, m_b1, m_em, Classical.not_not, Nat.reduceBEq, Nat.reduceLT, Nat.reduceLeDiff, Nat.reduceAdd, cond_true, cond_false, Bool.or_false, Bool.false_or, Bool.or_true, Bool.true_or, beq_iff_eq, true_and, and_true, true_or, or_true, forall_const, not_true_eq_false, not_false_eq_true, false_implies, implies_true, Nat.reduceEqDiff, List.length_nil, List.length_cons, ob_0, fv00 h1, fv_0_3, obH hb, fvH0 hb, fsH0 hb, fvH1 hb, fsH1 hb, fvH2 hb, fvH3 hb, fvH4 hb, fvH5 hb, fvH6 hb, fvH7 hb, kdH1 hb, lnH1 hb, ltH1 hb, kdH2 hb, lnH2 hb, ltH2 hb, kdH3 hb, lnH3 hb, ltH3 hb, kdH4 hb, lnH4 hb, ltH4 hb, kdH5 hb, lnH5 hb, ltH5 hb, kdH6 hb, lnH6 hb, ltH6 hb, ob_39, fv_39_0, fv_39_1, fv_39_2, fv_39_3, fv_39_4, fs_39_4, fv_39_5, fs_39_5, fv_39_6, fv_39_7, fs_39_7, fv_39_8, fs_39_8, fv_39_9, fs_39_9, fv_39_10, fs_39_10, kd_43, ln_43]
    exact h g' hE
theorem q8_passed {g A : m_G} {t : Int} {q : m_Post} (hM : c_M g A) (hW : h_W (A 68)) (h : ∀ g', k_E g g' (x_ln A 3 t).2 → q (some (.inl (x_ln A 3 t).1)) g') : wX8_passed.1 [.inr (.inr 0), .inl t] g q := by
  obtain ⟨b, h1⟩ : ∃ b : Nat, b = 1 := ⟨1, rfl⟩
  have hb : m_hs b := Or.inl h1
  have hR : h_R g b (A 68) := h1 ▸ hM.1.1
  have hZ : h_Z g b := h1 ▸ hM.1.2
  have hz := hW.1
  refine m_wp_of (by simp [m_fit]) (fun J hJ => ?_)
  simp only [m_ini, Nat.reduceSub, List.replicate]
  unfold x_ln at h
  by_cases c : 0 ≤ t ∧ t < A 68 1
  · rw [if_pos c] at h
    have hcl : m_lnc (44 + t.toNat) := by unfold m_lnc; omega
    refine m_run_ok hJ (fun _ => false) 40 _ _ _ _ ?_
    simp only [e_go, rX8_passed_0, rX8_passed_1, rX8_passed_4, rX8_passed_5, rX8_passed_8, rX8_passed_11, rX8_passed_12, rX8_passed_13, rX8_passed_16, rX8_passed_17, rX8_passed_18, rX8_passed_21, rX8_passed_22, rX8_passed_25, rX8_passed_28, rX8_passed_29, rX8_passed_32, rX8_passed_35, rX8_passed_36, rX8_passed_37, rX8_passed_40, e_aald, e_ald0, e_callV2, e_get, e_if, e_ild1, e_push, e_pushn, e_pushs, e_ret, m_b0, m_b01, m_b1, m_em, Classical.not_not, Nat.reduceBEq, Nat.reduceLT, Nat.reduceLeDiff, Nat.reduceAdd, cond_true, cond_false, Bool.or_false, Bool.false_or, Bool.or_true, Bool.true_or, beq_iff_eq, true_and, and_true, true_or, or_true, forall_const, not_true_eq_false, not_false_eq_true, false_implies, implies_true, Nat.reduceEqDiff, List.length_nil, List.length_cons, ob_0, fv00 h1, fv_0_3, obH hb, fvH0 hb, fsH0 hb, fvH1 hb, fsH1 hb, fvH2 hb, fvH3 hb, fvH4 hb, fvH5 hb, fvH6 hb, fvH7 hb, kdH1 hb, lnH1 hb, ltH1 hb, kdH2 hb, lnH2 hb, ltH2 hb, kdH3 hb, lnH3 hb, ltH3 hb, kdH4 hb, lnH4 hb, ltH4 hb, kdH5 hb, lnH5 hb, ltH5 hb, kdH6 hb, lnH6 hb, ltH6 hb, ob_39, fv_39_0, fv_39_1, fv_39_2, fv_39_3, fv_39_4, fs_39_4, fv_39_5, fs_39_5, fv_39_6, fv_39_7, fs_39_7, fv_39_8, fs_39_8, fv_39_9, fs_39_9, fv_39_10, fs_39_10, kd_43, ln_43, obL hcl, fvL0 hcl, fsL0 hcl, fvL1 hcl, fsL1 hcl, fvL2 hcl, fsL2 hcl, fvL3 hcl, fsL3 hcl, fvL4 hcl, fsL4 hcl, fvL5 hcl, fsL5 hcl, fvL6 hcl, fsL6 hcl, fvL7 hcl, fsL7 hcl, fvL8 hcl, fsL8 hcl, fvL9 hcl, fsL9 hcl, fvL10 hcl, fsL10 hcl, fvL11 hcl, fsL11 hcl]
    refine p_hasLane hb hR ?_
    simp only [e_go, rX8_passed_0, rX8_passed_1, rX8_passed_4, rX8_passed_5, rX8_passed_8, rX8_passed_11, rX8_passed_12, rX8_passed_13, rX8_passed_16, rX8_passed_17, rX8_passed_18, rX8_passed_21, rX8_passed_22, rX8_passed_25, rX8_passed_28, rX8_passed_29, rX8_passed_32, rX8_passed_35, rX8_passed_36, rX8_passed_37, rX8_passed_40, e_aald, e_ald0, e_callV2, e_get, e_if, e_ild1, e_push, e_pushn, e_pushs, e_ret, m_b0, m_b01, m_b1, m_em, Classical.not_not, Nat.reduceBEq, Nat.reduceLT, Nat.reduceLeDiff, Nat.reduceAdd, cond_true, cond_false, Bool.or_false, Bool.false_or, Bool.or_true, Bool.true_or, beq_iff_eq, true_and, and_true, true_or, or_true, forall_const, not_true_eq_false, not_false_eq_true, false_implies, implies_true, Nat.reduceEqDiff, List.length_nil, List.length_cons, ob_0, fv00 h1, fv_0_3, obH hb, fvH0 hb, fsH0 hb, fvH1 hb, fsH1 hb, fvH2 hb, fvH3 hb, fvH4 hb, fvH5 hb, fvH6 hb, fvH7 hb, kdH1 hb, lnH1 hb, ltH1 hb, kdH2 hb, lnH2 hb, ltH2 hb, kdH3 hb, lnH3 hb, ltH3 hb, kdH4 hb, lnH4 hb, ltH4 hb, kdH5 hb, lnH5 hb, ltH5 hb, kdH6 hb, lnH6 hb, ltH6 hb, ob_39, fv_39_0, fv_39_1, fv_39_2, fv_39_3, fv_39_4, fs_39_4, fv_39_5, fs_39_5, fv_39_6, fv_39_7, fs_39_7, fv_39_8, fs_39_8, fv_39_9, fs_39_9, fv_39_10, fs_39_10, kd_43, ln_43, obL hcl, fvL0 hcl, fsL0 hcl, fvL1 hcl, fsL1 hcl, fvL2 hcl, fsL2 hcl, fvL3 hcl, fsL3 hcl, fvL4 hcl, fsL4 hcl, fvL5 hcl, fsL5 hcl, fvL6 hcl, fsL6 hcl, fvL7 hcl, fsL7 hcl, fvL8 hcl, fsL8 hcl, fvL9 hcl, fsL9 hcl, fvL10 hcl, fsL10 hcl, fvL11 hcl, fsL11 hcl]
    refine ⟨fun _ => ?_, fun z => absurd c z⟩
    refine p1_run hb hR (h_N.zero hZ hW.1.1.2) hW (nd0_b hW) (fun g' hO hF => ?_)
    simp only [e_go, rX8_passed_0, rX8_passed_1, rX8_passed_4, rX8_passed_5, rX8_passed_8, rX8_passed_11, rX8_passed_12, rX8_passed_13, rX8_passed_16, rX8_passed_17, rX8_passed_18, rX8_passed_21, rX8_passed_22, rX8_passed_25, rX8_passed_28, rX8_passed_29, rX8_passed_32, rX8_passed_35, rX8_passed_36, rX8_passed_37, rX8_passed_40, e_aald, e_ald0, e_callV2, e_get, e_if, e_ild1, e_push, e_pushn, e_pushs, e_ret, m_b0, m_b01, m_b1, m_em, Classical.not_not, Nat.reduceBEq, Nat.reduceLT, Nat.reduceLeDiff, Nat.reduceAdd, cond_true, cond_false, Bool.or_false, Bool.false_or, Bool.or_true, Bool.true_or, beq_iff_eq, true_and, and_true, true_or, or_true, forall_const, not_true_eq_false, not_false_eq_true, false_implies, implies_true, Nat.reduceEqDiff, List.length_nil, List.length_cons, ob_0, fv00 h1, fv_0_3, obH hb, fvH0 hb, fsH0 hb, fvH1 hb, fsH1 hb, fvH2 hb, fvH3 hb, fvH4 hb, fvH5 hb, fvH6 hb, fvH7 hb, kdH1 hb, lnH1 hb, ltH1 hb, kdH2 hb, lnH2 hb, ltH2 hb, kdH3 hb, lnH3 hb, ltH3 hb, kdH4 hb, lnH4 hb, ltH4 hb, kdH5 hb, lnH5 hb, ltH5 hb, kdH6 hb, lnH6 hb, ltH6 hb, ob_39, fv_39_0, fv_39_1, fv_39_2, fv_39_3, fv_39_4, fs_39_4, fv_39_5, fs_39_5, fv_39_6, fv_39_7, fs_39_7, fv_39_8, fs_39_8, fv_39_9, fs_39_9, fv_39_10, fs_39_10, kd_43, ln_43, obL hcl, fvL0 hcl, fsL0 hcl, fvL1 hcl, fsL1 hcl, fvL2 hcl, fsL2 hcl, fvL3 hcl, fsL3 hcl, fvL4 hcl, fsL4 hcl, fvL5 hcl, fsL5 hcl, fvL6 hcl, fsL6 hcl, fvL7 hcl, fsL7 hcl, fvL8 hcl, fsL8 hcl, fvL9 hcl, fsL9 hcl, fvL10 hcl, fsL10 hcl, fvL11 hcl, fsL11 hcl]
    refine ⟨by omega, ?_⟩
    rw [(hO.2.1 t.toNat (by omega)).2]
    exact h g' (hM.same hF.c)
  · rw [if_neg c] at h
    refine m_run_ok hJ (fun _ => false) 40 _ _ _ _ ?_
    simp only [e_go, rX8_passed_0, rX8_passed_1, rX8_passed_4, rX8_passed_5, rX8_passed_8, rX8_passed_11, rX8_passed_12, rX8_passed_13, rX8_passed_16, rX8_passed_17, rX8_passed_18, rX8_passed_21, rX8_passed_22, rX8_passed_25, rX8_passed_28, rX8_passed_29, rX8_passed_32, rX8_passed_35, rX8_passed_36, rX8_passed_37, rX8_passed_40, e_aald, e_ald0, e_callV2, e_get, e_if, e_ild1, e_push, e_pushn, e_pushs, e_ret, m_b0, m_b01, m_b1, m_em, Classical.not_not, Nat.reduceBEq, Nat.reduceLT, Nat.reduceLeDiff, Nat.reduceAdd, cond_true, cond_false, Bool.or_false, Bool.false_or, Bool.or_true, Bool.true_or, beq_iff_eq, true_and, and_true, true_or, or_true, forall_const, not_true_eq_false, not_false_eq_true, false_implies, implies_true, Nat.reduceEqDiff, List.length_nil, List.length_cons, ob_0, fv00 h1, fv_0_3, obH hb, fvH0 hb, fsH0 hb, fvH1 hb, fsH1 hb, fvH2 hb, fvH3 hb, fvH4 hb, fvH5 hb, fvH6 hb, fvH7 hb, kdH1 hb, lnH1 hb, ltH1 hb, kdH2 hb, lnH2 hb, ltH2 hb, kdH3 hb, lnH3 hb, ltH3 hb, kdH4 hb, lnH4 hb, ltH4 hb, kdH5 hb, lnH5 hb, ltH5 hb, kdH6 hb, lnH6 hb, ltH6 hb, ob_39, fv_39_0, fv_39_1, fv_39_2, fv_39_3, fv_39_4, fs_39_4, fv_39_5, fs_39_5, fv_39_6, fv_39_7, fs_39_7, fv_39_8, fs_39_8, fv_39_9, fs_39_9, fv_39_10, fs_39_10, kd_43, ln_43]
    refine p_hasLane hb hR ?_
    simp only [e_go, rX8_passed_0, rX8_passed_1, rX8_passed_4, rX8_passed_5, rX8_passed_8, rX8_passed_11, rX8_passed_12, rX8_passed_13, rX8_passed_16, rX8_passed_17, rX8_passed_18, rX8_passed_21, rX8_passed_22, rX8_passed_25, rX8_passed_28, rX8_passed_29, rX8_passed_32, rX8_passed_35, rX8_passed_36, rX8_passed_37, rX8_passed_40, e_aald, e_ald0, e_callV2, e_get, e_if, e_ild1, e_push, e_pushn, e_pushs, e_ret, m_b0, m_b01, m_b1, m_em, Classical.not_not, Nat.reduceBEq, Nat.reduceLT, Nat.reduceLeDiff, Nat.reduceAdd, cond_true, cond_false, Bool.or_false, Bool.false_or, Bool.or_true, Bool.true_or, beq_iff_eq, true_and, and_true, true_or, or_true, forall_const, not_true_eq_false, not_false_eq_true, false_implies, implies_true, Nat.reduceEqDiff, List.length_nil, List.length_cons, ob_0, fv00 h1, fv_0_3, obH hb, fvH0 hb, fsH0 hb, fvH1 hb, fsH1 hb, fvH2 hb, fvH3 hb, fvH4 hb, fvH5 hb, fvH6 hb, fvH7 hb, kdH1 hb, lnH1 hb, ltH1 hb, kdH2 hb, lnH2 hb, ltH2 hb, kdH3 hb, lnH3 hb, ltH3 hb, kdH4 hb, lnH4 hb, ltH4 hb, kdH5 hb, lnH5 hb, ltH5 hb, kdH6 hb, lnH6 hb, ltH6 hb, ob_39, fv_39_0, fv_39_1, fv_39_2, fv_39_3, fv_39_4, fs_39_4, fv_39_5, fs_39_5, fv_39_6, fv_39_7, fs_39_7, fv_39_8, fs_39_8, fv_39_9, fs_39_9, fv_39_10, fs_39_10, kd_43, ln_43]
    refine ⟨fun z => absurd z c, fun _ => ?_⟩
    refine q8_no hM (by decide) (fun g' hE => ?_)
    simp only [e_go, rX8_passed_0, rX8_passed_1, rX8_passed_4, rX8_passed_5, rX8_passed_8, rX8_passed_11, rX8_passed_12, rX8_passed_13, rX8_passed_16, rX8_passed_17, rX8_passed_18, rX8_passed_21, rX8_passed_22, rX8_passed_25, rX8_passed_28, rX8_passed_29, rX8_passed_32, rX8_passed_35, rX8_passed_36, rX8_passed_37, rX8_passed_40, e_aald, e_ald0, e_callV2, e_get, e_if, e_ild1, e_push, e_pushn, e_pushs, e_ret, m_b0, m_b01, m_b1, m_em, Classical.not_not, Nat.reduceBEq, Nat.reduceLT, Nat.reduceLeDiff, Nat.reduceAdd, cond_true, cond_false, Bool.or_false, Bool.false_or, Bool.or_true, Bool.true_or, beq_iff_eq, true_and, and_true, true_or, or_true, forall_const, not_true_eq_false, not_false_eq_true, false_implies, implies_true, Nat.reduceEqDiff, List.length_nil, List.length_cons, ob_0, fv00 h1, fv_0_3, obH hb, fvH0 hb, fsH0 hb, fvH1 hb, fsH1 hb, fvH2 hb, fvH3 hb, fvH4 hb, fvH5 hb, fvH6 hb, fvH7 hb, kdH1 hb, lnH1 hb, ltH1 hb, kdH2 hb, lnH2 hb, ltH2 hb, kdH3 hb, lnH3 hb, ltH3 hb, kdH4 hb, lnH4 hb, ltH4 hb, kdH5 hb, lnH5 hb, ltH5 hb, kdH6 hb, lnH6 hb, ltH6 hb, ob_39, fv_39_0, fv_39_1, fv_39_2, fv_39_3, fv_39_4, fs_39_4, fv_39_5, fs_39_5, fv_39_6, fv_39_7, fs_39_7, fv_39_8, fs_39_8, fv_39_9, fs_39_9, fv_39_10, fs_39_10, kd_43, ln_43]
    exact h g' hE
theorem q8_strayed {g A : m_G} {q : m_Post} (hM : c_M g A) (hW : h_W (A 68)) (h : ∀ g', k_E g g' (x_one A 0).2 → q (some (.inl (x_one A 0).1)) g') : wX8_strayed.1 [.inr (.inr 0)] g q := by
  obtain ⟨b, h1⟩ : ∃ b : Nat, b = 1 := ⟨1, rfl⟩
  have hb : m_hs b := Or.inl h1
  have hR : h_R g b (A 68) := h1 ▸ hM.1.1
  have hZ : h_Z g b := h1 ▸ hM.1.2
  have hz := hW.1
  refine m_wp_of (by simp [m_fit]) (fun J hJ => ?_)
  simp only [m_ini, Nat.reduceSub, List.replicate]
  refine m_run_ok hJ (fun _ => false) 40 _ _ _ _ ?_
  simp only [e_go, rX8_strayed_0, rX8_strayed_1, rX8_strayed_4, rX8_strayed_5, rX8_strayed_8, rX8_strayed_11, rX8_strayed_12, rX8_strayed_15, rX8_strayed_18, e_ald0, e_callV2, e_get, e_pushn, e_pushs, e_ret, m_b0, m_b01, m_b1, m_em, Classical.not_not, Nat.reduceBEq, Nat.reduceLT, Nat.reduceLeDiff, Nat.reduceAdd, cond_true, cond_false, Bool.or_false, Bool.false_or, Bool.or_true, Bool.true_or, beq_iff_eq, true_and, and_true, true_or, or_true, forall_const, not_true_eq_false, not_false_eq_true, false_implies, implies_true, Nat.reduceEqDiff, List.length_nil, List.length_cons, ob_0, fv00 h1, fv_0_3, obH hb, fvH0 hb, fsH0 hb, fvH1 hb, fsH1 hb, fvH2 hb, fvH3 hb, fvH4 hb, fvH5 hb, fvH6 hb, fvH7 hb, kdH1 hb, lnH1 hb, ltH1 hb, kdH2 hb, lnH2 hb, ltH2 hb, kdH3 hb, lnH3 hb, ltH3 hb, kdH4 hb, lnH4 hb, ltH4 hb, kdH5 hb, lnH5 hb, ltH5 hb, kdH6 hb, lnH6 hb, ltH6 hb, ob_39, fv_39_0, fv_39_1, fv_39_2, fv_39_3, fv_39_4, fs_39_4, fv_39_5, fs_39_5, fv_39_6, fv_39_7, fs_39_7, fv_39_8, fs_39_8, fv_39_9, fs_39_9, fv_39_10, fs_39_10]
  refine p1_run hb hR (h_N.zero hZ hW.1.1.2) hW (nd0_b hW) (fun g' hO hF => ?_)
  simp only [e_go, rX8_strayed_0, rX8_strayed_1, rX8_strayed_4, rX8_strayed_5, rX8_strayed_8, rX8_strayed_11, rX8_strayed_12, rX8_strayed_15, rX8_strayed_18, e_ald0, e_callV2, e_get, e_pushn, e_pushs, e_ret, m_b0, m_b01, m_b1, m_em, Classical.not_not, Nat.reduceBEq, Nat.reduceLT, Nat.reduceLeDiff, Nat.reduceAdd, cond_true, cond_false, Bool.or_false, Bool.false_or, Bool.or_true, Bool.true_or, beq_iff_eq, true_and, and_true, true_or, or_true, forall_const, not_true_eq_false, not_false_eq_true, false_implies, implies_true, Nat.reduceEqDiff, List.length_nil, List.length_cons, ob_0, fv00 h1, fv_0_3, obH hb, fvH0 hb, fsH0 hb, fvH1 hb, fsH1 hb, fvH2 hb, fvH3 hb, fvH4 hb, fvH5 hb, fvH6 hb, fvH7 hb, kdH1 hb, lnH1 hb, ltH1 hb, kdH2 hb, lnH2 hb, ltH2 hb, kdH3 hb, lnH3 hb, ltH3 hb, kdH4 hb, lnH4 hb, ltH4 hb, kdH5 hb, lnH5 hb, ltH5 hb, kdH6 hb, lnH6 hb, ltH6 hb, ob_39, fv_39_0, fv_39_1, fv_39_2, fv_39_3, fv_39_4, fs_39_4, fv_39_5, fs_39_5, fv_39_6, fv_39_7, fs_39_7, fv_39_8, fs_39_8, fv_39_9, fs_39_9, fv_39_10, fs_39_10]
  rw [hO.2.2.1]
  exact h g' (hM.same hF.c)
theorem d_day_8 {s : Nat → Int} {nd : Nat → Nat → Int} (hW : h_W s) (hN : d_nd s nd) : (d_day s nd).2 8 2 = -9 ∨ 0 ≤ (d_day s nd).2 8 2 := by
  have e : ∀ n, (d_run s nd n).2 8 2 = -9 ∨ 0 ≤ (d_run s nd n).2 8 2 := by
    intro n
    induction n with
    | zero => exact Or.inl rfl
    | succ n ih =>
      have cm : ∀ T : Nat, (d_come s nd n T (d_run s nd n)).2 8 2 = (d_run s nd n).2 8 2 := by
        intro T
        induction T with
        | zero => rfl
        | succ T ih2 =>
          simp only [d_come]
          split
          · rw [← ih2]
            generalize d_come s nd n T (d_run s nd n) = σ
            unfold d_one d_put
            have h8 : (d_cnt s σ).2 8 2 = σ.2 8 2 := by unfold d_cnt; simp only [m_upv]; simp
            split
            · simp only [m_upv]; simp; exact h8
            · split
              · rw [d_stand_F _ _ _ _ _ _ 8 (by decide)]; simp only [m_upv]; simp; exact h8
              · rw [d_stand_F _ _ _ _ _ _ 8 (by decide)]; exact h8
          · exact ih2
      have ln : ∀ (L : Nat) (σ : d_S), (σ.2 8 2 = -9 ∨ 0 ≤ σ.2 8 2) → ((d_lanes s n L σ).2 8 2 = -9 ∨ 0 ≤ (d_lanes s n L σ).2 8 2) := by
        intro L σ h0
        induction L with
        | zero => exact h0
        | succ L ih2 =>
          simp only [d_lanes]
          generalize d_lanes s n L σ = σ1 at ih2 ⊢
          have h1 : (d_lv s L n σ1).2 8 2 = -9 ∨ 0 ≤ (d_lv s L n σ1).2 8 2 := by
            unfold d_lv
            split
            · unfold d_leave
              split
              · exact ih2
              · right; simp only [m_upv]; simp
            · exact ih2
          unfold d_lane
          generalize d_lv s L n σ1 = σ2 at h1 ⊢
          have h2 : (d_sv s L n σ2).2 8 2 = σ2.2 8 2 := by
            unfold d_sv
            split
            · unfold d_serve
              split
              · rfl
              · simp only [m_upv]; simp
            · rfl
          have h3 : (d_lg L (d_sv s L n σ2)).2 8 2 = (d_sv s L n σ2).2 8 2 := by unfold d_lg; simp only [m_upv]; simp
          rw [h3, h2]
          exact h1
      show (d_lanes s n (s 1).toNat (d_come s nd n (s 0).toNat (d_run s nd n))).2 8 2 = -9 ∨ _
      exact ln _ _ (by rw [cm]; exact ih)
  unfold d_day
  rw [d_end_ne (j := 8) (by decide)]
  exact e 7200
theorem q8_last {g A : m_G} {q : m_Post} (hM : c_M g A) (hW : h_W (A 68)) (h : ∀ g', k_E g g' (x_one A 2).2 → q (some (.inl (x_one A 2).1)) g') : wX8_last.1 [.inr (.inr 0)] g q := by
  obtain ⟨b, h1⟩ : ∃ b : Nat, b = 1 := ⟨1, rfl⟩
  have hb : m_hs b := Or.inl h1
  have hR : h_R g b (A 68) := h1 ▸ hM.1.1
  have hZ : h_Z g b := h1 ▸ hM.1.2
  have hz := hW.1
  refine m_wp_of (by simp [m_fit]) (fun J hJ => ?_)
  simp only [m_ini, Nat.reduceSub, List.replicate]
  have h8 := d_day_8 hW (nd0_b hW)
  refine m_run_ok hJ (fun _ => false) 40 _ _ _ _ ?_
  simp only [e_go, rX8_last_0, rX8_last_1, rX8_last_4, rX8_last_5, rX8_last_8, rX8_last_11, rX8_last_12, rX8_last_15, rX8_last_18, rX8_last_21, rX8_last_23, rX8_last_26, rX8_last_27, rX8_last_30, rX8_last_33, e_ald0, e_callV2, e_get, e_goto, e_if, e_push, e_pushn, e_pushs, e_ret, m_b0, m_b01, m_b1, m_em, Classical.not_not, Nat.reduceBEq, Nat.reduceLT, Nat.reduceLeDiff, Nat.reduceAdd, cond_true, cond_false, Bool.or_false, Bool.false_or, Bool.or_true, Bool.true_or, beq_iff_eq, true_and, and_true, true_or, or_true, forall_const, not_true_eq_false, not_false_eq_true, false_implies, implies_true, Nat.reduceEqDiff, List.length_nil, List.length_cons, ob_0, fv00 h1, fv_0_3, obH hb, fvH0 hb, fsH0 hb, fvH1 hb, fsH1 hb, fvH2 hb, fvH3 hb, fvH4 hb, fvH5 hb, fvH6 hb, fvH7 hb, kdH1 hb, lnH1 hb, ltH1 hb, kdH2 hb, lnH2 hb, ltH2 hb, kdH3 hb, lnH3 hb, ltH3 hb, kdH4 hb, lnH4 hb, ltH4 hb, kdH5 hb, lnH5 hb, ltH5 hb, kdH6 hb, lnH6 hb, ltH6 hb, ob_39, fv_39_0, fv_39_1, fv_39_2, fv_39_3, fv_39_4, fs_39_4, fv_39_5, fs_39_5, fv_39_6, fv_39_7, fs_39_7, fv_39_8, fs_39_8, fv_39_9, fs_39_9, fv_39_10, fs_39_10]
  refine p1_run hb hR (h_N.zero hZ hW.1.1.2) hW (nd0_b hW) (fun g' hO hF => ?_)
  simp only [e_go, rX8_last_0, rX8_last_1, rX8_last_4, rX8_last_5, rX8_last_8, rX8_last_11, rX8_last_12, rX8_last_15, rX8_last_18, rX8_last_21, rX8_last_23, rX8_last_26, rX8_last_27, rX8_last_30, rX8_last_33, e_ald0, e_callV2, e_get, e_goto, e_if, e_push, e_pushn, e_pushs, e_ret, m_b0, m_b01, m_b1, m_em, Classical.not_not, Nat.reduceBEq, Nat.reduceLT, Nat.reduceLeDiff, Nat.reduceAdd, cond_true, cond_false, Bool.or_false, Bool.false_or, Bool.or_true, Bool.true_or, beq_iff_eq, true_and, and_true, true_or, or_true, forall_const, not_true_eq_false, not_false_eq_true, false_implies, implies_true, Nat.reduceEqDiff, List.length_nil, List.length_cons, ob_0, fv00 h1, fv_0_3, obH hb, fvH0 hb, fsH0 hb, fvH1 hb, fsH1 hb, fvH2 hb, fvH3 hb, fvH4 hb, fvH5 hb, fvH6 hb, fvH7 hb, kdH1 hb, lnH1 hb, ltH1 hb, kdH2 hb, lnH2 hb, ltH2 hb, kdH3 hb, lnH3 hb, ltH3 hb, kdH4 hb, lnH4 hb, ltH4 hb, kdH5 hb, lnH5 hb, ltH5 hb, kdH6 hb, lnH6 hb, ltH6 hb, ob_39, fv_39_0, fv_39_1, fv_39_2, fv_39_3, fv_39_4, fs_39_4, fv_39_5, fs_39_5, fv_39_6, fv_39_7, fs_39_7, fv_39_8, fs_39_8, fv_39_9, fs_39_9, fv_39_10, fs_39_10]
  rw [hO.2.2.2.1]
  have hh := h g' (hM.same hF.c)
  unfold x_one a_day at hh
  simp only at hh
  by_cases c : (d_day (A 68) (nd0 (A 68))).2 8 2 < 0
  · rw [if_pos c]
    rw [show (d_day (A 68) (nd0 (A 68))).2 8 2 = -9 by omega] at hh
    exact ⟨fun z => absurd z (by decide), fun _ => hh⟩
  · rw [if_neg c]
    exact ⟨fun _ => hh, fun z => absurd (by omega) z⟩
