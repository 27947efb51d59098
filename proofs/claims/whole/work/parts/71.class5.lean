set_option maxRecDepth 20000
set_option maxHeartbeats 2000000
theorem p5_goRound {b : Nat} (hb : m_hs b) {g : m_G} {s H : Nat → Int} {q : m_Post} (hR : h_R g b s) (hW : h_W s) (hH : ∀ i : Nat, (i : Int) < s 0 → g 63 i = H i) (h : ∀ g', (∀ j, j ≠ 63 → g' j = g j) → (∀ i : Nat, (i : Int) < s 0 → g' 63 i = (rs_rd s H (s 0).toNat).1 i) → q (some (.inl (rs_rd s H (s 0).toNat).2)) g') : wX5_goRound.1 [.inr (.inr 62), .inr (.inr b)] g q := by
  have hz := hW.1
  have hbn : b < 30 := by unfold m_hs at hb; omega
  refine m_wp_of (by simp [m_fit]) (fun J hJ => ?_)
  simp only [m_ini, Nat.reduceSub, List.replicate]
  have loop : ∀ (m t : Nat) (g1 : m_G) (x4 : Option m_V), t + m = (s 0).toNat → (∀ j, j ≠ 63 → g1 j = g j) → (∀ i : Nat, (i : Int) < s 0 → g1 63 i = (rs_rd s H t).1 i) → J 4 [some (.inr (.inr 62)), some (.inr (.inr b)), some (.inl (rs_rd s H t).2), some (.inl t), x4] [] g1 := by
    intro m
    induction m with
    | zero =>
      intro t g1 x4 ht hO hG
      have e0 : g1 b 0 = s 0 := by rw [hO b (by omega)]; exact hR.1.1
      have r1 := rs_rd_1 s H t
      refine m_run_ok hJ (fun pc => pc == 4) 60 _ _ _ _ ?_
      simp only [e_go, rX5_goRound_0, rX5_goRound_1, rX5_goRound_2, rX5_goRound_3, rX5_goRound_4, rX5_goRound_5, rX5_goRound_6, rX5_goRound_9, rX5_goRound_12, rX5_goRound_13, rX5_goRound_14, rX5_goRound_15, rX5_goRound_18, rX5_goRound_20, rX5_goRound_21, rX5_goRound_24, rX5_goRound_26, rX5_goRound_27, rX5_goRound_30, rX5_goRound_31, rX5_goRound_32, rX5_goRound_35, rX5_goRound_36, rX5_goRound_39, rX5_goRound_40, rX5_goRound_41, rX5_goRound_42, rX5_goRound_45, rX5_goRound_46, rX5_goRound_48, rX5_goRound_49, rX5_goRound_52, rX5_goRound_55, rX5_goRound_56, e_ald0, e_ald1, e_callV3, e_get, e_goto, e_iald, e_iast, e_icmp, e_if, e_ild2, e_ild3, e_ild4, e_inc3, e_ist2, e_ist3, e_ist4, e_nl0, e_nl1, e_nl2, e_push, e_pushn, e_pushs, e_retz, m_b0, m_b01, m_b1, m_em, Classical.not_not, Nat.reduceBEq, Nat.reduceLT, Nat.reduceLeDiff, Nat.reduceAdd, cond_true, cond_false, Bool.or_false, Bool.false_or, Bool.or_true, Bool.true_or, beq_iff_eq, true_and, and_true, true_or, or_true, forall_const, not_true_eq_false, not_false_eq_true, false_implies, implies_true, Nat.reduceEqDiff, List.length_nil, List.length_cons, ob_62, fv_62_0, kd_63, ln_63, obH hb, fvH0 hb, fsH0 hb, fvH1 hb, fsH1 hb, fvH2 hb, fvH3 hb, fvH4 hb, fvH5 hb, fvH6 hb, fvH7 hb, kdH1 hb, lnH1 hb, ltH1 hb, kdH2 hb, lnH2 hb, ltH2 hb, kdH3 hb, lnH3 hb, ltH3 hb, kdH4 hb, lnH4 hb, ltH4 hb, kdH5 hb, lnH5 hb, ltH5 hb, kdH6 hb, lnH6 hb, ltH6 hb, e0, Int.toNat_natCast]
      refine ⟨fun _ => ⟨r1, ?_⟩, fun z => absurd z (by omega)⟩
      rw [show t = (s 0).toNat by omega] at hG ⊢
      exact h g1 hO hG
    | succ m ih =>
      intro t g1 x4 ht hO hG
      have e0 : g1 b 0 = s 0 := by rw [hO b (by omega)]; exact hR.1.1
      have r1 := rs_rd_1 s H t
      have nx := ih (t + 1) (m_up g1 63 t (rs_go s (rs_rd s H t).1 t (s 1).toNat).1)
      simp only [rs_rd] at nx
      have nx := fun x4 => nx x4 (by omega) (fun j hj => (m_up_ne hj).trans (hO j hj)) (fun i hi => by
        rw [m_up_eq]
        by_cases e : i = t
        · subst e; rw [m_us, m_us]
        · rw [m_un e, m_un e]; exact hG i hi)
      refine m_run_ok hJ (fun pc => pc == 4) 60 _ _ _ _ ?_
      simp only [e_go, rX5_goRound_0, rX5_goRound_1, rX5_goRound_2, rX5_goRound_3, rX5_goRound_4, rX5_goRound_5, rX5_goRound_6, rX5_goRound_9, rX5_goRound_12, rX5_goRound_13, rX5_goRound_14, rX5_goRound_15, rX5_goRound_18, rX5_goRound_20, rX5_goRound_21, rX5_goRound_24, rX5_goRound_26, rX5_goRound_27, rX5_goRound_30, rX5_goRound_31, rX5_goRound_32, rX5_goRound_35, rX5_goRound_36, rX5_goRound_39, rX5_goRound_40, rX5_goRound_41, rX5_goRound_42, rX5_goRound_45, rX5_goRound_46, rX5_goRound_48, rX5_goRound_49, rX5_goRound_52, rX5_goRound_55, rX5_goRound_56, e_ald0, e_ald1, e_callV3, e_get, e_goto, e_iald, e_iast, e_icmp, e_if, e_ild2, e_ild3, e_ild4, e_inc3, e_ist2, e_ist3, e_ist4, e_nl0, e_nl1, e_nl2, e_push, e_pushn, e_pushs, e_retz, m_b0, m_b01, m_b1, m_em, Classical.not_not, Nat.reduceBEq, Nat.reduceLT, Nat.reduceLeDiff, Nat.reduceAdd, cond_true, cond_false, Bool.or_false, Bool.false_or, Bool.or_true, Bool.true_or, beq_iff_eq, true_and, and_true, true_or, or_true, forall_const, not_true_eq_false, not_false_eq_true, false_implies, implies_true, Nat.reduceEqDiff, List.length_nil, List.length_cons, ob_62, fv_62_0, kd_63, ln_63, obH hb, fvH0 hb, fsH0 hb, fvH1 hb, fsH1 hb, fvH2 hb, fvH3 hb, fvH4 hb, fvH5 hb, fvH6 hb, fvH7 hb, kdH1 hb, lnH1 hb, ltH1 hb, kdH2 hb, lnH2 hb, ltH2 hb, kdH3 hb, lnH3 hb, ltH3 hb, kdH4 hb, lnH4 hb, ltH4 hb, kdH5 hb, lnH5 hb, ltH5 hb, kdH6 hb, lnH6 hb, ltH6 hb, e0, Int.toNat_natCast]
      refine ⟨fun z => absurd z (by omega), fun _ => ?_⟩
      refine p5_leastLane hb (hR.same (fun j hj => hO _ (by omega))) hW (by omega) hG ?_
      simp only [e_go, rX5_goRound_0, rX5_goRound_1, rX5_goRound_2, rX5_goRound_3, rX5_goRound_4, rX5_goRound_5, rX5_goRound_6, rX5_goRound_9, rX5_goRound_12, rX5_goRound_13, rX5_goRound_14, rX5_goRound_15, rX5_goRound_18, rX5_goRound_20, rX5_goRound_21, rX5_goRound_24, rX5_goRound_26, rX5_goRound_27, rX5_goRound_30, rX5_goRound_31, rX5_goRound_32, rX5_goRound_35, rX5_goRound_36, rX5_goRound_39, rX5_goRound_40, rX5_goRound_41, rX5_goRound_42, rX5_goRound_45, rX5_goRound_46, rX5_goRound_48, rX5_goRound_49, rX5_goRound_52, rX5_goRound_55, rX5_goRound_56, e_ald0, e_ald1, e_callV3, e_get, e_goto, e_iald, e_iast, e_icmp, e_if, e_ild2, e_ild3, e_ild4, e_inc3, e_ist2, e_ist3, e_ist4, e_nl0, e_nl1, e_nl2, e_push, e_pushn, e_pushs, e_retz, m_b0, m_b01, m_b1, m_em, Classical.not_not, Nat.reduceBEq, Nat.reduceLT, Nat.reduceLeDiff, Nat.reduceAdd, cond_true, cond_false, Bool.or_false, Bool.false_or, Bool.or_true, Bool.true_or, beq_iff_eq, true_and, and_true, true_or, or_true, forall_const, not_true_eq_false, not_false_eq_true, false_implies, implies_true, Nat.reduceEqDiff, List.length_nil, List.length_cons, ob_62, fv_62_0, kd_63, ln_63, obH hb, fvH0 hb, fsH0 hb, fvH1 hb, fsH1 hb, fvH2 hb, fvH3 hb, fvH4 hb, fvH5 hb, fvH6 hb, fvH7 hb, kdH1 hb, lnH1 hb, ltH1 hb, kdH2 hb, lnH2 hb, ltH2 hb, kdH3 hb, lnH3 hb, ltH3 hb, kdH4 hb, lnH4 hb, ltH4 hb, kdH5 hb, lnH5 hb, ltH5 hb, kdH6 hb, lnH6 hb, ltH6 hb, e0, Int.toNat_natCast]
      rw [m_w2 (x := (t : Int) + 1) (by omega) (by omega), show (t : Int) + 1 = ((t + 1 : Nat) : Int) by omega, hG t (by omega)]
      refine ⟨fun c => ⟨by omega, ?_⟩, fun c => ⟨by omega, fun c2 => ⟨by omega, ?_⟩, fun c2 => ⟨by omega, ?_⟩⟩⟩
      · rw [if_pos (Or.inr (by omega))] at nx; exact nx _
      · rw [if_neg (fun z => z.elim (fun y => y c2) (fun y => by omega))] at nx; exact nx _
      · rw [if_pos (Or.inl c2)] at nx; exact nx _
  refine m_run_ok hJ (fun pc => pc == 4) 60 _ _ _ _ ?_
  simp only [e_go, rX5_goRound_0, rX5_goRound_1, rX5_goRound_2, rX5_goRound_3, rX5_goRound_4, rX5_goRound_5, rX5_goRound_6, rX5_goRound_9, rX5_goRound_12, rX5_goRound_13, rX5_goRound_14, rX5_goRound_15, rX5_goRound_18, rX5_goRound_20, rX5_goRound_21, rX5_goRound_24, rX5_goRound_26, rX5_goRound_27, rX5_goRound_30, rX5_goRound_31, rX5_goRound_32, rX5_goRound_35, rX5_goRound_36, rX5_goRound_39, rX5_goRound_40, rX5_goRound_41, rX5_goRound_42, rX5_goRound_45, rX5_goRound_46, rX5_goRound_48, rX5_goRound_49, rX5_goRound_52, rX5_goRound_55, rX5_goRound_56, e_ald0, e_ald1, e_callV3, e_get, e_goto, e_iald, e_iast, e_icmp, e_if, e_ild2, e_ild3, e_ild4, e_inc3, e_ist2, e_ist3, e_ist4, e_nl0, e_nl1, e_nl2, e_push, e_pushn, e_pushs, e_retz, m_b0, m_b01, m_b1, m_em, Classical.not_not, Nat.reduceBEq, Nat.reduceLT, Nat.reduceLeDiff, Nat.reduceAdd, cond_true, cond_false, Bool.or_false, Bool.false_or, Bool.or_true, Bool.true_or, beq_iff_eq, true_and, and_true, true_or, or_true, forall_const, not_true_eq_false, not_false_eq_true, false_implies, implies_true, Nat.reduceEqDiff, List.length_nil, List.length_cons, ob_62, fv_62_0, kd_63, ln_63, obH hb, fvH0 hb, fsH0 hb, fvH1 hb, fsH1 hb, fvH2 hb, fvH3 hb, fvH4 hb, fvH5 hb, fvH6 hb, fvH7 hb, kdH1 hb, lnH1 hb, ltH1 hb, kdH2 hb, lnH2 hb, ltH2 hb, kdH3 hb, lnH3 hb, ltH3 hb, kdH4 hb, lnH4 hb, ltH4 hb, kdH5 hb, lnH5 hb, ltH5 hb, kdH6 hb, lnH6 hb, ltH6 hb, Int.toNat_natCast]
  exact loop (s 0).toNat 0 g none (by omega) (fun _ _ => rfl) hH
theorem p5_settle {b : Nat} (hb : m_hs b) {g : m_G} {s : Nat → Int} {q : m_Post} (hR : h_R g b s) (hW : h_W s) (h : ∀ g', (∀ j, j ≠ 63 → g' j = g j) → (∀ i : Nat, (i : Int) < s 0 → g' 63 i = (rs_lp s 20).1 i) → q none g') : wX5_settle.1 [.inr (.inr 62), .inr (.inr b)] g q := by
  have hz := hW.1
  have hbn : b < 30 := by unfold m_hs at hb; omega
  refine m_wp_of (by simp [m_fit]) (fun J hJ => ?_)
  simp only [m_ini, Nat.reduceSub, List.replicate]
  have rounds : ∀ (m r : Nat) (g1 : m_G), r + m = 20 → (∀ j, j ≠ 63 → g1 j = g j) → (∀ i : Nat, (i : Int) < s 0 → g1 63 i = (rs_lp s r).1 i) → J 31 [some (.inr (.inr 62)), some (.inr (.inr b)), some (.inl (rs_lp s r).2), some (.inl r)] [] g1 := by
    intro m
    induction m with
    | zero =>
      intro r g1 hr hO hG
      have e : r = 20 := by omega
      subst e
      refine m_run_ok hJ (fun pc => pc == 2 || pc == 31) 60 _ _ _ _ ?_
      simp only [e_go, rX5_settle_0, rX5_settle_1, rX5_settle_2, rX5_settle_3, rX5_settle_4, rX5_settle_7, rX5_settle_10, rX5_settle_11, rX5_settle_14, rX5_settle_15, rX5_settle_16, rX5_settle_17, rX5_settle_20, rX5_settle_21, rX5_settle_24, rX5_settle_27, rX5_settle_28, rX5_settle_29, rX5_settle_30, rX5_settle_31, rX5_settle_32, rX5_settle_34, rX5_settle_37, rX5_settle_38, rX5_settle_41, rX5_settle_42, rX5_settle_43, rX5_settle_46, rX5_settle_47, rX5_settle_50, rX5_settle_53, e_ald0, e_ald1, e_callS2, e_callV2, e_get, e_goto, e_iast, e_icmp, e_if, e_ild2, e_ild3, e_inc2, e_inc3, e_ist2, e_ist3, e_nl0, e_nl1, e_nl2, e_push, e_pushn, e_pushs, e_retv, m_b0, m_b01, m_b1, m_em, Classical.not_not, Nat.reduceBEq, Nat.reduceLT, Nat.reduceLeDiff, Nat.reduceAdd, cond_true, cond_false, Bool.or_false, Bool.false_or, Bool.or_true, Bool.true_or, beq_iff_eq, true_and, and_true, true_or, or_true, forall_const, not_true_eq_false, not_false_eq_true, false_implies, implies_true, Nat.reduceEqDiff, List.length_nil, List.length_cons, ob_62, fv_62_0, kd_63, ln_63, obH hb, fvH0 hb, fsH0 hb, fvH1 hb, fsH1 hb, fvH2 hb, fvH3 hb, fvH4 hb, fvH5 hb, fvH6 hb, fvH7 hb, kdH1 hb, lnH1 hb, ltH1 hb, kdH2 hb, lnH2 hb, ltH2 hb, kdH3 hb, lnH3 hb, ltH3 hb, kdH4 hb, lnH4 hb, ltH4 hb, kdH5 hb, lnH5 hb, ltH5 hb, kdH6 hb, lnH6 hb, ltH6 hb, Int.toNat_natCast]
      exact ⟨fun _ => h g1 hO hG, fun z => absurd z (by omega)⟩
    | succ m ih =>
      intro r g1 hr hO hG
      refine m_run_ok hJ (fun pc => pc == 2 || pc == 31) 60 _ _ _ _ ?_
      simp only [e_go, rX5_settle_0, rX5_settle_1, rX5_settle_2, rX5_settle_3, rX5_settle_4, rX5_settle_7, rX5_settle_10, rX5_settle_11, rX5_settle_14, rX5_settle_15, rX5_settle_16, rX5_settle_17, rX5_settle_20, rX5_settle_21, rX5_settle_24, rX5_settle_27, rX5_settle_28, rX5_settle_29, rX5_settle_30, rX5_settle_31, rX5_settle_32, rX5_settle_34, rX5_settle_37, rX5_settle_38, rX5_settle_41, rX5_settle_42, rX5_settle_43, rX5_settle_46, rX5_settle_47, rX5_settle_50, rX5_settle_53, e_ald0, e_ald1, e_callS2, e_callV2, e_get, e_goto, e_iast, e_icmp, e_if, e_ild2, e_ild3, e_inc2, e_inc3, e_ist2, e_ist3, e_nl0, e_nl1, e_nl2, e_push, e_pushn, e_pushs, e_retv, m_b0, m_b01, m_b1, m_em, Classical.not_not, Nat.reduceBEq, Nat.reduceLT, Nat.reduceLeDiff, Nat.reduceAdd, cond_true, cond_false, Bool.or_false, Bool.false_or, Bool.or_true, Bool.true_or, beq_iff_eq, true_and, and_true, true_or, or_true, forall_const, not_true_eq_false, not_false_eq_true, false_implies, implies_true, Nat.reduceEqDiff, List.length_nil, List.length_cons, ob_62, fv_62_0, kd_63, ln_63, obH hb, fvH0 hb, fsH0 hb, fvH1 hb, fsH1 hb, fvH2 hb, fvH3 hb, fvH4 hb, fvH5 hb, fvH6 hb, fvH7 hb, kdH1 hb, lnH1 hb, ltH1 hb, kdH2 hb, lnH2 hb, ltH2 hb, kdH3 hb, lnH3 hb, ltH3 hb, kdH4 hb, lnH4 hb, ltH4 hb, kdH5 hb, lnH5 hb, ltH5 hb, kdH6 hb, lnH6 hb, ltH6 hb, Int.toNat_natCast]
      refine ⟨fun z => absurd z (by omega), fun _ => ⟨fun c => ?_, fun c => ?_⟩⟩
      · have := rs_lp_stay c (m + 1)
        rw [hr] at this
        exact h g1 hO (by rw [this]; exact hG)
      · have h1 : (rs_lp s r).2 = 1 := by rcases rs_lp_1 s r with z | z; exact absurd z c; exact z
        refine p5_goRound hb (hR.same (fun j hj => hO _ (by omega))) hW hG (fun g2 c1 c2 => ?_)
        simp only [e_go, rX5_settle_0, rX5_settle_1, rX5_settle_2, rX5_settle_3, rX5_settle_4, rX5_settle_7, rX5_settle_10, rX5_settle_11, rX5_settle_14, rX5_settle_15, rX5_settle_16, rX5_settle_17, rX5_settle_20, rX5_settle_21, rX5_settle_24, rX5_settle_27, rX5_settle_28, rX5_settle_29, rX5_settle_30, rX5_settle_31, rX5_settle_32, rX5_settle_34, rX5_settle_37, rX5_settle_38, rX5_settle_41, rX5_settle_42, rX5_settle_43, rX5_settle_46, rX5_settle_47, rX5_settle_50, rX5_settle_53, e_ald0, e_ald1, e_callS2, e_callV2, e_get, e_goto, e_iast, e_icmp, e_if, e_ild2, e_ild3, e_inc2, e_inc3, e_ist2, e_ist3, e_nl0, e_nl1, e_nl2, e_push, e_pushn, e_pushs, e_retv, m_b0, m_b01, m_b1, m_em, Classical.not_not, Nat.reduceBEq, Nat.reduceLT, Nat.reduceLeDiff, Nat.reduceAdd, cond_true, cond_false, Bool.or_false, Bool.false_or, Bool.or_true, Bool.true_or, beq_iff_eq, true_and, and_true, true_or, or_true, forall_const, not_true_eq_false, not_false_eq_true, false_implies, implies_true, Nat.reduceEqDiff, List.length_nil, List.length_cons, ob_62, fv_62_0, kd_63, ln_63, obH hb, fvH0 hb, fsH0 hb, fvH1 hb, fsH1 hb, fvH2 hb, fvH3 hb, fvH4 hb, fvH5 hb, fvH6 hb, fvH7 hb, kdH1 hb, lnH1 hb, ltH1 hb, kdH2 hb, lnH2 hb, ltH2 hb, kdH3 hb, lnH3 hb, ltH3 hb, kdH4 hb, lnH4 hb, ltH4 hb, kdH5 hb, lnH5 hb, ltH5 hb, kdH6 hb, lnH6 hb, ltH6 hb, Int.toNat_natCast]
        rw [m_w2 (x := (r : Int) + 1) (by omega) (by omega), show (r : Int) + 1 = ((r + 1 : Nat) : Int) by omega]
        have nx := ih (r + 1) g2 (by omega) (fun j hj => (c1 j hj).trans (hO j hj))
        simp only [rs_lp] at nx
        rw [if_pos h1] at nx
        exact nx c2
  have first : ∀ (m t : Nat) (g1 : m_G), t + m = (s 0).toNat → (∀ j, j ≠ 63 → g1 j = g j) → (∀ i : Nat, i < t → g1 63 i = rs_f s i (s 1).toNat) → J 2 [some (.inr (.inr 62)), some (.inr (.inr b)), some (.inl t), none] [] g1 := by
    intro m
    induction m with
    | zero =>
      intro t g1 ht hO hG
      have e0 : g1 b 0 = s 0 := by rw [hO b (by omega)]; exact hR.1.1
      refine m_run_ok hJ (fun pc => pc == 2 || pc == 31) 60 _ _ _ _ ?_
      simp only [e_go, rX5_settle_0, rX5_settle_1, rX5_settle_2, rX5_settle_3, rX5_settle_4, rX5_settle_7, rX5_settle_10, rX5_settle_11, rX5_settle_14, rX5_settle_15, rX5_settle_16, rX5_settle_17, rX5_settle_20, rX5_settle_21, rX5_settle_24, rX5_settle_27, rX5_settle_28, rX5_settle_29, rX5_settle_30, rX5_settle_31, rX5_settle_32, rX5_settle_34, rX5_settle_37, rX5_settle_38, rX5_settle_41, rX5_settle_42, rX5_settle_43, rX5_settle_46, rX5_settle_47, rX5_settle_50, rX5_settle_53, e_ald0, e_ald1, e_callS2, e_callV2, e_get, e_goto, e_iast, e_icmp, e_if, e_ild2, e_ild3, e_inc2, e_inc3, e_ist2, e_ist3, e_nl0, e_nl1, e_nl2, e_push, e_pushn, e_pushs, e_retv, m_b0, m_b01, m_b1, m_em, Classical.not_not, Nat.reduceBEq, Nat.reduceLT, Nat.reduceLeDiff, Nat.reduceAdd, cond_true, cond_false, Bool.or_false, Bool.false_or, Bool.or_true, Bool.true_or, beq_iff_eq, true_and, and_true, true_or, or_true, forall_const, not_true_eq_false, not_false_eq_true, false_implies, implies_true, Nat.reduceEqDiff, List.length_nil, List.length_cons, ob_62, fv_62_0, kd_63, ln_63, obH hb, fvH0 hb, fsH0 hb, fvH1 hb, fsH1 hb, fvH2 hb, fvH3 hb, fvH4 hb, fvH5 hb, fvH6 hb, fvH7 hb, kdH1 hb, lnH1 hb, ltH1 hb, kdH2 hb, lnH2 hb, ltH2 hb, kdH3 hb, lnH3 hb, ltH3 hb, kdH4 hb, lnH4 hb, ltH4 hb, kdH5 hb, lnH5 hb, ltH5 hb, kdH6 hb, lnH6 hb, ltH6 hb, e0, Int.toNat_natCast]
      exact ⟨fun _ => rounds 20 0 g1 (by omega) hO (fun i hi => hG i (by omega)), fun z => absurd z (by omega)⟩
    | succ m ih =>
      intro t g1 ht hO hG
      have e0 : g1 b 0 = s 0 := by rw [hO b (by omega)]; exact hR.1.1
      refine m_run_ok hJ (fun pc => pc == 2 || pc == 31) 60 _ _ _ _ ?_
      simp only [e_go, rX5_settle_0, rX5_settle_1, rX5_settle_2, rX5_settle_3, rX5_settle_4, rX5_settle_7, rX5_settle_10, rX5_settle_11, rX5_settle_14, rX5_settle_15, rX5_settle_16, rX5_settle_17, rX5_settle_20, rX5_settle_21, rX5_settle_24, rX5_settle_27, rX5_settle_28, rX5_settle_29, rX5_settle_30, rX5_settle_31, rX5_settle_32, rX5_settle_34, rX5_settle_37, rX5_settle_38, rX5_settle_41, rX5_settle_42, rX5_settle_43, rX5_settle_46, rX5_settle_47, rX5_settle_50, rX5_settle_53, e_ald0, e_ald1, e_callS2, e_callV2, e_get, e_goto, e_iast, e_icmp, e_if, e_ild2, e_ild3, e_inc2, e_inc3, e_ist2, e_ist3, e_nl0, e_nl1, e_nl2, e_push, e_pushn, e_pushs, e_retv, m_b0, m_b01, m_b1, m_em, Classical.not_not, Nat.reduceBEq, Nat.reduceLT, Nat.reduceLeDiff, Nat.reduceAdd, cond_true, cond_false, Bool.or_false, Bool.false_or, Bool.or_true, Bool.true_or, beq_iff_eq, true_and, and_true, true_or, or_true, forall_const, not_true_eq_false, not_false_eq_true, false_implies, implies_true, Nat.reduceEqDiff, List.length_nil, List.length_cons, ob_62, fv_62_0, kd_63, ln_63, obH hb, fvH0 hb, fsH0 hb, fvH1 hb, fsH1 hb, fvH2 hb, fvH3 hb, fvH4 hb, fvH5 hb, fvH6 hb, fvH7 hb, kdH1 hb, lnH1 hb, ltH1 hb, kdH2 hb, lnH2 hb, ltH2 hb, kdH3 hb, lnH3 hb, ltH3 hb, kdH4 hb, lnH4 hb, ltH4 hb, kdH5 hb, lnH5 hb, ltH5 hb, kdH6 hb, lnH6 hb, ltH6 hb, e0, Int.toNat_natCast]
      refine ⟨fun z => absurd z (by omega), fun _ => ?_⟩
      refine p5_firstLane hb (hR.same (fun j hj => hO _ (by omega))) hW (by omega) ?_
      simp only [e_go, rX5_settle_0, rX5_settle_1, rX5_settle_2, rX5_settle_3, rX5_settle_4, rX5_settle_7, rX5_settle_10, rX5_settle_11, rX5_settle_14, rX5_settle_15, rX5_settle_16, rX5_settle_17, rX5_settle_20, rX5_settle_21, rX5_settle_24, rX5_settle_27, rX5_settle_28, rX5_settle_29, rX5_settle_30, rX5_settle_31, rX5_settle_32, rX5_settle_34, rX5_settle_37, rX5_settle_38, rX5_settle_41, rX5_settle_42, rX5_settle_43, rX5_settle_46, rX5_settle_47, rX5_settle_50, rX5_settle_53, e_ald0, e_ald1, e_callS2, e_callV2, e_get, e_goto, e_iast, e_icmp, e_if, e_ild2, e_ild3, e_inc2, e_inc3, e_ist2, e_ist3, e_nl0, e_nl1, e_nl2, e_push, e_pushn, e_pushs, e_retv, m_b0, m_b01, m_b1, m_em, Classical.not_not, Nat.reduceBEq, Nat.reduceLT, Nat.reduceLeDiff, Nat.reduceAdd, cond_true, cond_false, Bool.or_false, Bool.false_or, Bool.or_true, Bool.true_or, beq_iff_eq, true_and, and_true, true_or, or_true, forall_const, not_true_eq_false, not_false_eq_true, false_implies, implies_true, Nat.reduceEqDiff, List.length_nil, List.length_cons, ob_62, fv_62_0, kd_63, ln_63, obH hb, fvH0 hb, fsH0 hb, fvH1 hb, fsH1 hb, fvH2 hb, fvH3 hb, fvH4 hb, fvH5 hb, fvH6 hb, fvH7 hb, kdH1 hb, lnH1 hb, ltH1 hb, kdH2 hb, lnH2 hb, ltH2 hb, kdH3 hb, lnH3 hb, ltH3 hb, kdH4 hb, lnH4 hb, ltH4 hb, kdH5 hb, lnH5 hb, ltH5 hb, kdH6 hb, lnH6 hb, ltH6 hb, e0, Int.toNat_natCast]
      rw [m_w2 (x := (t : Int) + 1) (by omega) (by omega), show (t : Int) + 1 = ((t + 1 : Nat) : Int) by omega]
      refine ⟨by omega, ih (t + 1) _ (by omega) (fun j hj => (m_up_ne hj).trans (hO j hj)) (fun i hi => ?_)⟩
      rw [m_up_eq]
      by_cases e : i = t
      · subst e; rw [m_us]
      · rw [m_un e]; exact hG i (by omega)
  refine m_run_ok hJ (fun pc => pc == 2 || pc == 31) 60 _ _ _ _ ?_
  simp only [e_go, rX5_settle_0, rX5_settle_1, rX5_settle_2, rX5_settle_3, rX5_settle_4, rX5_settle_7, rX5_settle_10, rX5_settle_11, rX5_settle_14, rX5_settle_15, rX5_settle_16, rX5_settle_17, rX5_settle_20, rX5_settle_21, rX5_settle_24, rX5_settle_27, rX5_settle_28, rX5_settle_29, rX5_settle_30, rX5_settle_31, rX5_settle_32, rX5_settle_34, rX5_settle_37, rX5_settle_38, rX5_settle_41, rX5_settle_42, rX5_settle_43, rX5_settle_46, rX5_settle_47, rX5_settle_50, rX5_settle_53, e_ald0, e_ald1, e_callS2, e_callV2, e_get, e_goto, e_iast, e_icmp, e_if, e_ild2, e_ild3, e_inc2, e_inc3, e_ist2, e_ist3, e_nl0, e_nl1, e_nl2, e_push, e_pushn, e_pushs, e_retv, m_b0, m_b01, m_b1, m_em, Classical.not_not, Nat.reduceBEq, Nat.reduceLT, Nat.reduceLeDiff, Nat.reduceAdd, cond_true, cond_false, Bool.or_false, Bool.false_or, Bool.or_true, Bool.true_or, beq_iff_eq, true_and, and_true, true_or, or_true, forall_const, not_true_eq_false, not_false_eq_true, false_implies, implies_true, Nat.reduceEqDiff, List.length_nil, List.length_cons, ob_62, fv_62_0, kd_63, ln_63, obH hb, fvH0 hb, fsH0 hb, fvH1 hb, fsH1 hb, fvH2 hb, fvH3 hb, fvH4 hb, fvH5 hb, fvH6 hb, fvH7 hb, kdH1 hb, lnH1 hb, ltH1 hb, kdH2 hb, lnH2 hb, ltH2 hb, kdH3 hb, lnH3 hb, ltH3 hb, kdH4 hb, lnH4 hb, ltH4 hb, kdH5 hb, lnH5 hb, ltH5 hb, kdH6 hb, lnH6 hb, ltH6 hb, Int.toNat_natCast]
  exact first (s 0).toNat 0 g (by omega) (fun _ _ => rfl) (fun i hi => absurd hi (by omega))
theorem q8_rests {g A : m_G} {t : Int} {q : m_Post} (hM : c_M g A) (hW : h_W (A 68)) (h : ∀ g', k_E g g' (x_rests A t).2 → q (some (.inl (x_rests A t).1)) g') : wX8_rests.1 [.inr (.inr 0), .inl t] g q := by
  obtain ⟨b, h1⟩ : ∃ b : Nat, b = 1 := ⟨1, rfl⟩
  have hb : m_hs b := Or.inl h1
  have hR : h_R g b (A 68) := h1 ▸ hM.1.1
  have hZ : h_Z g b := h1 ▸ hM.1.2
  have hz := hW.1
  refine m_wp_of (by simp [m_fit]) (fun J hJ => ?_)
  simp only [m_ini, Nat.reduceSub, List.replicate]
  refine m_run_ok hJ (fun _ => false) 60 _ _ _ _ ?_
  simp only [e_go, rX8_rests_0, rX8_rests_1, rX8_rests_4, rX8_rests_5, rX8_rests_8, rX8_rests_11, rX8_rests_12, rX8_rests_13, rX8_rests_16, rX8_rests_17, rX8_rests_18, rX8_rests_21, rX8_rests_22, rX8_rests_25, rX8_rests_28, rX8_rests_29, rX8_rests_32, rX8_rests_35, rX8_rests_36, rX8_rests_37, e_ald0, e_callV2, e_get, e_iald, e_if, e_ild1, e_push, e_pushn, e_pushs, e_ret, m_b0, m_b01, m_b1, m_em, Classical.not_not, Nat.reduceBEq, Nat.reduceLT, Nat.reduceLeDiff, Nat.reduceAdd, cond_true, cond_false, Bool.or_false, Bool.false_or, Bool.or_true, Bool.true_or, beq_iff_eq, true_and, and_true, true_or, or_true, forall_const, not_true_eq_false, not_false_eq_true, false_implies, implies_true, Nat.reduceEqDiff, List.length_nil, List.length_cons, ob_0, fv00 h1, fv_0_6, obH hb, fvH0 hb, fsH0 hb, fvH1 hb, fsH1 hb, fvH2 hb, fvH3 hb, fvH4 hb, fvH5 hb, fvH6 hb, fvH7 hb, kdH1 hb, lnH1 hb, ltH1 hb, kdH2 hb, lnH2 hb, ltH2 hb, kdH3 hb, lnH3 hb, ltH3 hb, kdH4 hb, lnH4 hb, ltH4 hb, kdH5 hb, lnH5 hb, ltH5 hb, kdH6 hb, lnH6 hb, ltH6 hb, ob_62, fv_62_0, kd_63, ln_63]
  unfold x_rests at h
  refine p_hasSort hb hR ?_
  simp only [e_go, rX8_rests_0, rX8_rests_1, rX8_rests_4, rX8_rests_5, rX8_rests_8, rX8_rests_11, rX8_rests_12, rX8_rests_13, rX8_rests_16, rX8_rests_17, rX8_rests_18, rX8_rests_21, rX8_rests_22, rX8_rests_25, rX8_rests_28, rX8_rests_29, rX8_rests_32, rX8_rests_35, rX8_rests_36, rX8_rests_37, e_ald0, e_callV2, e_get, e_iald, e_if, e_ild1, e_push, e_pushn, e_pushs, e_ret, m_b0, m_b01, m_b1, m_em, Classical.not_not, Nat.reduceBEq, Nat.reduceLT, Nat.reduceLeDiff, Nat.reduceAdd, cond_true, cond_false, Bool.or_false, Bool.false_or, Bool.or_true, Bool.true_or, beq_iff_eq, true_and, and_true, true_or, or_true, forall_const, not_true_eq_false, not_false_eq_true, false_implies, implies_true, Nat.reduceEqDiff, List.length_nil, List.length_cons, ob_0, fv00 h1, fv_0_6, obH hb, fvH0 hb, fsH0 hb, fvH1 hb, fsH1 hb, fvH2 hb, fvH3 hb, fvH4 hb, fvH5 hb, fvH6 hb, fvH7 hb, kdH1 hb, lnH1 hb, ltH1 hb, kdH2 hb, lnH2 hb, ltH2 hb, kdH3 hb, lnH3 hb, ltH3 hb, kdH4 hb, lnH4 hb, ltH4 hb, kdH5 hb, lnH5 hb, ltH5 hb, kdH6 hb, lnH6 hb, ltH6 hb, ob_62, fv_62_0, kd_63, ln_63]
  refine ⟨fun c => ?_, fun c => ?_⟩
  rotate_left
  · rw [if_neg c] at h
    refine q8_no hM (by decide) (fun g' hE => ?_)
    simp only [e_go, rX8_rests_0, rX8_rests_1, rX8_rests_4, rX8_rests_5, rX8_rests_8, rX8_rests_11, rX8_rests_12, rX8_rests_13, rX8_rests_16, rX8_rests_17, rX8_rests_18, rX8_rests_21, rX8_rests_22, rX8_rests_25, rX8_rests_28, rX8_rests_29, rX8_rests_32, rX8_rests_35, rX8_rests_36, rX8_rests_37, e_ald0, e_callV2, e_get, e_iald, e_if, e_ild1, e_push, e_pushn, e_pushs, e_ret, m_b0, m_b01, m_b1, m_em, Classical.not_not, Nat.reduceBEq, Nat.reduceLT, Nat.reduceLeDiff, Nat.reduceAdd, cond_true, cond_false, Bool.or_false, Bool.false_or, Bool.or_true, Bool.true_or, beq_iff_eq, true_and, and_true, true_or, or_true, forall_const, not_true_eq_false, not_false_eq_true, false_implies, implies_true, Nat.reduceEqDiff, List.length_nil, List.length_cons, ob_0, fv00 h1, fv_0_6, obH hb, fvH0 hb, fsH0 hb, fvH1 hb, fsH1 hb, fvH2 hb, fvH3 hb, fvH4 hb, fvH5 hb, fvH6 hb, fvH7 hb, kdH1 hb, lnH1 hb, ltH1 hb, kdH2 hb, lnH2 hb, ltH2 hb, kdH3 hb, lnH3 hb, ltH3 hb, kdH4 hb, lnH4 hb, ltH4 hb, kdH5 hb, lnH5 hb, ltH5 hb, kdH6 hb, lnH6 hb, ltH6 hb, ob_62, fv_62_0, kd_63, ln_63]
    exact h g' hE
  rw [if_pos c] at h
  refine p5_settle hb hR hW (fun g' c1 c2 => ?_)
  simp only [e_go, rX8_rests_0, rX8_rests_1, rX8_rests_4, rX8_rests_5, rX8_rests_8, rX8_rests_11, rX8_rests_12, rX8_rests_13, rX8_rests_16, rX8_rests_17, rX8_rests_18, rX8_rests_21, rX8_rests_22, rX8_rests_25, rX8_rests_28, rX8_rests_29, rX8_rests_32, rX8_rests_35, rX8_rests_36, rX8_rests_37, e_ald0, e_callV2, e_get, e_iald, e_if, e_ild1, e_push, e_pushn, e_pushs, e_ret, m_b0, m_b01, m_b1, m_em, Classical.not_not, Nat.reduceBEq, Nat.reduceLT, Nat.reduceLeDiff, Nat.reduceAdd, cond_true, cond_false, Bool.or_false, Bool.false_or, Bool.or_true, Bool.true_or, beq_iff_eq, true_and, and_true, true_or, or_true, forall_const, not_true_eq_false, not_false_eq_true, false_implies, implies_true, Nat.reduceEqDiff, List.length_nil, List.length_cons, ob_0, fv00 h1, fv_0_6, obH hb, fvH0 hb, fsH0 hb, fvH1 hb, fsH1 hb, fvH2 hb, fvH3 hb, fvH4 hb, fvH5 hb, fvH6 hb, fvH7 hb, kdH1 hb, lnH1 hb, ltH1 hb, kdH2 hb, lnH2 hb, ltH2 hb, kdH3 hb, lnH3 hb, ltH3 hb, kdH4 hb, lnH4 hb, ltH4 hb, kdH5 hb, lnH5 hb, ltH5 hb, kdH6 hb, lnH6 hb, ltH6 hb, ob_62, fv_62_0, kd_63, ln_63]
  have hh := h g' (hM.same (fun j hj => c1 j (by omega)))
  rw [c2 t.toNat (by omega)]
  exact ⟨by omega, hh⟩
theorem q8_feed {g A : m_G} {n : Int} {bt : Int64} {q : m_Post} (hM : c_M g A) (hA : 0 ≤ A 66 8 ∧ A 66 8 ≤ 64) (hn : -2147483648 ≤ n ∧ n ≤ 2147483647) (h : ∀ g', k_E g g' (x_feed A n bt).2 → q (some (.inl (x_feed A n bt).1)) g') : wX8_feed.1 [.inr (.inr 0), .inl n, .inr (.inl bt)] g q := by
  have h36 := hM.2.2.1.1
  refine m_wp_of (by simp [m_fit]) (fun J hJ => ?_)
  simp only [m_ini, Nat.reduceSub, List.replicate]
  refine m_run_ok hJ (fun _ => false) 60 _ _ _ _ ?_
  simp only [e_go, rX8_feed_0, rX8_feed_1, rX8_feed_2, rX8_feed_5, rX8_feed_6, rX8_feed_8, rX8_feed_11, rX8_feed_12, rX8_feed_13, rX8_feed_15, rX8_feed_18, rX8_feed_19, rX8_feed_22, rX8_feed_25, rX8_feed_26, rX8_feed_27, rX8_feed_29, rX8_feed_32, rX8_feed_33, rX8_feed_35, rX8_feed_38, rX8_feed_39, rX8_feed_40, rX8_feed_43, rX8_feed_44, rX8_feed_45, rX8_feed_48, e_ald0, e_bin, e_callV2, e_callV3, e_get, e_icmp, e_ild1, e_lld2, e_push, e_pushn, e_pushs, e_ret, m_b0, m_b01, m_b1, m_em, Classical.not_not, Nat.reduceBEq, Nat.reduceLT, Nat.reduceLeDiff, Nat.reduceAdd, cond_true, cond_false, Bool.or_false, Bool.false_or, Bool.or_true, Bool.true_or, beq_iff_eq, true_and, and_true, true_or, or_true, forall_const, not_true_eq_false, not_false_eq_true, false_implies, implies_true, Nat.reduceEqDiff, List.length_nil, List.length_cons, ob_0, fv_0_2, ob_36, fv_36_0, fs_36_0, fv_36_1, fv_36_2, fv_36_3, fv_36_4, fs_36_4, fv_36_5, fs_36_5]
  unfold x_feed at h
  rw [h36]
  refine ⟨fun c => ⟨fun c2 => ?_, fun c2 => ⟨fun c3 => ?_, fun c3 => ?_⟩⟩, fun c => ?_⟩
  · rw [if_neg (by omega), if_pos (Or.inl c2)] at h
    refine q8_no hM (by decide) (fun g' hE => ?_)
    simp only [e_go, rX8_feed_0, rX8_feed_1, rX8_feed_2, rX8_feed_5, rX8_feed_6, rX8_feed_8, rX8_feed_11, rX8_feed_12, rX8_feed_13, rX8_feed_15, rX8_feed_18, rX8_feed_19, rX8_feed_22, rX8_feed_25, rX8_feed_26, rX8_feed_27, rX8_feed_29, rX8_feed_32, rX8_feed_33, rX8_feed_35, rX8_feed_38, rX8_feed_39, rX8_feed_40, rX8_feed_43, rX8_feed_44, rX8_feed_45, rX8_feed_48, e_ald0, e_bin, e_callV2, e_callV3, e_get, e_icmp, e_ild1, e_lld2, e_push, e_pushn, e_pushs, e_ret, m_b0, m_b01, m_b1, m_em, Classical.not_not, Nat.reduceBEq, Nat.reduceLT, Nat.reduceLeDiff, Nat.reduceAdd, cond_true, cond_false, Bool.or_false, Bool.false_or, Bool.or_true, Bool.true_or, beq_iff_eq, true_and, and_true, true_or, or_true, forall_const, not_true_eq_false, not_false_eq_true, false_implies, implies_true, Nat.reduceEqDiff, List.length_nil, List.length_cons, ob_0, fv_0_2, ob_36, fv_36_0, fs_36_0, fv_36_1, fv_36_2, fv_36_3, fv_36_4, fs_36_4, fv_36_5, fs_36_5]
    exact h g' hE
  · rw [m_w2 (by omega) (by omega)] at c3
    obtain ⟨N, rfl⟩ : ∃ N : Nat, n = (N : Int) := ⟨n.toNat, by omega⟩
    obtain ⟨T, hT⟩ : ∃ T : Nat, A 66 8 = (T : Int) := ⟨(A 66 8).toNat, by omega⟩
    rw [if_neg (by omega), if_neg (by omega)] at h
    rw [hT] at h36
    refine p6_take h36 (by omega) (by omega) (fun g' d1 d2 d3 => ?_)
    simp only [e_go, rX8_feed_0, rX8_feed_1, rX8_feed_2, rX8_feed_5, rX8_feed_6, rX8_feed_8, rX8_feed_11, rX8_feed_12, rX8_feed_13, rX8_feed_15, rX8_feed_18, rX8_feed_19, rX8_feed_22, rX8_feed_25, rX8_feed_26, rX8_feed_27, rX8_feed_29, rX8_feed_32, rX8_feed_33, rX8_feed_35, rX8_feed_38, rX8_feed_39, rX8_feed_40, rX8_feed_43, rX8_feed_44, rX8_feed_45, rX8_feed_48, e_ald0, e_bin, e_callV2, e_callV3, e_get, e_icmp, e_ild1, e_lld2, e_push, e_pushn, e_pushs, e_ret, m_b0, m_b01, m_b1, m_em, Classical.not_not, Nat.reduceBEq, Nat.reduceLT, Nat.reduceLeDiff, Nat.reduceAdd, cond_true, cond_false, Bool.or_false, Bool.false_or, Bool.or_true, Bool.true_or, beq_iff_eq, true_and, and_true, true_or, or_true, forall_const, not_true_eq_false, not_false_eq_true, false_implies, implies_true, Nat.reduceEqDiff, List.length_nil, List.length_cons, ob_0, fv_0_2, ob_36, fv_36_0, fs_36_0, fv_36_1, fv_36_2, fv_36_3, fv_36_4, fs_36_4, fv_36_5, fs_36_5]
    rw [hT, show (T : Int) + N = ((T + N : Nat) : Int) by omega, Int.toNat_natCast, Int.toNat_natCast] at h
    simp only at h
    refine h g' ?_
    obtain ⟨⟨a1, a2⟩, ⟨b1, b2⟩, ⟨c1, c2'⟩, ⟨e1, e2⟩, e⟩ := hM
    have s0 : ∀ j, j ≠ 36 → j ≠ 37 → g' j = g j := d1
    have s1 : h_same g g' 1 := fun j hj => s0 _ (by omega) (by omega)
    have s8 : h_same g g' 8 := fun j hj => s0 _ (by omega) (by omega)
    have o : ∀ j, j ≠ 66 → j ≠ 72 → (m_up (m_ce A 72 (x_fed A T N bt)) 66 8 ((T + N : Nat) : Int)) j = A j := fun j hj h2 => by rw [m_up_ne hj, m_ce_ne h2]
    have o66 : ∀ k, k ≠ 8 → (m_up (m_ce A 72 (x_fed A T N bt)) 66 8 ((T + N : Nat) : Int)) 66 k = A 66 k := fun k hk => by rw [m_up_eq, m_un hk, m_ce_ne (by decide)]
    have o8 : (m_up (m_ce A 72 (x_fed A T N bt)) 66 8 ((T + N : Nat) : Int)) 66 8 = ((T + N : Nat) : Int) := by rw [m_up_eq, m_us]
    have o72 : (m_up (m_ce A 72 (x_fed A T N bt)) 66 8 ((T + N : Nat) : Int)) 72 = x_fed A T N bt := by rw [m_up_ne (by decide), m_ce_eq]
    refine ⟨⟨⟨?_, a2.same s1⟩, ⟨?_, fun z => ?_⟩, ⟨?_, fun k hk => ?_⟩, ⟨?_, fun k hk => ?_⟩, fun k hk => ?_⟩, fun j hj => s0 j (by omega) (by omega)⟩
    · rw [o 68 (by decide) (by decide)]; exact a1.same s1
    · rw [o66 5 (by decide), s0 0 (by decide) (by decide)]; exact b1
    · rw [o66 5 (by decide)] at z; rw [o 69 (by decide) (by decide)]; exact ⟨(b2 z).1.same s8, (b2 z).2.same s8⟩
    · rw [o8]; exact d2
    · rw [o8] at hk; rw [o72, d3 k]
      unfold x_fed
      by_cases y : T ≤ k ∧ k < T + N
      · rw [if_pos y, if_pos y]
      · rw [if_neg y, if_neg y]; exact c2' k (by omega)
    · rw [o66 34 (by decide), s0 0 (by decide) (by decide)]; exact e1
    · rw [o 90 (by decide) (by decide), s0 64 (by decide) (by decide)]; exact e2 k hk
    · rw [o 67 (by decide) (by decide), s0 65 (by decide) (by decide)]; exact e k hk
  · rw [m_w2 (by omega) (by omega)] at c3
    rw [if_neg (by omega), if_pos (by omega)] at h
    refine q8_no hM (by decide) (fun g' hE => ?_)
    simp only [e_go, rX8_feed_0, rX8_feed_1, rX8_feed_2, rX8_feed_5, rX8_feed_6, rX8_feed_8, rX8_feed_11, rX8_feed_12, rX8_feed_13, rX8_feed_15, rX8_feed_18, rX8_feed_19, rX8_feed_22, rX8_feed_25, rX8_feed_26, rX8_feed_27, rX8_feed_29, rX8_feed_32, rX8_feed_33, rX8_feed_35, rX8_feed_38, rX8_feed_39, rX8_feed_40, rX8_feed_43, rX8_feed_44, rX8_feed_45, rX8_feed_48, e_ald0, e_bin, e_callV2, e_callV3, e_get, e_icmp, e_ild1, e_lld2, e_push, e_pushn, e_pushs, e_ret, m_b0, m_b01, m_b1, m_em, Classical.not_not, Nat.reduceBEq, Nat.reduceLT, Nat.reduceLeDiff, Nat.reduceAdd, cond_true, cond_false, Bool.or_false, Bool.false_or, Bool.or_true, Bool.true_or, beq_iff_eq, true_and, and_true, true_or, or_true, forall_const, not_true_eq_false, not_false_eq_true, false_implies, implies_true, Nat.reduceEqDiff, List.length_nil, List.length_cons, ob_0, fv_0_2, ob_36, fv_36_0, fs_36_0, fv_36_1, fv_36_2, fv_36_3, fv_36_4, fs_36_4, fv_36_5, fs_36_5]
    exact h g' hE
  · rw [if_pos (by omega)] at h
    refine q8_no hM (by decide) (fun g' hE => ?_)
    simp only [e_go, rX8_feed_0, rX8_feed_1, rX8_feed_2, rX8_feed_5, rX8_feed_6, rX8_feed_8, rX8_feed_11, rX8_feed_12, rX8_feed_13, rX8_feed_15, rX8_feed_18, rX8_feed_19, rX8_feed_22, rX8_feed_25, rX8_feed_26, rX8_feed_27, rX8_feed_29, rX8_feed_32, rX8_feed_33, rX8_feed_35, rX8_feed_38, rX8_feed_39, rX8_feed_40, rX8_feed_43, rX8_feed_44, rX8_feed_45, rX8_feed_48, e_ald0, e_bin, e_callV2, e_callV3, e_get, e_icmp, e_ild1, e_lld2, e_push, e_pushn, e_pushs, e_ret, m_b0, m_b01, m_b1, m_em, Classical.not_not, Nat.reduceBEq, Nat.reduceLT, Nat.reduceLeDiff, Nat.reduceAdd, cond_true, cond_false, Bool.or_false, Bool.false_or, Bool.or_true, Bool.true_or, beq_iff_eq, true_and, and_true, true_or, or_true, forall_const, not_true_eq_false, not_false_eq_true, false_implies, implies_true, Nat.reduceEqDiff, List.length_nil, List.length_cons, ob_0, fv_0_2, ob_36, fv_36_0, fs_36_0, fv_36_1, fv_36_2, fv_36_3, fv_36_4, fs_36_4, fv_36_5, fs_36_5]
    exact h g' hE
theorem p8_commonDivisor : ∀ (a b : Nat) {g : m_G} {q : m_Post}, a < 1000000000 → b < 256 → q (some (.inl ((Nat.gcd a b : Nat) : Int))) g → wX8_commonDivisor.1 [.inl a, .inl b] g q := by
  intro a b g q ha hb h
  refine m_wp_of (by simp [m_fit]) (fun J hJ => ?_)
  simp only [m_ini, Nat.reduceSub, List.replicate]
  have loop : ∀ (k n x y : Nat) (x5 : Option m_V), n + 2 * k + 1 ≤ 64 → y < 2 ^ k → Nat.gcd x y = Nat.gcd a b → J 7 [some (.inl a), some (.inl b), some (.inl x), some (.inl y), some (.inl n), x5] [] g := by
    intro k
    induction k with
    | zero =>
      intro n x y x5 hn hy hg
      have e : y = 0 := by simpa using hy
      subst e
      refine m_run_ok hJ (fun pc => pc == 7) 60 _ _ _ _ ?_
      simp only [e_go, rX8_commonDivisor_0, rX8_commonDivisor_1, rX8_commonDivisor_2, rX8_commonDivisor_3, rX8_commonDivisor_4, rX8_commonDivisor_5, rX8_commonDivisor_7, rX8_commonDivisor_9, rX8_commonDivisor_11, rX8_commonDivisor_14, rX8_commonDivisor_15, rX8_commonDivisor_18, rX8_commonDivisor_19, rX8_commonDivisor_20, rX8_commonDivisor_21, rX8_commonDivisor_23, rX8_commonDivisor_24, rX8_commonDivisor_25, rX8_commonDivisor_27, rX8_commonDivisor_28, rX8_commonDivisor_31, rX8_commonDivisor_34, rX8_commonDivisor_35, e_goto, e_icmp, e_if, e_ild0, e_ild1, e_ild2, e_ild3, e_ild4, e_ild5, e_inc4, e_ist2, e_ist3, e_ist4, e_ist5, e_nl0, e_nl1, e_nl2, e_push, e_rem, e_ret, m_b0, m_b01, m_b1, m_em, Classical.not_not, Nat.reduceBEq, Nat.reduceLT, Nat.reduceLeDiff, Nat.reduceAdd, cond_true, cond_false, Bool.or_false, Bool.false_or, Bool.or_true, Bool.true_or, beq_iff_eq, true_and, and_true, true_or, or_true, forall_const, not_true_eq_false, not_false_eq_true, false_implies, implies_true, Nat.reduceEqDiff, List.length_nil, List.length_cons]
      rw [Nat.gcd_zero_right] at hg
      rw [← hg] at h
      exact ⟨fun z => h, fun _ => ⟨fun _ => h, fun z => absurd (by rfl) z⟩⟩
    | succ k ih =>
      intro n x y x5 hn hy hg
      have one : ∀ (n x y : Nat) (x5 : Option m_V), n < 64 → Nat.gcd x y = Nat.gcd a b → (0 < y → J 7 [some (.inl a), some (.inl b), some (.inl y), some (.inl (x % y : Nat)), some (.inl (n + 1 : Nat)), some (.inl (x % y : Nat))] [] g) → J 7 [some (.inl a), some (.inl b), some (.inl x), some (.inl y), some (.inl n), x5] [] g := by
        intro n x y x5 hn hg hj
        refine m_run_ok hJ (fun pc => pc == 7) 60 _ _ _ _ ?_
        simp only [e_go, rX8_commonDivisor_0, rX8_commonDivisor_1, rX8_commonDivisor_2, rX8_commonDivisor_3, rX8_commonDivisor_4, rX8_commonDivisor_5, rX8_commonDivisor_7, rX8_commonDivisor_9, rX8_commonDivisor_11, rX8_commonDivisor_14, rX8_commonDivisor_15, rX8_commonDivisor_18, rX8_commonDivisor_19, rX8_commonDivisor_20, rX8_commonDivisor_21, rX8_commonDivisor_23, rX8_commonDivisor_24, rX8_commonDivisor_25, rX8_commonDivisor_27, rX8_commonDivisor_28, rX8_commonDivisor_31, rX8_commonDivisor_34, rX8_commonDivisor_35, e_goto, e_icmp, e_if, e_ild0, e_ild1, e_ild2, e_ild3, e_ild4, e_ild5, e_inc4, e_ist2, e_ist3, e_ist4, e_ist5, e_nl0, e_nl1, e_nl2, e_push, e_rem, e_ret, m_b0, m_b01, m_b1, m_em, Classical.not_not, Nat.reduceBEq, Nat.reduceLT, Nat.reduceLeDiff, Nat.reduceAdd, cond_true, cond_false, Bool.or_false, Bool.false_or, Bool.or_true, Bool.true_or, beq_iff_eq, true_and, and_true, true_or, or_true, forall_const, not_true_eq_false, not_false_eq_true, false_implies, implies_true, Nat.reduceEqDiff, List.length_nil, List.length_cons]
        rw [m_w2 (x := (n : Int) + 1) (by omega) (by omega), m_tmod]
        refine ⟨fun z => absurd z (by omega), fun _ => ⟨fun c => ?_, fun c => ⟨by omega, hj (by omega)⟩⟩⟩
        have e : y = 0 := by omega
        subst e
        rw [Nat.gcd_zero_right] at hg
        rw [← hg] at h
        exact h
      have gs : ∀ x y : Nat, Nat.gcd y (x % y) = Nat.gcd x y := fun x y => by rw [Nat.gcd_comm y, ← Nat.gcd_rec, Nat.gcd_comm]
      refine one n x y x5 (by omega) hg (fun h0 => one (n + 1) y (x % y) _ (by omega) ((gs x y).trans hg) (fun h1 => ?_))
      exact ih (n + 2) (x % y) (y % (x % y)) _ (by omega) (m_half (by omega) h0 hy) ((gs y (x % y)).trans ((gs x y).trans hg))
  refine m_run_ok hJ (fun pc => pc == 7) 60 _ _ _ _ ?_
  simp only [e_go, rX8_commonDivisor_0, rX8_commonDivisor_1, rX8_commonDivisor_2, rX8_commonDivisor_3, rX8_commonDivisor_4, rX8_commonDivisor_5, rX8_commonDivisor_7, rX8_commonDivisor_9, rX8_commonDivisor_11, rX8_commonDivisor_14, rX8_commonDivisor_15, rX8_commonDivisor_18, rX8_commonDivisor_19, rX8_commonDivisor_20, rX8_commonDivisor_21, rX8_commonDivisor_23, rX8_commonDivisor_24, rX8_commonDivisor_25, rX8_commonDivisor_27, rX8_commonDivisor_28, rX8_commonDivisor_31, rX8_commonDivisor_34, rX8_commonDivisor_35, e_goto, e_icmp, e_if, e_ild0, e_ild1, e_ild2, e_ild3, e_ild4, e_ild5, e_inc4, e_ist2, e_ist3, e_ist4, e_ist5, e_nl0, e_nl1, e_nl2, e_push, e_rem, e_ret, m_b0, m_b01, m_b1, m_em, Classical.not_not, Nat.reduceBEq, Nat.reduceLT, Nat.reduceLeDiff, Nat.reduceAdd, cond_true, cond_false, Bool.or_false, Bool.false_or, Bool.or_true, Bool.true_or, beq_iff_eq, true_and, and_true, true_or, or_true, forall_const, not_true_eq_false, not_false_eq_true, false_implies, implies_true, Nat.reduceEqDiff, List.length_nil, List.length_cons]
  exact loop 8 0 a b none (by omega) (by omega) rfl
theorem q8_mean {g A : m_G} {t p : Int} {q : m_Post} (hM : c_M g A) (hW : h_W (A 68)) (h : ∀ g', k_E g g' (x_mean A t p).2 → q (some (.inl (x_mean A t p).1)) g') : wX8_mean.1 [.inr (.inr 0), .inl t, .inl p] g q := by
  obtain ⟨b, h1⟩ : ∃ b : Nat, b = 1 := ⟨1, rfl⟩
  have hb : m_hs b := Or.inl h1
  have hR : h_R g b (A 68) := h1 ▸ hM.1.1
  have hZ : h_Z g b := h1 ▸ hM.1.2
  have hz := hW.1
  refine m_wp_of (by simp [m_fit]) (fun J hJ => ?_)
  simp only [m_ini, Nat.reduceSub, List.replicate]
  refine m_run_ok hJ (fun _ => false) 80 _ _ _ _ ?_
  simp only [e_go, rX8_mean_0, rX8_mean_1, rX8_mean_4, rX8_mean_5, rX8_mean_8, rX8_mean_11, rX8_mean_12, rX8_mean_13, rX8_mean_16, rX8_mean_17, rX8_mean_18, rX8_mean_21, rX8_mean_22, rX8_mean_23, rX8_mean_26, rX8_mean_27, rX8_mean_29, rX8_mean_32, rX8_mean_33, rX8_mean_34, rX8_mean_37, rX8_mean_38, rX8_mean_41, rX8_mean_44, rX8_mean_45, rX8_mean_48, rX8_mean_51, rX8_mean_52, rX8_mean_53, rX8_mean_54, rX8_mean_55, rX8_mean_58, rX8_mean_59, rX8_mean_62, rX8_mean_64, rX8_mean_65, rX8_mean_67, rX8_mean_70, rX8_mean_72, rX8_mean_74, rX8_mean_75, rX8_mean_78, rX8_mean_80, rX8_mean_81, rX8_mean_84, rX8_mean_85, rX8_mean_88, rX8_mean_89, rX8_mean_92, rX8_mean_93, rX8_mean_94, rX8_mean_95, rX8_mean_98, rX8_mean_99, rX8_mean_101, rX8_mean_102, rX8_mean_105, rX8_mean_107, rX8_mean_109, rX8_mean_110, e_ald0, e_callS2, e_callV2, e_div, e_get, e_goto, e_iald, e_icmp, e_if, e_ild1, e_ild2, e_ild3, e_ild4, e_ild5, e_ist3, e_ist4, e_ist5, e_nl0, e_nl1, e_nl2, e_push, e_pushn, e_pushs, e_ret, m_b0, m_b01, m_b1, m_em, Classical.not_not, Nat.reduceBEq, Nat.reduceLT, Nat.reduceLeDiff, Nat.reduceAdd, cond_true, cond_false, Bool.or_false, Bool.false_or, Bool.or_true, Bool.true_or, beq_iff_eq, true_and, and_true, true_or, or_true, forall_const, not_true_eq_false, not_false_eq_true, false_implies, implies_true, Nat.reduceEqDiff, List.length_nil, List.length_cons, ob_0, fv00 h1, fv_0_3, obH hb, fvH0 hb, fsH0 hb, fvH1 hb, fsH1 hb, fvH2 hb, fvH3 hb, fvH4 hb, fvH5 hb, fvH6 hb, fvH7 hb, kdH1 hb, lnH1 hb, ltH1 hb, kdH2 hb, lnH2 hb, ltH2 hb, kdH3 hb, lnH3 hb, ltH3 hb, kdH4 hb, lnH4 hb, ltH4 hb, kdH5 hb, lnH5 hb, ltH5 hb, kdH6 hb, lnH6 hb, ltH6 hb, ob_39, fv_39_0, fv_39_1, fv_39_2, fv_39_3, fv_39_4, fs_39_4, fv_39_5, fs_39_5, fv_39_6, fv_39_7, fs_39_7, fv_39_8, fs_39_8, fv_39_9, fs_39_9, fv_39_10, fs_39_10, kd_40, ln_40]
  unfold x_mean at h
  refine p_hasSort hb hR ?_
  simp only [e_go, rX8_mean_0, rX8_mean_1, rX8_mean_4, rX8_mean_5, rX8_mean_8, rX8_mean_11, rX8_mean_12, rX8_mean_13, rX8_mean_16, rX8_mean_17, rX8_mean_18, rX8_mean_21, rX8_mean_22, rX8_mean_23, rX8_mean_26, rX8_mean_27, rX8_mean_29, rX8_mean_32, rX8_mean_33, rX8_mean_34, rX8_mean_37, rX8_mean_38, rX8_mean_41, rX8_mean_44, rX8_mean_45, rX8_mean_48, rX8_mean_51, rX8_mean_52, rX8_mean_53, rX8_mean_54, rX8_mean_55, rX8_mean_58, rX8_mean_59, rX8_mean_62, rX8_mean_64, rX8_mean_65, rX8_mean_67, rX8_mean_70, rX8_mean_72, rX8_mean_74, rX8_mean_75, rX8_mean_78, rX8_mean_80, rX8_mean_81, rX8_mean_84, rX8_mean_85, rX8_mean_88, rX8_mean_89, rX8_mean_92, rX8_mean_93, rX8_mean_94, rX8_mean_95, rX8_mean_98, rX8_mean_99, rX8_mean_101, rX8_mean_102, rX8_mean_105, rX8_mean_107, rX8_mean_109, rX8_mean_110, e_ald0, e_callS2, e_callV2, e_div, e_get, e_goto, e_iald, e_icmp, e_if, e_ild1, e_ild2, e_ild3, e_ild4, e_ild5, e_ist3, e_ist4, e_ist5, e_nl0, e_nl1, e_nl2, e_push, e_pushn, e_pushs, e_ret, m_b0, m_b01, m_b1, m_em, Classical.not_not, Nat.reduceBEq, Nat.reduceLT, Nat.reduceLeDiff, Nat.reduceAdd, cond_true, cond_false, Bool.or_false, Bool.false_or, Bool.or_true, Bool.true_or, beq_iff_eq, true_and, and_true, true_or, or_true, forall_const, not_true_eq_false, not_false_eq_true, false_implies, implies_true, Nat.reduceEqDiff, List.length_nil, List.length_cons, ob_0, fv00 h1, fv_0_3, obH hb, fvH0 hb, fsH0 hb, fvH1 hb, fsH1 hb, fvH2 hb, fvH3 hb, fvH4 hb, fvH5 hb, fvH6 hb, fvH7 hb, kdH1 hb, lnH1 hb, ltH1 hb, kdH2 hb, lnH2 hb, ltH2 hb, kdH3 hb, lnH3 hb, ltH3 hb, kdH4 hb, lnH4 hb, ltH4 hb, kdH5 hb, lnH5 hb, ltH5 hb, kdH6 hb, lnH6 hb, ltH6 hb, ob_39, fv_39_0, fv_39_1, fv_39_2, fv_39_3, fv_39_4, fs_39_4, fv_39_5, fs_39_5, fv_39_6, fv_39_7, fs_39_7, fv_39_8, fs_39_8, fv_39_9, fs_39_9, fv_39_10, fs_39_10, kd_40, ln_40]
  refine ⟨fun c => ?_, fun c => ?_⟩
  rotate_left
  · rw [if_neg c] at h
    refine q8_no hM (by decide) (fun g' hE => ?_)
    simp only [e_go, rX8_mean_0, rX8_mean_1, rX8_mean_4, rX8_mean_5, rX8_mean_8, rX8_mean_11, rX8_mean_12, rX8_mean_13, rX8_mean_16, rX8_mean_17, rX8_mean_18, rX8_mean_21, rX8_mean_22, rX8_mean_23, rX8_mean_26, rX8_mean_27, rX8_mean_29, rX8_mean_32, rX8_mean_33, rX8_mean_34, rX8_mean_37, rX8_mean_38, rX8_mean_41, rX8_mean_44, rX8_mean_45, rX8_mean_48, rX8_mean_51, rX8_mean_52, rX8_mean_53, rX8_mean_54, rX8_mean_55, rX8_mean_58, rX8_mean_59, rX8_mean_62, rX8_mean_64, rX8_mean_65, rX8_mean_67, rX8_mean_70, rX8_mean_72, rX8_mean_74, rX8_mean_75, rX8_mean_78, rX8_mean_80, rX8_mean_81, rX8_mean_84, rX8_mean_85, rX8_mean_88, rX8_mean_89, rX8_mean_92, rX8_mean_93, rX8_mean_94, rX8_mean_95, rX8_mean_98, rX8_mean_99, rX8_mean_101, rX8_mean_102, rX8_mean_105, rX8_mean_107, rX8_mean_109, rX8_mean_110, e_ald0, e_callS2, e_callV2, e_div, e_get, e_goto, e_iald, e_icmp, e_if, e_ild1, e_ild2, e_ild3, e_ild4, e_ild5, e_ist3, e_ist4, e_ist5, e_nl0, e_nl1, e_nl2, e_push, e_pushn, e_pushs, e_ret, m_b0, m_b01, m_b1, m_em, Classical.not_not, Nat.reduceBEq, Nat.reduceLT, Nat.reduceLeDiff, Nat.reduceAdd, cond_true, cond_false, Bool.or_false, Bool.false_or, Bool.or_true, Bool.true_or, beq_iff_eq, true_and, and_true, true_or, or_true, forall_const, not_true_eq_false, not_false_eq_true, false_implies, implies_true, Nat.reduceEqDiff, List.length_nil, List.length_cons, ob_0, fv00 h1, fv_0_3, obH hb, fvH0 hb, fsH0 hb, fvH1 hb, fsH1 hb, fvH2 hb, fvH3 hb, fvH4 hb, fvH5 hb, fvH6 hb, fvH7 hb, kdH1 hb, lnH1 hb, ltH1 hb, kdH2 hb, lnH2 hb, ltH2 hb, kdH3 hb, lnH3 hb, ltH3 hb, kdH4 hb, lnH4 hb, ltH4 hb, kdH5 hb, lnH5 hb, ltH5 hb, kdH6 hb, lnH6 hb, ltH6 hb, ob_39, fv_39_0, fv_39_1, fv_39_2, fv_39_3, fv_39_4, fs_39_4, fv_39_5, fs_39_5, fv_39_6, fv_39_7, fs_39_7, fv_39_8, fs_39_8, fv_39_9, fs_39_9, fv_39_10, fs_39_10, kd_40, ln_40]
    exact h g' hE
  rw [if_pos c] at h
  obtain ⟨T, rfl⟩ : ∃ T : Nat, t = (T : Int) := ⟨t.toNat, by omega⟩
  have hd := d_day_b hW (nd0_b hW) T
  change ((T : Int) < A 68 0 → 0 ≤ (a_day (A 68)).2 7 T ∧ 0 ≤ (a_day (A 68)).2 6 T ∧ (a_day (A 68)).2 7 T + (a_day (A 68)).2 6 T = d_qs (A 68) T 4) ∧ 0 ≤ (a_day (A 68)).2 4 T ∧ (a_day (A 68)).2 4 T ≤ 700000000 at hd
  have hd1 := hd.1 c.2
  have h4 := d_qs_b hW c.2
  refine ⟨fun c2 => ?_, fun c2 => ⟨fun c3 => ?_, fun c3 => ?_⟩⟩
  · rw [if_neg (by omega)] at h
    refine q8_no hM (by decide) (fun g' hE => ?_)
    simp only [e_go, rX8_mean_0, rX8_mean_1, rX8_mean_4, rX8_mean_5, rX8_mean_8, rX8_mean_11, rX8_mean_12, rX8_mean_13, rX8_mean_16, rX8_mean_17, rX8_mean_18, rX8_mean_21, rX8_mean_22, rX8_mean_23, rX8_mean_26, rX8_mean_27, rX8_mean_29, rX8_mean_32, rX8_mean_33, rX8_mean_34, rX8_mean_37, rX8_mean_38, rX8_mean_41, rX8_mean_44, rX8_mean_45, rX8_mean_48, rX8_mean_51, rX8_mean_52, rX8_mean_53, rX8_mean_54, rX8_mean_55, rX8_mean_58, rX8_mean_59, rX8_mean_62, rX8_mean_64, rX8_mean_65, rX8_mean_67, rX8_mean_70, rX8_mean_72, rX8_mean_74, rX8_mean_75, rX8_mean_78, rX8_mean_80, rX8_mean_81, rX8_mean_84, rX8_mean_85, rX8_mean_88, rX8_mean_89, rX8_mean_92, rX8_mean_93, rX8_mean_94, rX8_mean_95, rX8_mean_98, rX8_mean_99, rX8_mean_101, rX8_mean_102, rX8_mean_105, rX8_mean_107, rX8_mean_109, rX8_mean_110, e_ald0, e_callS2, e_callV2, e_div, e_get, e_goto, e_iald, e_icmp, e_if, e_ild1, e_ild2, e_ild3, e_ild4, e_ild5, e_ist3, e_ist4, e_ist5, e_nl0, e_nl1, e_nl2, e_push, e_pushn, e_pushs, e_ret, m_b0, m_b01, m_b1, m_em, Classical.not_not, Nat.reduceBEq, Nat.reduceLT, Nat.reduceLeDiff, Nat.reduceAdd, cond_true, cond_false, Bool.or_false, Bool.false_or, Bool.or_true, Bool.true_or, beq_iff_eq, true_and, and_true, true_or, or_true, forall_const, not_true_eq_false, not_false_eq_true, false_implies, implies_true, Nat.reduceEqDiff, List.length_nil, List.length_cons, ob_0, fv00 h1, fv_0_3, obH hb, fvH0 hb, fsH0 hb, fvH1 hb, fsH1 hb, fvH2 hb, fvH3 hb, fvH4 hb, fvH5 hb, fvH6 hb, fvH7 hb, kdH1 hb, lnH1 hb, ltH1 hb, kdH2 hb, lnH2 hb, ltH2 hb, kdH3 hb, lnH3 hb, ltH3 hb, kdH4 hb, lnH4 hb, ltH4 hb, kdH5 hb, lnH5 hb, ltH5 hb, kdH6 hb, lnH6 hb, ltH6 hb, ob_39, fv_39_0, fv_39_1, fv_39_2, fv_39_3, fv_39_4, fs_39_4, fv_39_5, fs_39_5, fv_39_6, fv_39_7, fs_39_7, fv_39_8, fs_39_8, fv_39_9, fs_39_9, fv_39_10, fs_39_10, kd_40, ln_40]
    exact h g' hE
  rotate_left
  · rw [if_neg (by omega)] at h
    refine q8_no hM (by decide) (fun g' hE => ?_)
    simp only [e_go, rX8_mean_0, rX8_mean_1, rX8_mean_4, rX8_mean_5, rX8_mean_8, rX8_mean_11, rX8_mean_12, rX8_mean_13, rX8_mean_16, rX8_mean_17, rX8_mean_18, rX8_mean_21, rX8_mean_22, rX8_mean_23, rX8_mean_26, rX8_mean_27, rX8_mean_29, rX8_mean_32, rX8_mean_33, rX8_mean_34, rX8_mean_37, rX8_mean_38, rX8_mean_41, rX8_mean_44, rX8_mean_45, rX8_mean_48, rX8_mean_51, rX8_mean_52, rX8_mean_53, rX8_mean_54, rX8_mean_55, rX8_mean_58, rX8_mean_59, rX8_mean_62, rX8_mean_64, rX8_mean_65, rX8_mean_67, rX8_mean_70, rX8_mean_72, rX8_mean_74, rX8_mean_75, rX8_mean_78, rX8_mean_80, rX8_mean_81, rX8_mean_84, rX8_mean_85, rX8_mean_88, rX8_mean_89, rX8_mean_92, rX8_mean_93, rX8_mean_94, rX8_mean_95, rX8_mean_98, rX8_mean_99, rX8_mean_101, rX8_mean_102, rX8_mean_105, rX8_mean_107, rX8_mean_109, rX8_mean_110, e_ald0, e_callS2, e_callV2, e_div, e_get, e_goto, e_iald, e_icmp, e_if, e_ild1, e_ild2, e_ild3, e_ild4, e_ild5, e_ist3, e_ist4, e_ist5, e_nl0, e_nl1, e_nl2, e_push, e_pushn, e_pushs, e_ret, m_b0, m_b01, m_b1, m_em, Classical.not_not, Nat.reduceBEq, Nat.reduceLT, Nat.reduceLeDiff, Nat.reduceAdd, cond_true, cond_false, Bool.or_false, Bool.false_or, Bool.or_true, Bool.true_or, beq_iff_eq, true_and, and_true, true_or, or_true, forall_const, not_true_eq_false, not_false_eq_true, false_implies, implies_true, Nat.reduceEqDiff, List.length_nil, List.length_cons, ob_0, fv00 h1, fv_0_3, obH hb, fvH0 hb, fsH0 hb, fvH1 hb, fsH1 hb, fvH2 hb, fvH3 hb, fvH4 hb, fvH5 hb, fvH6 hb, fvH7 hb, kdH1 hb, lnH1 hb, ltH1 hb, kdH2 hb, lnH2 hb, ltH2 hb, kdH3 hb, lnH3 hb, ltH3 hb, kdH4 hb, lnH4 hb, ltH4 hb, kdH5 hb, lnH5 hb, ltH5 hb, kdH6 hb, lnH6 hb, ltH6 hb, ob_39, fv_39_0, fv_39_1, fv_39_2, fv_39_3, fv_39_4, fs_39_4, fv_39_5, fs_39_5, fv_39_6, fv_39_7, fs_39_7, fv_39_8, fs_39_8, fv_39_9, fs_39_9, fv_39_10, fs_39_10, kd_40, ln_40]
    exact h g' hE
  rw [if_pos (by omega)] at h
  refine p1_run hb hR (h_N.zero hZ hW.1.1.2) hW (nd0_b hW) (fun g' hO hF => ?_)
  have hO' : v_O g' b (a_day (A 68)) := hO
  have hR' := hR.same (hF.h hb)
  have hh := h g' (hM.same hF.c)
  unfold a_mn a_gcd at hh
  rw [Int.toNat_natCast] at hh
  simp only [e_go, rX8_mean_0, rX8_mean_1, rX8_mean_4, rX8_mean_5, rX8_mean_8, rX8_mean_11, rX8_mean_12, rX8_mean_13, rX8_mean_16, rX8_mean_17, rX8_mean_18, rX8_mean_21, rX8_mean_22, rX8_mean_23, rX8_mean_26, rX8_mean_27, rX8_mean_29, rX8_mean_32, rX8_mean_33, rX8_mean_34, rX8_mean_37, rX8_mean_38, rX8_mean_41, rX8_mean_44, rX8_mean_45, rX8_mean_48, rX8_mean_51, rX8_mean_52, rX8_mean_53, rX8_mean_54, rX8_mean_55, rX8_mean_58, rX8_mean_59, rX8_mean_62, rX8_mean_64, rX8_mean_65, rX8_mean_67, rX8_mean_70, rX8_mean_72, rX8_mean_74, rX8_mean_75, rX8_mean_78, rX8_mean_80, rX8_mean_81, rX8_mean_84, rX8_mean_85, rX8_mean_88, rX8_mean_89, rX8_mean_92, rX8_mean_93, rX8_mean_94, rX8_mean_95, rX8_mean_98, rX8_mean_99, rX8_mean_101, rX8_mean_102, rX8_mean_105, rX8_mean_107, rX8_mean_109, rX8_mean_110, e_ald0, e_callS2, e_callV2, e_div, e_get, e_goto, e_iald, e_icmp, e_if, e_ild1, e_ild2, e_ild3, e_ild4, e_ild5, e_ist3, e_ist4, e_ist5, e_nl0, e_nl1, e_nl2, e_push, e_pushn, e_pushs, e_ret, m_b0, m_b01, m_b1, m_em, Classical.not_not, Nat.reduceBEq, Nat.reduceLT, Nat.reduceLeDiff, Nat.reduceAdd, cond_true, cond_false, Bool.or_false, Bool.false_or, Bool.or_true, Bool.true_or, beq_iff_eq, true_and, and_true, true_or, or_true, forall_const, not_true_eq_false, not_false_eq_true, false_implies, implies_true, Nat.reduceEqDiff, List.length_nil, List.length_cons, ob_0, fv00 h1, fv_0_3, obH hb, fvH0 hb, fsH0 hb, fvH1 hb, fsH1 hb, fvH2 hb, fvH3 hb, fvH4 hb, fvH5 hb, fvH6 hb, fvH7 hb, kdH1 hb, lnH1 hb, ltH1 hb, kdH2 hb, lnH2 hb, ltH2 hb, kdH3 hb, lnH3 hb, ltH3 hb, kdH4 hb, lnH4 hb, ltH4 hb, kdH5 hb, lnH5 hb, ltH5 hb, kdH6 hb, lnH6 hb, ltH6 hb, ob_39, fv_39_0, fv_39_1, fv_39_2, fv_39_3, fv_39_4, fs_39_4, fv_39_5, fs_39_5, fv_39_6, fv_39_7, fs_39_7, fv_39_8, fs_39_8, fv_39_9, fs_39_9, fv_39_10, fs_39_10, kd_40, ln_40]
  refine ⟨by omega, ?_⟩
  refine p1_keptOf hb hR' hW hO' c.2 (by omega) ?_
  rw [show ((d_qs (A 68) T 4 : Nat) : Int) - (a_day (A 68)).2 6 T = (a_day (A 68)).2 7 T by omega]
  rw [Int.toNat_natCast, (hO'.1 T (by omega)).1]
  obtain ⟨X, hX⟩ : ∃ X : Nat, (a_day (A 68)).2 4 T = (X : Int) := ⟨((a_day (A 68)).2 4 T).toNat, by omega⟩
  obtain ⟨Y, hY⟩ : ∃ Y : Nat, (a_day (A 68)).2 7 T = (Y : Int) := ⟨((a_day (A 68)).2 7 T).toNat, by omega⟩
  rw [hX, hY] at hh hd ⊢
  rw [hY] at hd1
  rw [Int.toNat_natCast, Int.toNat_natCast, Nat.gcd_comm] at hh
  simp only [e_go, rX8_mean_0, rX8_mean_1, rX8_mean_4, rX8_mean_5, rX8_mean_8, rX8_mean_11, rX8_mean_12, rX8_mean_13, rX8_mean_16, rX8_mean_17, rX8_mean_18, rX8_mean_21, rX8_mean_22, rX8_mean_23, rX8_mean_26, rX8_mean_27, rX8_mean_29, rX8_mean_32, rX8_mean_33, rX8_mean_34, rX8_mean_37, rX8_mean_38, rX8_mean_41, rX8_mean_44, rX8_mean_45, rX8_mean_48, rX8_mean_51, rX8_mean_52, rX8_mean_53, rX8_mean_54, rX8_mean_55, rX8_mean_58, rX8_mean_59, rX8_mean_62, rX8_mean_64, rX8_mean_65, rX8_mean_67, rX8_mean_70, rX8_mean_72, rX8_mean_74, rX8_mean_75, rX8_mean_78, rX8_mean_80, rX8_mean_81, rX8_mean_84, rX8_mean_85, rX8_mean_88, rX8_mean_89, rX8_mean_92, rX8_mean_93, rX8_mean_94, rX8_mean_95, rX8_mean_98, rX8_mean_99, rX8_mean_101, rX8_mean_102, rX8_mean_105, rX8_mean_107, rX8_mean_109, rX8_mean_110, e_ald0, e_callS2, e_callV2, e_div, e_get, e_goto, e_iald, e_icmp, e_if, e_ild1, e_ild2, e_ild3, e_ild4, e_ild5, e_ist3, e_ist4, e_ist5, e_nl0, e_nl1, e_nl2, e_push, e_pushn, e_pushs, e_ret, m_b0, m_b01, m_b1, m_em, Classical.not_not, Nat.reduceBEq, Nat.reduceLT, Nat.reduceLeDiff, Nat.reduceAdd, cond_true, cond_false, Bool.or_false, Bool.false_or, Bool.or_true, Bool.true_or, beq_iff_eq, true_and, and_true, true_or, or_true, forall_const, not_true_eq_false, not_false_eq_true, false_implies, implies_true, Nat.reduceEqDiff, List.length_nil, List.length_cons, ob_0, fv00 h1, fv_0_3, obH hb, fvH0 hb, fsH0 hb, fvH1 hb, fsH1 hb, fvH2 hb, fvH3 hb, fvH4 hb, fvH5 hb, fvH6 hb, fvH7 hb, kdH1 hb, lnH1 hb, ltH1 hb, kdH2 hb, lnH2 hb, ltH2 hb, kdH3 hb, lnH3 hb, ltH3 hb, kdH4 hb, lnH4 hb, ltH4 hb, kdH5 hb, lnH5 hb, ltH5 hb, kdH6 hb, lnH6 hb, ltH6 hb, ob_39, fv_39_0, fv_39_1, fv_39_2, fv_39_3, fv_39_4, fs_39_4, fv_39_5, fs_39_5, fv_39_6, fv_39_7, fs_39_7, fv_39_8, fs_39_8, fv_39_9, fs_39_9, fv_39_10, fs_39_10, kd_40, ln_40]
  refine p8_commonDivisor X Y (by omega) (by omega) ?_
  simp only [e_go, rX8_mean_0, rX8_mean_1, rX8_mean_4, rX8_mean_5, rX8_mean_8, rX8_mean_11, rX8_mean_12, rX8_mean_13, rX8_mean_16, rX8_mean_17, rX8_mean_18, rX8_mean_21, rX8_mean_22, rX8_mean_23, rX8_mean_26, rX8_mean_27, rX8_mean_29, rX8_mean_32, rX8_mean_33, rX8_mean_34, rX8_mean_37, rX8_mean_38, rX8_mean_41, rX8_mean_44, rX8_mean_45, rX8_mean_48, rX8_mean_51, rX8_mean_52, rX8_mean_53, rX8_mean_54, rX8_mean_55, rX8_mean_58, rX8_mean_59, rX8_mean_62, rX8_mean_64, rX8_mean_65, rX8_mean_67, rX8_mean_70, rX8_mean_72, rX8_mean_74, rX8_mean_75, rX8_mean_78, rX8_mean_80, rX8_mean_81, rX8_mean_84, rX8_mean_85, rX8_mean_88, rX8_mean_89, rX8_mean_92, rX8_mean_93, rX8_mean_94, rX8_mean_95, rX8_mean_98, rX8_mean_99, rX8_mean_101, rX8_mean_102, rX8_mean_105, rX8_mean_107, rX8_mean_109, rX8_mean_110, e_ald0, e_callS2, e_callV2, e_div, e_get, e_goto, e_iald, e_icmp, e_if, e_ild1, e_ild2, e_ild3, e_ild4, e_ild5, e_ist3, e_ist4, e_ist5, e_nl0, e_nl1, e_nl2, e_push, e_pushn, e_pushs, e_ret, m_b0, m_b01, m_b1, m_em, Classical.not_not, Nat.reduceBEq, Nat.reduceLT, Nat.reduceLeDiff, Nat.reduceAdd, cond_true, cond_false, Bool.or_false, Bool.false_or, Bool.or_true, Bool.true_or, beq_iff_eq, true_and, and_true, true_or, or_true, forall_const, not_true_eq_false, not_false_eq_true, false_implies, implies_true, Nat.reduceEqDiff, List.length_nil, List.length_cons, ob_0, fv00 h1, fv_0_3, obH hb, fvH0 hb, fsH0 hb, fvH1 hb, fsH1 hb, fvH2 hb, fvH3 hb, fvH4 hb, fvH5 hb, fvH6 hb, fvH7 hb, kdH1 hb, lnH1 hb, ltH1 hb, kdH2 hb, lnH2 hb, ltH2 hb, kdH3 hb, lnH3 hb, ltH3 hb, kdH4 hb, lnH4 hb, ltH4 hb, kdH5 hb, lnH5 hb, ltH5 hb, kdH6 hb, lnH6 hb, ltH6 hb, ob_39, fv_39_0, fv_39_1, fv_39_2, fv_39_3, fv_39_4, fs_39_4, fv_39_5, fs_39_5, fv_39_6, fv_39_7, fs_39_7, fv_39_8, fs_39_8, fv_39_9, fs_39_9, fv_39_10, fs_39_10, kd_40, ln_40]
  simp only at hh
  have hgp : 0 < Y → 0 < X.gcd Y := fun y => Nat.gcd_pos_of_pos_right X y
  refine ⟨fun c4 => ⟨fun c5 => ?_, fun c5 => ?_⟩, fun c4 => ⟨fun c5 => ⟨fun c6 => ⟨by omega, ?_⟩, fun c6 => ⟨by omega, ?_⟩⟩, fun c5 => absurd (by have := hgp (by omega); omega) c5⟩⟩
  · rw [if_pos (by omega), show p = 1 by omega] at hh; exact hh
  · rw [if_pos (by omega), c5] at hh; exact hh
  · rw [if_neg (by omega), if_neg c6] at hh
    have hb2 := m_div_b (a := (Y : Int)) (b := ((X.gcd Y : Nat) : Int)) (by omega) (by omega)
    rw [m_tdiv, m_w2 hb2.1 (by omega)]; exact hh
  · rw [if_neg (by omega), if_pos c6] at hh
    have hb2 := m_div_b (a := (X : Int)) (b := ((X.gcd Y : Nat) : Int)) (by omega) (by omega)
    rw [m_tdiv, m_w2 hb2.1 (by omega)]; exact hh
theorem q8_count {g A : m_G} {w : Int} {q : m_Post} (hM : c_M g A) (hW : h_W (A 68)) (h : ∀ g', k_E g g' (x_count A w).2 → q (some (.inl (x_count A w).1)) g') : wX8_count.1 [.inr (.inr 0), .inl w] g q := by
  obtain ⟨b, h1⟩ : ∃ b : Nat, b = 1 := ⟨1, rfl⟩
  have hb : m_hs b := Or.inl h1
  have hR : h_R g b (A 68) := h1 ▸ hM.1.1
  have hZ : h_Z g b := h1 ▸ hM.1.2
  have hz := hW.1
  refine m_wp_of (by simp [m_fit]) (fun J hJ => ?_)
  simp only [m_ini, Nat.reduceSub, List.replicate]
  refine m_run_ok hJ (fun _ => false) 80 _ _ _ _ ?_
  simp only [e_go, rX8_count_0, rX8_count_1, rX8_count_44, rX8_count_45, rX8_count_48, rX8_count_51, rX8_count_52, rX8_count_53, rX8_count_56, rX8_count_59, rX8_count_60, rX8_count_61, rX8_count_64, rX8_count_67, rX8_count_68, rX8_count_69, rX8_count_72, rX8_count_73, rX8_count_76, rX8_count_79, rX8_count_80, rX8_count_83, rX8_count_86, rX8_count_87, rX8_count_88, rX8_count_91, rX8_count_94, rX8_count_95, rX8_count_96, rX8_count_99, rX8_count_100, rX8_count_101, rX8_count_104, rX8_count_107, rX8_count_108, rX8_count_109, rX8_count_111, rX8_count_114, rX8_count_115, rX8_count_117, rX8_count_120, rX8_count_121, rX8_count_124, rX8_count_125, rX8_count_127, rX8_count_128, rX8_count_129, rX8_count_132, rX8_count_134, e_ald0, e_bin, e_callV1, e_callV2, e_get, e_goto, e_iald, e_icmp, e_ild1, e_push, e_pushn, e_pushs, e_ret, e_sw, e_swc, e_swn, m_b0, m_b01, m_b1, m_em, Classical.not_not, Nat.reduceBEq, Nat.reduceLT, Nat.reduceLeDiff, Nat.reduceAdd, cond_true, cond_false, Bool.or_false, Bool.false_or, Bool.or_true, Bool.true_or, beq_iff_eq, true_and, and_true, true_or, or_true, forall_const, not_true_eq_false, not_false_eq_true, false_implies, implies_true, Nat.reduceEqDiff, List.length_nil, List.length_cons, ob_0, fv00 h1, fv_0_2, fv_0_3, fv_0_8, fv_0_9, obH hb, fvH0 hb, fsH0 hb, fvH1 hb, fsH1 hb, fvH2 hb, fvH3 hb, fvH4 hb, fvH5 hb, fvH6 hb, fvH7 hb, kdH1 hb, lnH1 hb, ltH1 hb, kdH2 hb, lnH2 hb, ltH2 hb, kdH3 hb, lnH3 hb, ltH3 hb, kdH4 hb, lnH4 hb, ltH4 hb, kdH5 hb, lnH5 hb, ltH5 hb, kdH6 hb, lnH6 hb, ltH6 hb, ob_36, fv_36_0, fs_36_0, fv_36_1, fv_36_2, fv_36_3, fv_36_4, fs_36_4, fv_36_5, fs_36_5, ob_39, fv_39_0, fv_39_1, fv_39_2, fv_39_3, fv_39_4, fs_39_4, fv_39_5, fs_39_5, fv_39_6, fv_39_7, fs_39_7, fv_39_8, fs_39_8, fv_39_9, fs_39_9, fv_39_10, fs_39_10, kd_65, ln_65]
  unfold x_count a_count at h
  simp only at h
  have h0 := h g (hM.same (fun _ _ => rfl))
  rw [hR.1.1, hR.1.2, hM.2.2.2.1.1, hM.2.2.1.1]
  refine ⟨fun c => ?_, fun c0 => ⟨fun c => ?_, fun c1 => ⟨fun c => ?_, fun c2 => ⟨fun c => ?_, fun c3 => ⟨fun c => ?_, fun c4 => ⟨fun c => ?_, fun c5 => ⟨fun c => ?_, fun c6 => ?_⟩⟩⟩⟩⟩⟩⟩
  · subst c; simpa using h0
  · subst c; simpa using h0
  · refine p_allComers hb hR hW ?_
    simp only [e_go, rX8_count_0, rX8_count_1, rX8_count_44, rX8_count_45, rX8_count_48, rX8_count_51, rX8_count_52, rX8_count_53, rX8_count_56, rX8_count_59, rX8_count_60, rX8_count_61, rX8_count_64, rX8_count_67, rX8_count_68, rX8_count_69, rX8_count_72, rX8_count_73, rX8_count_76, rX8_count_79, rX8_count_80, rX8_count_83, rX8_count_86, rX8_count_87, rX8_count_88, rX8_count_91, rX8_count_94, rX8_count_95, rX8_count_96, rX8_count_99, rX8_count_100, rX8_count_101, rX8_count_104, rX8_count_107, rX8_count_108, rX8_count_109, rX8_count_111, rX8_count_114, rX8_count_115, rX8_count_117, rX8_count_120, rX8_count_121, rX8_count_124, rX8_count_125, rX8_count_127, rX8_count_128, rX8_count_129, rX8_count_132, rX8_count_134, e_ald0, e_bin, e_callV1, e_callV2, e_get, e_goto, e_iald, e_icmp, e_ild1, e_push, e_pushn, e_pushs, e_ret, e_sw, e_swc, e_swn, m_b0, m_b01, m_b1, m_em, Classical.not_not, Nat.reduceBEq, Nat.reduceLT, Nat.reduceLeDiff, Nat.reduceAdd, cond_true, cond_false, Bool.or_false, Bool.false_or, Bool.or_true, Bool.true_or, beq_iff_eq, true_and, and_true, true_or, or_true, forall_const, not_true_eq_false, not_false_eq_true, false_implies, implies_true, Nat.reduceEqDiff, List.length_nil, List.length_cons, ob_0, fv00 h1, fv_0_2, fv_0_3, fv_0_8, fv_0_9, obH hb, fvH0 hb, fsH0 hb, fvH1 hb, fsH1 hb, fvH2 hb, fvH3 hb, fvH4 hb, fvH5 hb, fvH6 hb, fvH7 hb, kdH1 hb, lnH1 hb, ltH1 hb, kdH2 hb, lnH2 hb, ltH2 hb, kdH3 hb, lnH3 hb, ltH3 hb, kdH4 hb, lnH4 hb, ltH4 hb, kdH5 hb, lnH5 hb, ltH5 hb, kdH6 hb, lnH6 hb, ltH6 hb, ob_36, fv_36_0, fs_36_0, fv_36_1, fv_36_2, fv_36_3, fv_36_4, fs_36_4, fv_36_5, fs_36_5, ob_39, fv_39_0, fv_39_1, fv_39_2, fv_39_3, fv_39_4, fs_39_4, fv_39_5, fs_39_5, fv_39_6, fv_39_7, fs_39_7, fv_39_8, fs_39_8, fv_39_9, fs_39_9, fv_39_10, fs_39_10, kd_65, ln_65]
    subst c; simpa using h0
  · refine p1_run hb hR (h_N.zero hZ hW.1.1.2) hW (nd0_b hW) (fun g' hO hF => ?_)
    have hO' : v_O g' b (a_day (A 68)) := hO
    have hh := h g' (hM.same hF.c)
    simp only [e_go, rX8_count_0, rX8_count_1, rX8_count_44, rX8_count_45, rX8_count_48, rX8_count_51, rX8_count_52, rX8_count_53, rX8_count_56, rX8_count_59, rX8_count_60, rX8_count_61, rX8_count_64, rX8_count_67, rX8_count_68, rX8_count_69, rX8_count_72, rX8_count_73, rX8_count_76, rX8_count_79, rX8_count_80, rX8_count_83, rX8_count_86, rX8_count_87, rX8_count_88, rX8_count_91, rX8_count_94, rX8_count_95, rX8_count_96, rX8_count_99, rX8_count_100, rX8_count_101, rX8_count_104, rX8_count_107, rX8_count_108, rX8_count_109, rX8_count_111, rX8_count_114, rX8_count_115, rX8_count_117, rX8_count_120, rX8_count_121, rX8_count_124, rX8_count_125, rX8_count_127, rX8_count_128, rX8_count_129, rX8_count_132, rX8_count_134, e_ald0, e_bin, e_callV1, e_callV2, e_get, e_goto, e_iald, e_icmp, e_ild1, e_push, e_pushn, e_pushs, e_ret, e_sw, e_swc, e_swn, m_b0, m_b01, m_b1, m_em, Classical.not_not, Nat.reduceBEq, Nat.reduceLT, Nat.reduceLeDiff, Nat.reduceAdd, cond_true, cond_false, Bool.or_false, Bool.false_or, Bool.or_true, Bool.true_or, beq_iff_eq, true_and, and_true, true_or, or_true, forall_const, not_true_eq_false, not_false_eq_true, false_implies, implies_true, Nat.reduceEqDiff, List.length_nil, List.length_cons, ob_0, fv00 h1, fv_0_2, fv_0_3, fv_0_8, fv_0_9, obH hb, fvH0 hb, fsH0 hb, fvH1 hb, fsH1 hb, fvH2 hb, fvH3 hb, fvH4 hb, fvH5 hb, fvH6 hb, fvH7 hb, kdH1 hb, lnH1 hb, ltH1 hb, kdH2 hb, lnH2 hb, ltH2 hb, kdH3 hb, lnH3 hb, ltH3 hb, kdH4 hb, lnH4 hb, ltH4 hb, kdH5 hb, lnH5 hb, ltH5 hb, kdH6 hb, lnH6 hb, ltH6 hb, ob_36, fv_36_0, fs_36_0, fv_36_1, fv_36_2, fv_36_3, fv_36_4, fs_36_4, fv_36_5, fs_36_5, ob_39, fv_39_0, fv_39_1, fv_39_2, fv_39_3, fv_39_4, fs_39_4, fv_39_5, fs_39_5, fv_39_6, fv_39_7, fs_39_7, fv_39_8, fs_39_8, fv_39_9, fs_39_9, fv_39_10, fs_39_10, kd_65, ln_65]
    refine p1_allLeft hb (hR.same (hF.h hb)) hW hO' ?_
    simp only [e_go, rX8_count_0, rX8_count_1, rX8_count_44, rX8_count_45, rX8_count_48, rX8_count_51, rX8_count_52, rX8_count_53, rX8_count_56, rX8_count_59, rX8_count_60, rX8_count_61, rX8_count_64, rX8_count_67, rX8_count_68, rX8_count_69, rX8_count_72, rX8_count_73, rX8_count_76, rX8_count_79, rX8_count_80, rX8_count_83, rX8_count_86, rX8_count_87, rX8_count_88, rX8_count_91, rX8_count_94, rX8_count_95, rX8_count_96, rX8_count_99, rX8_count_100, rX8_count_101, rX8_count_104, rX8_count_107, rX8_count_108, rX8_count_109, rX8_count_111, rX8_count_114, rX8_count_115, rX8_count_117, rX8_count_120, rX8_count_121, rX8_count_124, rX8_count_125, rX8_count_127, rX8_count_128, rX8_count_129, rX8_count_132, rX8_count_134, e_ald0, e_bin, e_callV1, e_callV2, e_get, e_goto, e_iald, e_icmp, e_ild1, e_push, e_pushn, e_pushs, e_ret, e_sw, e_swc, e_swn, m_b0, m_b01, m_b1, m_em, Classical.not_not, Nat.reduceBEq, Nat.reduceLT, Nat.reduceLeDiff, Nat.reduceAdd, cond_true, cond_false, Bool.or_false, Bool.false_or, Bool.or_true, Bool.true_or, beq_iff_eq, true_and, and_true, true_or, or_true, forall_const, not_true_eq_false, not_false_eq_true, false_implies, implies_true, Nat.reduceEqDiff, List.length_nil, List.length_cons, ob_0, fv00 h1, fv_0_2, fv_0_3, fv_0_8, fv_0_9, obH hb, fvH0 hb, fsH0 hb, fvH1 hb, fsH1 hb, fvH2 hb, fvH3 hb, fvH4 hb, fvH5 hb, fvH6 hb, fvH7 hb, kdH1 hb, lnH1 hb, ltH1 hb, kdH2 hb, lnH2 hb, ltH2 hb, kdH3 hb, lnH3 hb, ltH3 hb, kdH4 hb, lnH4 hb, ltH4 hb, kdH5 hb, lnH5 hb, ltH5 hb, kdH6 hb, lnH6 hb, ltH6 hb, ob_36, fv_36_0, fs_36_0, fv_36_1, fv_36_2, fv_36_3, fv_36_4, fs_36_4, fv_36_5, fs_36_5, ob_39, fv_39_0, fv_39_1, fv_39_2, fv_39_3, fv_39_4, fs_39_4, fv_39_5, fs_39_5, fv_39_6, fv_39_7, fs_39_7, fv_39_8, fs_39_8, fv_39_9, fs_39_9, fv_39_10, fs_39_10, kd_65, ln_65]
    subst c; simpa using hh
  · refine p_changes hb hR ?_
    simp only [e_go, rX8_count_0, rX8_count_1, rX8_count_44, rX8_count_45, rX8_count_48, rX8_count_51, rX8_count_52, rX8_count_53, rX8_count_56, rX8_count_59, rX8_count_60, rX8_count_61, rX8_count_64, rX8_count_67, rX8_count_68, rX8_count_69, rX8_count_72, rX8_count_73, rX8_count_76, rX8_count_79, rX8_count_80, rX8_count_83, rX8_count_86, rX8_count_87, rX8_count_88, rX8_count_91, rX8_count_94, rX8_count_95, rX8_count_96, rX8_count_99, rX8_count_100, rX8_count_101, rX8_count_104, rX8_count_107, rX8_count_108, rX8_count_109, rX8_count_111, rX8_count_114, rX8_count_115, rX8_count_117, rX8_count_120, rX8_count_121, rX8_count_124, rX8_count_125, rX8_count_127, rX8_count_128, rX8_count_129, rX8_count_132, rX8_count_134, e_ald0, e_bin, e_callV1, e_callV2, e_get, e_goto, e_iald, e_icmp, e_ild1, e_push, e_pushn, e_pushs, e_ret, e_sw, e_swc, e_swn, m_b0, m_b01, m_b1, m_em, Classical.not_not, Nat.reduceBEq, Nat.reduceLT, Nat.reduceLeDiff, Nat.reduceAdd, cond_true, cond_false, Bool.or_false, Bool.false_or, Bool.or_true, Bool.true_or, beq_iff_eq, true_and, and_true, true_or, or_true, forall_const, not_true_eq_false, not_false_eq_true, false_implies, implies_true, Nat.reduceEqDiff, List.length_nil, List.length_cons, ob_0, fv00 h1, fv_0_2, fv_0_3, fv_0_8, fv_0_9, obH hb, fvH0 hb, fsH0 hb, fvH1 hb, fsH1 hb, fvH2 hb, fvH3 hb, fvH4 hb, fvH5 hb, fvH6 hb, fvH7 hb, kdH1 hb, lnH1 hb, ltH1 hb, kdH2 hb, lnH2 hb, ltH2 hb, kdH3 hb, lnH3 hb, ltH3 hb, kdH4 hb, lnH4 hb, ltH4 hb, kdH5 hb, lnH5 hb, ltH5 hb, kdH6 hb, lnH6 hb, ltH6 hb, ob_36, fv_36_0, fs_36_0, fv_36_1, fv_36_2, fv_36_3, fv_36_4, fs_36_4, fv_36_5, fs_36_5, ob_39, fv_39_0, fv_39_1, fv_39_2, fv_39_3, fv_39_4, fs_39_4, fv_39_5, fs_39_5, fv_39_6, fv_39_7, fs_39_7, fv_39_8, fs_39_8, fv_39_9, fs_39_9, fv_39_10, fs_39_10, kd_65, ln_65]
    subst c; simpa using h0
  · subst c; simpa using h0
  · subst c; simpa using h0
  · rw [if_neg c0, if_neg c1, if_neg c2, if_neg c3, if_neg c4, if_neg c5, if_neg c6] at h0
    refine ⟨fun c7 => ?_, fun c7 => ⟨fun c8 => ?_, fun c8 => ?_⟩⟩
    · rw [if_neg (by omega)] at h0; exact h0
    · rw [if_neg (by omega)] at h0; exact h0
    · rw [if_pos (by omega)] at h0
      rw [m_w2 (by omega) (by omega), hM.2.2.2.2 (w - 10).toNat (by omega)]
      exact ⟨by omega, h0⟩
theorem q8_judge {g A : m_G} {q : m_Post} (hM : c_M g A) (hW : h_W (A 68)) (hA : 0 ≤ A 66 34 ∧ A 66 34 ≤ 5) (h : ∀ g', k_E g g' (x_judge A).2 → q (some (.inl (x_judge A).1)) g') : wX8_judge.1 [.inr (.inr 0)] g q := by
  obtain ⟨b, h1⟩ : ∃ b : Nat, b = 1 := ⟨1, rfl⟩
  have hb : m_hs b := Or.inl h1
  have hR : h_R g b (A 68) := h1 ▸ hM.1.1
  have hZ : h_Z g b := h1 ▸ hM.1.2
  have hz := hW.1
  refine m_wp_of (by simp [m_fit]) (fun J hJ => ?_)
  simp only [m_ini, Nat.reduceSub, List.replicate]
  have e9 := hM.2.2.2.1.1
  have e64 := hM.2.2.2.1.2
  obtain ⟨N, hN⟩ : ∃ n : Nat, A 66 34 = (n : Int) := ⟨_, (Int.toNat_of_nonneg hA.1).symm⟩
  rw [hN] at e9
  have hE0 : k_E g (m_up g 0 9 0) (m_up A 66 34 0) := by
    obtain ⟨⟨a1, a2⟩, ⟨b1, b2⟩, ⟨c1, c2⟩, ⟨d1, d2⟩, e⟩ := hM
    have s1 : h_same g (m_up g 0 9 0) 1 := fun j hj => m_up_ne (by omega)
    have s8 : h_same g (m_up g 0 9 0) 8 := fun j hj => m_up_ne (by omega)
    have o : ∀ j, j ≠ 66 → (m_up A 66 34 0) j = A j := fun j hj => m_up_ne hj
    have o66 : ∀ k, k ≠ 34 → (m_up A 66 34 0) 66 k = A 66 k := fun k hk => by rw [m_up_eq, m_un hk]
    refine ⟨⟨⟨?_, a2.same s1⟩, ⟨?_, fun z => ?_⟩, ⟨?_, fun k hk => ?_⟩, ⟨?_, fun k hk => ?_⟩, fun k hk => ?_⟩, fun j hj => m_up_ne (by omega)⟩
    · rw [o 68 (by decide)]; exact a1.same s1
    · rw [o66 5 (by decide), m_up_eq, m_un (by decide)]; exact b1
    · rw [o66 5 (by decide)] at z; rw [o 69 (by decide)]; exact ⟨(b2 z).1.same s8, (b2 z).2.same s8⟩
    · rw [o66 8 (by decide), m_up_ne (by decide)]; exact c1
    · rw [o66 8 (by decide)] at hk; rw [o 72 (by decide), m_up_ne (by decide)]; exact c2 k hk
    · rw [m_up_eq, m_us, m_up_eq, m_us]
    · rw [o 90 (by decide), m_up_ne (by decide)]; exact d2 k hk
    · rw [o 67 (by decide), m_up_ne (by decide)]; exact e k hk
  unfold x_judge at h
  simp only [hN] at h
  have hRm := hR.same (g' := m_up g 0 9 0) (fun j hj => m_up_ne (by omega))
  have hZm := hZ.same (g' := m_up g 0 9 0) (fun j hj => m_up_ne (by omega))
  have jp : ∀ t : Nat, t ≤ (A 68 0).toNat → t ≤ N → jd (a_day (A 68)) (A 90) N t < 0 → jd (a_day (A 68)) (A 90) N t = -9 := by
    intro t
    induction t with
    | zero => intro _ _ _; rfl
    | succ t ih =>
      intro h1 h2 h3
      simp only [jd] at h3 ⊢
      split at h3
      · omega
      · rename_i y
        rw [if_neg y]
        split at h3
        · omega
        · rename_i y2
          rw [if_neg y2]
          split at h3
          · rename_i y3; rw [if_pos y3]
          · omega
  have loop : ∀ (m t : Nat) (g1 : m_G), t + m = min N (A 68 0).toNat → k_F (m_up g 0 9 0) g1 → v_O g1 b (a_day (A 68)) → jd (a_day (A 68)) (A 90) N t = -9 → J 35 [some (.inr (.inr 0)), some (.inl N), some (.inl (min N (A 68 0).toNat : Nat)), some (.inl t)] [] g1 := by
    intro m
    induction m with
    | zero =>
      intro t g1 ht hF hO hj
      have hR1 := hRm.same (hF.h hb)
      have hE : k_E g g1 (m_up A 66 34 0) := ⟨(hE0.1.same hF.c).1, fun j hj => (hF j (by omega)).trans (hE0.2 j hj)⟩
      have hh := h g1 hE
      refine m_run_ok hJ (fun pc => pc == 35) 80 _ _ _ _ ?_
      simp only [e_go, rX8_judge_0, rX8_judge_1, rX8_judge_4, rX8_judge_5, rX8_judge_6, rX8_judge_7, rX8_judge_10, rX8_judge_11, rX8_judge_12, rX8_judge_15, rX8_judge_18, rX8_judge_21, rX8_judge_22, rX8_judge_23, rX8_judge_26, rX8_judge_27, rX8_judge_30, rX8_judge_33, rX8_judge_34, rX8_judge_35, rX8_judge_36, rX8_judge_37, rX8_judge_40, rX8_judge_41, rX8_judge_44, rX8_judge_45, rX8_judge_46, rX8_judge_47, rX8_judge_50, rX8_judge_51, rX8_judge_54, rX8_judge_57, rX8_judge_58, rX8_judge_59, rX8_judge_62, rX8_judge_65, rX8_judge_66, rX8_judge_67, rX8_judge_70, rX8_judge_73, rX8_judge_76, rX8_judge_78, rX8_judge_81, rX8_judge_82, e_ald0, e_callV2, e_get, e_goto, e_iald, e_icmp, e_ild1, e_ild2, e_ild3, e_inc3, e_ist1, e_ist2, e_ist3, e_min, e_nl0, e_nl1, e_nl2, e_push, e_pushn, e_pushs, e_put, e_ret, m_b0, m_b01, m_b1, m_em, Classical.not_not, Nat.reduceBEq, Nat.reduceLT, Nat.reduceLeDiff, Nat.reduceAdd, cond_true, cond_false, Bool.or_false, Bool.false_or, Bool.or_true, Bool.true_or, beq_iff_eq, true_and, and_true, true_or, or_true, forall_const, not_true_eq_false, not_false_eq_true, false_implies, implies_true, Nat.reduceEqDiff, List.length_nil, List.length_cons, ob_0, fv00 h1, fv_0_3, fv_0_7, fv_0_9, fs_0_9, obH hb, fvH0 hb, fsH0 hb, fvH1 hb, fsH1 hb, fvH2 hb, fvH3 hb, fvH4 hb, fvH5 hb, fvH6 hb, fvH7 hb, kdH1 hb, lnH1 hb, ltH1 hb, kdH2 hb, lnH2 hb, ltH2 hb, kdH3 hb, lnH3 hb, ltH3 hb, kdH4 hb, lnH4 hb, ltH4 hb, kdH5 hb, lnH5 hb, ltH5 hb, kdH6 hb, lnH6 hb, ltH6 hb, ob_39, fv_39_0, fv_39_1, fv_39_2, fv_39_3, fv_39_4, fs_39_4, fv_39_5, fs_39_5, fv_39_6, fv_39_7, fs_39_7, fv_39_8, fs_39_8, fv_39_9, fs_39_9, fv_39_10, fs_39_10, kd_64, ln_64, Int.toNat_natCast]
      rw [hR1.1.1]
      by_cases y : (A 68 0).toNat ≤ N
      · have e : t = (A 68 0).toNat := by omega
        rw [e] at hj
        rw [hj, if_neg (by decide)] at hh
        refine ⟨fun _ => ⟨fun c => ?_, fun c => ?_⟩, fun z => absurd z (by omega)⟩
        · rw [if_pos (by omega)] at hh
          rw [show ((min N (A 68 0).toNat : Nat) : Int) = A 68 0 by omega]; exact hh
        · rw [if_neg (by omega)] at hh; exact hh
      · have e : t = N := by omega
        have j1 : jd (a_day (A 68)) (A 90) N (N + 1) = N := by
          rw [e] at hj; simp only [jd]; rw [hj, if_neg (by decide), if_pos trivial]
        have hst := jd_stay (σ := a_day (A 68)) (w := A 90) (n := N) (t := N + 1) (by rw [j1]; omega) ((A 68 0).toNat - (N + 1))
        rw [show N + 1 + ((A 68 0).toNat - (N + 1)) = (A 68 0).toNat by omega, j1] at hst
        rw [hst, if_pos (by omega)] at hh
        refine ⟨fun _ => ⟨fun c => ?_, fun c => absurd c (by omega)⟩, fun z => absurd z (by omega)⟩
        rw [show ((min N (A 68 0).toNat : Nat) : Int) = (N : Int) by omega]; exact hh
    | succ m ih =>
      intro t g1 ht hF hO hj
      have hR1 := hRm.same (hF.h hb)
      have hE : k_E g g1 (m_up A 66 34 0) := ⟨(hE0.1.same hF.c).1, fun j hj => (hF j (by omega)).trans (hE0.2 j hj)⟩
      have hh := h g1 hE
      have nx := ih (t + 1) g1 (by omega) hF hO
      simp only [jd] at nx
      refine m_run_ok hJ (fun pc => pc == 35) 80 _ _ _ _ ?_
      simp only [e_go, rX8_judge_0, rX8_judge_1, rX8_judge_4, rX8_judge_5, rX8_judge_6, rX8_judge_7, rX8_judge_10, rX8_judge_11, rX8_judge_12, rX8_judge_15, rX8_judge_18, rX8_judge_21, rX8_judge_22, rX8_judge_23, rX8_judge_26, rX8_judge_27, rX8_judge_30, rX8_judge_33, rX8_judge_34, rX8_judge_35, rX8_judge_36, rX8_judge_37, rX8_judge_40, rX8_judge_41, rX8_judge_44, rX8_judge_45, rX8_judge_46, rX8_judge_47, rX8_judge_50, rX8_judge_51, rX8_judge_54, rX8_judge_57, rX8_judge_58, rX8_judge_59, rX8_judge_62, rX8_judge_65, rX8_judge_66, rX8_judge_67, rX8_judge_70, rX8_judge_73, rX8_judge_76, rX8_judge_78, rX8_judge_81, rX8_judge_82, e_ald0, e_callV2, e_get, e_goto, e_iald, e_icmp, e_ild1, e_ild2, e_ild3, e_inc3, e_ist1, e_ist2, e_ist3, e_min, e_nl0, e_nl1, e_nl2, e_push, e_pushn, e_pushs, e_put, e_ret, m_b0, m_b01, m_b1, m_em, Classical.not_not, Nat.reduceBEq, Nat.reduceLT, Nat.reduceLeDiff, Nat.reduceAdd, cond_true, cond_false, Bool.or_false, Bool.false_or, Bool.or_true, Bool.true_or, beq_iff_eq, true_and, and_true, true_or, or_true, forall_const, not_true_eq_false, not_false_eq_true, false_implies, implies_true, Nat.reduceEqDiff, List.length_nil, List.length_cons, ob_0, fv00 h1, fv_0_3, fv_0_7, fv_0_9, fs_0_9, obH hb, fvH0 hb, fsH0 hb, fvH1 hb, fsH1 hb, fvH2 hb, fvH3 hb, fvH4 hb, fvH5 hb, fvH6 hb, fvH7 hb, kdH1 hb, lnH1 hb, ltH1 hb, kdH2 hb, lnH2 hb, ltH2 hb, kdH3 hb, lnH3 hb, ltH3 hb, kdH4 hb, lnH4 hb, ltH4 hb, kdH5 hb, lnH5 hb, ltH5 hb, kdH6 hb, lnH6 hb, ltH6 hb, ob_39, fv_39_0, fv_39_1, fv_39_2, fv_39_3, fv_39_4, fs_39_4, fv_39_5, fs_39_5, fv_39_6, fv_39_7, fs_39_7, fv_39_8, fs_39_8, fv_39_9, fs_39_9, fv_39_10, fs_39_10, kd_64, ln_64, Int.toNat_natCast]
      refine ⟨fun z => absurd z (by omega), fun _ => ⟨by omega, ?_⟩⟩
      refine p1_meanOf hb hR1 hW hO (by omega) ?_
      simp only [e_go, rX8_judge_0, rX8_judge_1, rX8_judge_4, rX8_judge_5, rX8_judge_6, rX8_judge_7, rX8_judge_10, rX8_judge_11, rX8_judge_12, rX8_judge_15, rX8_judge_18, rX8_judge_21, rX8_judge_22, rX8_judge_23, rX8_judge_26, rX8_judge_27, rX8_judge_30, rX8_judge_33, rX8_judge_34, rX8_judge_35, rX8_judge_36, rX8_judge_37, rX8_judge_40, rX8_judge_41, rX8_judge_44, rX8_judge_45, rX8_judge_46, rX8_judge_47, rX8_judge_50, rX8_judge_51, rX8_judge_54, rX8_judge_57, rX8_judge_58, rX8_judge_59, rX8_judge_62, rX8_judge_65, rX8_judge_66, rX8_judge_67, rX8_judge_70, rX8_judge_73, rX8_judge_76, rX8_judge_78, rX8_judge_81, rX8_judge_82, e_ald0, e_callV2, e_get, e_goto, e_iald, e_icmp, e_ild1, e_ild2, e_ild3, e_inc3, e_ist1, e_ist2, e_ist3, e_min, e_nl0, e_nl1, e_nl2, e_push, e_pushn, e_pushs, e_put, e_ret, m_b0, m_b01, m_b1, m_em, Classical.not_not, Nat.reduceBEq, Nat.reduceLT, Nat.reduceLeDiff, Nat.reduceAdd, cond_true, cond_false, Bool.or_false, Bool.false_or, Bool.or_true, Bool.true_or, beq_iff_eq, true_and, and_true, true_or, or_true, forall_const, not_true_eq_false, not_false_eq_true, false_implies, implies_true, Nat.reduceEqDiff, List.length_nil, List.length_cons, ob_0, fv00 h1, fv_0_3, fv_0_7, fv_0_9, fs_0_9, obH hb, fvH0 hb, fsH0 hb, fvH1 hb, fsH1 hb, fvH2 hb, fvH3 hb, fvH4 hb, fvH5 hb, fvH6 hb, fvH7 hb, kdH1 hb, lnH1 hb, ltH1 hb, kdH2 hb, lnH2 hb, ltH2 hb, kdH3 hb, lnH3 hb, ltH3 hb, kdH4 hb, lnH4 hb, ltH4 hb, kdH5 hb, lnH5 hb, ltH5 hb, kdH6 hb, lnH6 hb, ltH6 hb, ob_39, fv_39_0, fv_39_1, fv_39_2, fv_39_3, fv_39_4, fs_39_4, fv_39_5, fs_39_5, fv_39_6, fv_39_7, fs_39_7, fv_39_8, fs_39_8, fv_39_9, fs_39_9, fv_39_10, fs_39_10, kd_64, ln_64, Int.toNat_natCast]
      rw [hF 64 (by omega), m_up_ne (by decide), e64 t (by omega), m_w2 (x := (t : Int) + 1) (by omega) (by omega), show (t : Int) + 1 = ((t + 1 : Nat) : Int) by omega]
      rw [hj, if_neg (by decide), if_neg (by omega)] at nx
      refine ⟨fun c => ?_, fun c => ?_⟩
      · rw [if_pos c] at nx; exact nx rfl
      · have j1 : jd (a_day (A 68)) (A 90) N (t + 1) = t := by
          simp only [jd]; rw [hj, if_neg (by decide), if_neg (by omega), if_neg c]
        have hst := jd_stay (σ := a_day (A 68)) (w := A 90) (n := N) (t := t + 1) (by rw [j1]; omega) ((A 68 0).toNat - (t + 1))
        rw [show t + 1 + ((A 68 0).toNat - (t + 1)) = (A 68 0).toNat by omega, j1] at hst
        rw [hst, if_pos (by omega)] at hh
        exact hh
  refine m_run_ok hJ (fun pc => pc == 35) 80 _ _ _ _ ?_
  simp only [e_go, rX8_judge_0, rX8_judge_1, rX8_judge_4, rX8_judge_5, rX8_judge_6, rX8_judge_7, rX8_judge_10, rX8_judge_11, rX8_judge_12, rX8_judge_15, rX8_judge_18, rX8_judge_21, rX8_judge_22, rX8_judge_23, rX8_judge_26, rX8_judge_27, rX8_judge_30, rX8_judge_33, rX8_judge_34, rX8_judge_35, rX8_judge_36, rX8_judge_37, rX8_judge_40, rX8_judge_41, rX8_judge_44, rX8_judge_45, rX8_judge_46, rX8_judge_47, rX8_judge_50, rX8_judge_51, rX8_judge_54, rX8_judge_57, rX8_judge_58, rX8_judge_59, rX8_judge_62, rX8_judge_65, rX8_judge_66, rX8_judge_67, rX8_judge_70, rX8_judge_73, rX8_judge_76, rX8_judge_78, rX8_judge_81, rX8_judge_82, e_ald0, e_callV2, e_get, e_goto, e_iald, e_icmp, e_ild1, e_ild2, e_ild3, e_inc3, e_ist1, e_ist2, e_ist3, e_min, e_nl0, e_nl1, e_nl2, e_push, e_pushn, e_pushs, e_put, e_ret, m_b0, m_b01, m_b1, m_em, Classical.not_not, Nat.reduceBEq, Nat.reduceLT, Nat.reduceLeDiff, Nat.reduceAdd, cond_true, cond_false, Bool.or_false, Bool.false_or, Bool.or_true, Bool.true_or, beq_iff_eq, true_and, and_true, true_or, or_true, forall_const, not_true_eq_false, not_false_eq_true, false_implies, implies_true, Nat.reduceEqDiff, List.length_nil, List.length_cons, ob_0, fv00 h1, fv_0_3, fv_0_7, fv_0_9, fs_0_9, obH hb, fvH0 hb, fsH0 hb, fvH1 hb, fsH1 hb, fvH2 hb, fvH3 hb, fvH4 hb, fvH5 hb, fvH6 hb, fvH7 hb, kdH1 hb, lnH1 hb, ltH1 hb, kdH2 hb, lnH2 hb, ltH2 hb, kdH3 hb, lnH3 hb, ltH3 hb, kdH4 hb, lnH4 hb, ltH4 hb, kdH5 hb, lnH5 hb, ltH5 hb, kdH6 hb, lnH6 hb, ltH6 hb, ob_39, fv_39_0, fv_39_1, fv_39_2, fv_39_3, fv_39_4, fs_39_4, fv_39_5, fs_39_5, fv_39_6, fv_39_7, fs_39_7, fv_39_8, fs_39_8, fv_39_9, fs_39_9, fv_39_10, fs_39_10, kd_64, ln_64, Int.toNat_natCast]
  have eb0 : m_up g 0 9 0 b 0 = A 68 0 := hRm.1.1
  have emin : (if A 68 0 < (N : Int) then A 68 0 else (N : Int)) = ((min N (A 68 0).toNat : Nat) : Int) := by split <;> omega
  rw [eb0, e9, emin]
  refine p1_run hb hRm (h_N.zero hZm hW.1.1.2) hW (nd0_b hW) (fun g' hO hF => ?_)
  simp only [e_go, rX8_judge_0, rX8_judge_1, rX8_judge_4, rX8_judge_5, rX8_judge_6, rX8_judge_7, rX8_judge_10, rX8_judge_11, rX8_judge_12, rX8_judge_15, rX8_judge_18, rX8_judge_21, rX8_judge_22, rX8_judge_23, rX8_judge_26, rX8_judge_27, rX8_judge_30, rX8_judge_33, rX8_judge_34, rX8_judge_35, rX8_judge_36, rX8_judge_37, rX8_judge_40, rX8_judge_41, rX8_judge_44, rX8_judge_45, rX8_judge_46, rX8_judge_47, rX8_judge_50, rX8_judge_51, rX8_judge_54, rX8_judge_57, rX8_judge_58, rX8_judge_59, rX8_judge_62, rX8_judge_65, rX8_judge_66, rX8_judge_67, rX8_judge_70, rX8_judge_73, rX8_judge_76, rX8_judge_78, rX8_judge_81, rX8_judge_82, e_ald0, e_callV2, e_get, e_goto, e_iald, e_icmp, e_ild1, e_ild2, e_ild3, e_inc3, e_ist1, e_ist2, e_ist3, e_min, e_nl0, e_nl1, e_nl2, e_push, e_pushn, e_pushs, e_put, e_ret, m_b0, m_b01, m_b1, m_em, Classical.not_not, Nat.reduceBEq, Nat.reduceLT, Nat.reduceLeDiff, Nat.reduceAdd, cond_true, cond_false, Bool.or_false, Bool.false_or, Bool.or_true, Bool.true_or, beq_iff_eq, true_and, and_true, true_or, or_true, forall_const, not_true_eq_false, not_false_eq_true, false_implies, implies_true, Nat.reduceEqDiff, List.length_nil, List.length_cons, ob_0, fv00 h1, fv_0_3, fv_0_7, fv_0_9, fs_0_9, obH hb, fvH0 hb, fsH0 hb, fvH1 hb, fsH1 hb, fvH2 hb, fvH3 hb, fvH4 hb, fvH5 hb, fvH6 hb, fvH7 hb, kdH1 hb, lnH1 hb, ltH1 hb, kdH2 hb, lnH2 hb, ltH2 hb, kdH3 hb, lnH3 hb, ltH3 hb, kdH4 hb, lnH4 hb, ltH4 hb, kdH5 hb, lnH5 hb, ltH5 hb, kdH6 hb, lnH6 hb, ltH6 hb, ob_39, fv_39_0, fv_39_1, fv_39_2, fv_39_3, fv_39_4, fs_39_4, fv_39_5, fs_39_5, fv_39_6, fv_39_7, fs_39_7, fv_39_8, fs_39_8, fv_39_9, fs_39_9, fv_39_10, fs_39_10, kd_64, ln_64, Int.toNat_natCast]
  exact loop (min N (A 68 0).toNat) 0 g' (by omega) hF hO rfl
