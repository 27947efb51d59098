set_option maxRecDepth 20000
set_option maxHeartbeats 2000000
noncomputable def x_order (A : m_G) (i : Int) : Int × m_G := if i < -1 then x_no A (-4) else (if i < 0 then (wo_all (A 68) (A 68 1).toNat).1 else if i < A 68 1 then ((wo_all (A 68) (A 68 1).toNat).2.getD i.toNat 0 : Int) else -9, A)
theorem wo_fold0 {s : Nat → Int} {n : Nat} : ∀ (L : List (List Nat)) (st : Int × List Nat), (0 ≤ st.1 ∨ L ≠ []) → 0 ≤ (L.foldl (fun st p => wo_1 s n p st) st).1
  | [], st, h => h.elim id (fun z => absurd rfl z)
  | p :: L, st, _ => by
    have : 0 ≤ (wo_1 s n p st).1 := by
      unfold wo_1
      split
      · rename_i c; exact c.1
      · exact (wv_b (s := s) (f := fun i => p.getD i 0) (n - 1)).1
    exact wo_fold0 L _ (Or.inl this)
theorem wo_all0 {s : Nat → Int} {n : Nat} (hn : n < 7) : 0 ≤ (wo_all s n).1 := by
  refine wo_fold0 _ _ (Or.inr (fun z => ?_))
  have := (nx_all n hn).2.1
  rw [z] at this
  cases this
theorem l_M.some {g A g' : m_G} (h : l_M g A) (ho : ∀ j, j ≠ 66 → (j < 74 ∨ j = 90) → g' j = g j) (h66 : g' 66 5 = g 66 5 ∧ g' 66 8 = g 66 8 ∧ g' 66 34 = g 66 34) : l_E g g' A := by
  obtain ⟨⟨a1, a2, a3⟩, ⟨b1, b2, b3, b4⟩, c⟩ := h
  exact ⟨⟨⟨h66.1.trans a1, h66.2.1.trans a2, h66.2.2.trans a3⟩, ⟨(ho 67 (by omega) (by omega)).trans b1, (ho 68 (by omega) (by omega)).trans b2, (ho 72 (by omega) (by omega)).trans b3, (ho 90 (by omega) (by omega)).trans b4⟩, fun k hk => by rw [ho 69 (by omega) (by omega)]; exact c k hk⟩, fun j hj => ho j (by omega) (by omega)⟩
theorem q9_order {g A : m_G} {i : Int} {q : m_Post} (hM : l_M g A) (hW : h_W (A 68)) (h : ∀ g', l_E g g' (x_order A i).2 → q (some (.inl (x_order A i).1)) g') : wX9_order.1 [.inr (.inr 66), .inl i] g q := by
  have hz := hW.1
  refine m_wp_of (by simp [m_fit]) (fun J hJ => ?_)
  simp only [m_ini, Nat.reduceSub, List.replicate]
  refine m_run_ok hJ (fun _ => false) 60 _ _ _ _ ?_
  simp only [e_go, rX9_order_0, rX9_order_1, rX9_order_2, rX9_order_5, rX9_order_6, rX9_order_8, rX9_order_11, rX9_order_12, rX9_order_13, rX9_order_15, rX9_order_18, rX9_order_19, rX9_order_20, rX9_order_21, rX9_order_24, rX9_order_25, rX9_order_28, rX9_order_29, rX9_order_32, rX9_order_35, rX9_order_36, rX9_order_37, rX9_order_40, rX9_order_41, rX9_order_42, rX9_order_45, rX9_order_46, rX9_order_49, rX9_order_50, rX9_order_51, rX9_order_54, rX9_order_56, e_ald0, e_callV2, e_callV3, e_get, e_goto, e_iald, e_icmp, e_if, e_ild1, e_push, e_pushn, e_pushs, e_put, e_ret, m_b0, m_b01, m_b1, m_em, Classical.not_not, Nat.reduceBEq, Nat.reduceLT, Nat.reduceLeDiff, Nat.reduceAdd, cond_true, cond_false, Bool.or_false, Bool.false_or, Bool.or_true, Bool.true_or, beq_iff_eq, true_and, and_true, true_or, or_true, forall_const, not_true_eq_false, not_false_eq_true, false_implies, implies_true, Nat.reduceEqDiff, List.length_nil, List.length_cons, ob_66, fv_66_0, fv_66_1, fv_66_2, fv_66_3, fv_66_4, fv_66_5, fs_66_5, fv_66_6, fv_66_7, fv_66_8, fs_66_8, fv_66_9, fs_66_9, fv_66_10, fv_66_11, fv_66_12, fv_66_13, fv_66_14, fv_66_15, fv_66_16, fv_66_17, fv_66_18, fv_66_19, fv_66_20, fv_66_21, fv_66_22, fv_66_23, fs_66_23, fv_66_24, fs_66_24, fv_66_25, fs_66_25, fv_66_26, fs_66_26, fv_66_27, fs_66_27, fv_66_28, fs_66_28, fv_66_29, fv_66_30, fv_66_31, fs_66_31, fv_66_32, fv_66_33, fv_66_34, fs_66_34, kd_68, ln_68, kd_88, ln_88, Int.toNat_natCast, Int.toNat_one]
  unfold x_order at h
  refine ⟨fun c => ?_, fun c => ?_⟩
  rotate_left
  · rw [if_pos (by omega)] at h
    refine q9_no hM (by decide) (fun g' hE => ?_)
    simp only [e_go, rX9_order_0, rX9_order_1, rX9_order_2, rX9_order_5, rX9_order_6, rX9_order_8, rX9_order_11, rX9_order_12, rX9_order_13, rX9_order_15, rX9_order_18, rX9_order_19, rX9_order_20, rX9_order_21, rX9_order_24, rX9_order_25, rX9_order_28, rX9_order_29, rX9_order_32, rX9_order_35, rX9_order_36, rX9_order_37, rX9_order_40, rX9_order_41, rX9_order_42, rX9_order_45, rX9_order_46, rX9_order_49, rX9_order_50, rX9_order_51, rX9_order_54, rX9_order_56, e_ald0, e_callV2, e_callV3, e_get, e_goto, e_iald, e_icmp, e_if, e_ild1, e_push, e_pushn, e_pushs, e_put, e_ret, m_b0, m_b01, m_b1, m_em, Classical.not_not, Nat.reduceBEq, Nat.reduceLT, Nat.reduceLeDiff, Nat.reduceAdd, cond_true, cond_false, Bool.or_false, Bool.false_or, Bool.or_true, Bool.true_or, beq_iff_eq, true_and, and_true, true_or, or_true, forall_const, not_true_eq_false, not_false_eq_true, false_implies, implies_true, Nat.reduceEqDiff, List.length_nil, List.length_cons, ob_66, fv_66_0, fv_66_1, fv_66_2, fv_66_3, fv_66_4, fv_66_5, fs_66_5, fv_66_6, fv_66_7, fv_66_8, fs_66_8, fv_66_9, fs_66_9, fv_66_10, fv_66_11, fv_66_12, fv_66_13, fv_66_14, fv_66_15, fv_66_16, fv_66_17, fv_66_18, fv_66_19, fv_66_20, fv_66_21, fv_66_22, fv_66_23, fs_66_23, fv_66_24, fs_66_24, fv_66_25, fs_66_25, fv_66_26, fs_66_26, fv_66_27, fs_66_27, fv_66_28, fs_66_28, fv_66_29, fv_66_30, fv_66_31, fs_66_31, fv_66_32, fv_66_33, fv_66_34, fs_66_34, kd_68, ln_68, kd_88, ln_88, Int.toNat_natCast, Int.toNat_one]
    exact h g' hE
  rw [if_neg (by omega)] at h
  have h0 := wo_all0 (s := A 68) (n := (A 68 1).toNat) (by omega)
  refine p9_orders (A 68 1).toNat 8 [] 0 (-9, []) (by omega) ((m_up_ne (by decide)).trans hM.s) hW (by simp) (fun x hx => absurd hx (by simp)) (fun i hi => absurd hi (by simp)) (by decide) (fun j hj => ?_) ?_ (fun g' hF hS => ?_)
  · have : ∀ j : Nat, j < 6 → ¬ d_bit 0 j := by decide +kernel
    exact ⟨fun z => absurd z (this j hj), fun z => absurd z (by simp)⟩
  · exact ⟨by rw [m_up_eq, m_us], fun z => absurd z (by decide)⟩
  simp only [e_go, rX9_order_0, rX9_order_1, rX9_order_2, rX9_order_5, rX9_order_6, rX9_order_8, rX9_order_11, rX9_order_12, rX9_order_13, rX9_order_15, rX9_order_18, rX9_order_19, rX9_order_20, rX9_order_21, rX9_order_24, rX9_order_25, rX9_order_28, rX9_order_29, rX9_order_32, rX9_order_35, rX9_order_36, rX9_order_37, rX9_order_40, rX9_order_41, rX9_order_42, rX9_order_45, rX9_order_46, rX9_order_49, rX9_order_50, rX9_order_51, rX9_order_54, rX9_order_56, e_ald0, e_callV2, e_callV3, e_get, e_goto, e_iald, e_icmp, e_if, e_ild1, e_push, e_pushn, e_pushs, e_put, e_ret, m_b0, m_b01, m_b1, m_em, Classical.not_not, Nat.reduceBEq, Nat.reduceLT, Nat.reduceLeDiff, Nat.reduceAdd, cond_true, cond_false, Bool.or_false, Bool.false_or, Bool.or_true, Bool.true_or, beq_iff_eq, true_and, and_true, true_or, or_true, forall_const, not_true_eq_false, not_false_eq_true, false_implies, implies_true, Nat.reduceEqDiff, List.length_nil, List.length_cons, ob_66, fv_66_0, fv_66_1, fv_66_2, fv_66_3, fv_66_4, fv_66_5, fs_66_5, fv_66_6, fv_66_7, fv_66_8, fs_66_8, fv_66_9, fs_66_9, fv_66_10, fv_66_11, fv_66_12, fv_66_13, fv_66_14, fv_66_15, fv_66_16, fv_66_17, fv_66_18, fv_66_19, fv_66_20, fv_66_21, fv_66_22, fv_66_23, fs_66_23, fv_66_24, fs_66_24, fv_66_25, fs_66_25, fv_66_26, fs_66_26, fv_66_27, fs_66_27, fv_66_28, fs_66_28, fv_66_29, fv_66_30, fv_66_31, fs_66_31, fv_66_32, fv_66_33, fv_66_34, fs_66_34, kd_68, ln_68, kd_88, ln_88, Int.toNat_natCast, Int.toNat_one]
  change wr_S g' (A 68 1).toNat (wo_all (A 68) (A 68 1).toNat) at hS
  have hE : l_E g g' A := by
    refine hM.some (fun j h1 h2 => ?_) ⟨?_, ?_, ?_⟩
    · rw [hF.1 j h1 (by omega) (by omega), m_up_ne h1]
    · rw [hF.2.1 5 (by decide), m_up_eq, m_un (by decide)]
    · rw [hF.2.1 8 (by decide), m_up_eq, m_un (by decide)]
    · rw [hF.2.1 34 (by decide), m_up_eq, m_un (by decide)]
  have hh := h g' hE
  simp only at hh
  rw [hE.1.s, hS.1]
  refine ⟨fun c2 => ⟨by omega, fun c3 => ?_, fun c3 => ⟨by omega, ?_⟩⟩, fun c2 => ?_⟩
  · rw [if_neg (by omega), if_neg (by omega)] at hh; exact hh
  · rw [if_neg (by omega), if_pos (by omega)] at hh
    rw [hS.2 h0 i.toNat (by omega)]; exact hh
  · rw [if_pos (by omega)] at hh; exact hh
/-! the class's weaver -/
theorem p7_weaveOf {b : Nat} (hb : m_hs b) {g : m_G} {s : Nat → Int} {f : Nat → Nat} {q : m_Post} (hR : h_R g b s) (hW : h_W s) (hf : ∀ i : Nat, (i : Int) < s 1 → g 61 i = (f i : Int)) (hf2 : ∀ i : Nat, (i : Int) < s 1 → (f i : Int) < s 1) (h : q (some (.inl (wvo s f (s 1).toNat))) g) : wX7_weaveOf.1 [.inr (.inr 59), .inr (.inr b)] g q := by
  have hz := hW.1
  have e1 : g b 1 = s 1 := hR.1.2
  refine m_wp_of (by simp [m_fit]) (fun J hJ => ?_)
  simp only [m_ini, Nat.reduceSub, List.replicate]
  have loop : ∀ (m i : Nat), (i = 0 ∨ i + 1 ≤ (s 1).toNat) → i + 1 + m = max 1 (s 1).toNat → J 4 [some (.inr (.inr 59)), some (.inr (.inr b)), some (.inl (wv s f i)), some (.inl i)] [] g := by
    intro m
    induction m with
    | zero =>
      intro i h0 hi
      refine m_run_ok hJ (fun pc => pc == 4) 60 _ _ _ _ ?_
      simp only [e_go, rX7_weaveOf_0, rX7_weaveOf_1, rX7_weaveOf_2, rX7_weaveOf_3, rX7_weaveOf_4, rX7_weaveOf_5, rX7_weaveOf_6, rX7_weaveOf_7, rX7_weaveOf_8, rX7_weaveOf_11, rX7_weaveOf_14, rX7_weaveOf_15, rX7_weaveOf_16, rX7_weaveOf_17, rX7_weaveOf_20, rX7_weaveOf_21, rX7_weaveOf_22, rX7_weaveOf_23, rX7_weaveOf_26, rX7_weaveOf_27, rX7_weaveOf_28, rX7_weaveOf_31, rX7_weaveOf_32, rX7_weaveOf_33, rX7_weaveOf_34, rX7_weaveOf_35, rX7_weaveOf_36, rX7_weaveOf_39, rX7_weaveOf_40, rX7_weaveOf_43, rX7_weaveOf_44, rX7_weaveOf_45, rX7_weaveOf_48, rX7_weaveOf_51, rX7_weaveOf_52, e_ald0, e_ald1, e_bin, e_callS1, e_callV3, e_get, e_goto, e_iald, e_icmp, e_ild2, e_ild3, e_inc3, e_ist2, e_ist3, e_nl0, e_nl1, e_nl2, e_push, e_pushn, e_pushs, e_ret, m_b0, m_b01, m_b1, m_em, Classical.not_not, Nat.reduceBEq, Nat.reduceLT, Nat.reduceLeDiff, Nat.reduceAdd, cond_true, cond_false, Bool.or_false, Bool.false_or, Bool.or_true, Bool.true_or, beq_iff_eq, true_and, and_true, true_or, or_true, forall_const, not_true_eq_false, not_false_eq_true, false_implies, implies_true, Nat.reduceEqDiff, List.length_nil, List.length_cons, ob_59, fv_59_0, fv_59_1, fs_59_1, fv_59_2, kd_61, ln_61, obH hb, fvH0 hb, fsH0 hb, fvH1 hb, fsH1 hb, fvH2 hb, fvH3 hb, fvH4 hb, fvH5 hb, fvH6 hb, fvH7 hb, kdH1 hb, lnH1 hb, ltH1 hb, kdH2 hb, lnH2 hb, ltH2 hb, kdH3 hb, lnH3 hb, ltH3 hb, kdH4 hb, lnH4 hb, ltH4 hb, kdH5 hb, lnH5 hb, ltH5 hb, kdH6 hb, lnH6 hb, ltH6 hb, e1, Int.toNat_natCast, Int.toNat_zero]
      rw [m_w2 (x := (i : Int) + 1) (by omega) (by omega)]
      refine ⟨fun _ => ?_, fun z => absurd z (by omega)⟩
      unfold wvo at h
      rw [show (s 1).toNat - 1 = i by omega] at h
      exact h
    | succ m ih =>
      intro i h0 hi
      have nx := ih (i + 1) (by omega) (by omega)
      have f0 := hf i (by omega)
      have f1 := hf (i + 1) (by omega)
      have g0 := hf2 i (by omega)
      have g1 := hf2 (i + 1) (by omega)
      have hwv := wv_b (s := s) (f := f) i
      have h5 := d_bits_5 (x := m_ixor (wd s (f i) 0) (wd s (f (i + 1)) 0))
      have w0 := wd_b hW (l := f i) g0 0 (by decide)
      have w1 := wd_b hW (l := f (i + 1)) g1 0 (by decide)
      simp only [wv] at nx
      refine m_run_ok hJ (fun pc => pc == 4) 60 _ _ _ _ ?_
      simp only [e_go, rX7_weaveOf_0, rX7_weaveOf_1, rX7_weaveOf_2, rX7_weaveOf_3, rX7_weaveOf_4, rX7_weaveOf_5, rX7_weaveOf_6, rX7_weaveOf_7, rX7_weaveOf_8, rX7_weaveOf_11, rX7_weaveOf_14, rX7_weaveOf_15, rX7_weaveOf_16, rX7_weaveOf_17, rX7_weaveOf_20, rX7_weaveOf_21, rX7_weaveOf_22, rX7_weaveOf_23, rX7_weaveOf_26, rX7_weaveOf_27, rX7_weaveOf_28, rX7_weaveOf_31, rX7_weaveOf_32, rX7_weaveOf_33, rX7_weaveOf_34, rX7_weaveOf_35, rX7_weaveOf_36, rX7_weaveOf_39, rX7_weaveOf_40, rX7_weaveOf_43, rX7_weaveOf_44, rX7_weaveOf_45, rX7_weaveOf_48, rX7_weaveOf_51, rX7_weaveOf_52, e_ald0, e_ald1, e_bin, e_callS1, e_callV3, e_get, e_goto, e_iald, e_icmp, e_ild2, e_ild3, e_inc3, e_ist2, e_ist3, e_nl0, e_nl1, e_nl2, e_push, e_pushn, e_pushs, e_ret, m_b0, m_b01, m_b1, m_em, Classical.not_not, Nat.reduceBEq, Nat.reduceLT, Nat.reduceLeDiff, Nat.reduceAdd, cond_true, cond_false, Bool.or_false, Bool.false_or, Bool.or_true, Bool.true_or, beq_iff_eq, true_and, and_true, true_or, or_true, forall_const, not_true_eq_false, not_false_eq_true, false_implies, implies_true, Nat.reduceEqDiff, List.length_nil, List.length_cons, ob_59, fv_59_0, fv_59_1, fs_59_1, fv_59_2, kd_61, ln_61, obH hb, fvH0 hb, fsH0 hb, fvH1 hb, fsH1 hb, fvH2 hb, fvH3 hb, fvH4 hb, fvH5 hb, fvH6 hb, fvH7 hb, kdH1 hb, lnH1 hb, ltH1 hb, kdH2 hb, lnH2 hb, ltH2 hb, kdH3 hb, lnH3 hb, ltH3 hb, kdH4 hb, lnH4 hb, ltH4 hb, kdH5 hb, lnH5 hb, ltH5 hb, kdH6 hb, lnH6 hb, ltH6 hb, e1, Int.toNat_natCast, Int.toNat_zero]
      rw [m_w2 (x := (i : Int) + 1) (by omega) (by omega), show (i : Int) + 1 = ((i + 1 : Nat) : Int) by omega, f0]
      refine ⟨fun z => absurd z (by omega), fun _ => ⟨by omega, ?_⟩⟩
      refine p_wordOf hb hR ?_
      rw [if_pos ⟨⟨by omega, g0⟩, by decide⟩, Int.toNat_natCast]
      simp only [e_go, rX7_weaveOf_0, rX7_weaveOf_1, rX7_weaveOf_2, rX7_weaveOf_3, rX7_weaveOf_4, rX7_weaveOf_5, rX7_weaveOf_6, rX7_weaveOf_7, rX7_weaveOf_8, rX7_weaveOf_11, rX7_weaveOf_14, rX7_weaveOf_15, rX7_weaveOf_16, rX7_weaveOf_17, rX7_weaveOf_20, rX7_weaveOf_21, rX7_weaveOf_22, rX7_weaveOf_23, rX7_weaveOf_26, rX7_weaveOf_27, rX7_weaveOf_28, rX7_weaveOf_31, rX7_weaveOf_32, rX7_weaveOf_33, rX7_weaveOf_34, rX7_weaveOf_35, rX7_weaveOf_36, rX7_weaveOf_39, rX7_weaveOf_40, rX7_weaveOf_43, rX7_weaveOf_44, rX7_weaveOf_45, rX7_weaveOf_48, rX7_weaveOf_51, rX7_weaveOf_52, e_ald0, e_ald1, e_bin, e_callS1, e_callV3, e_get, e_goto, e_iald, e_icmp, e_ild2, e_ild3, e_inc3, e_ist2, e_ist3, e_nl0, e_nl1, e_nl2, e_push, e_pushn, e_pushs, e_ret, m_b0, m_b01, m_b1, m_em, Classical.not_not, Nat.reduceBEq, Nat.reduceLT, Nat.reduceLeDiff, Nat.reduceAdd, cond_true, cond_false, Bool.or_false, Bool.false_or, Bool.or_true, Bool.true_or, beq_iff_eq, true_and, and_true, true_or, or_true, forall_const, not_true_eq_false, not_false_eq_true, false_implies, implies_true, Nat.reduceEqDiff, List.length_nil, List.length_cons, ob_59, fv_59_0, fv_59_1, fs_59_1, fv_59_2, kd_61, ln_61, obH hb, fvH0 hb, fsH0 hb, fvH1 hb, fsH1 hb, fvH2 hb, fvH3 hb, fvH4 hb, fvH5 hb, fvH6 hb, fvH7 hb, kdH1 hb, lnH1 hb, ltH1 hb, kdH2 hb, lnH2 hb, ltH2 hb, kdH3 hb, lnH3 hb, ltH3 hb, kdH4 hb, lnH4 hb, ltH4 hb, kdH5 hb, lnH5 hb, ltH5 hb, kdH6 hb, lnH6 hb, ltH6 hb, e1, Int.toNat_natCast, Int.toNat_zero]
      rw [f1]
      refine ⟨by omega, ?_⟩
      refine p_wordOf hb hR ?_
      rw [if_pos ⟨⟨by omega, g1⟩, by decide⟩, Int.toNat_natCast]
      simp only [e_go, rX7_weaveOf_0, rX7_weaveOf_1, rX7_weaveOf_2, rX7_weaveOf_3, rX7_weaveOf_4, rX7_weaveOf_5, rX7_weaveOf_6, rX7_weaveOf_7, rX7_weaveOf_8, rX7_weaveOf_11, rX7_weaveOf_14, rX7_weaveOf_15, rX7_weaveOf_16, rX7_weaveOf_17, rX7_weaveOf_20, rX7_weaveOf_21, rX7_weaveOf_22, rX7_weaveOf_23, rX7_weaveOf_26, rX7_weaveOf_27, rX7_weaveOf_28, rX7_weaveOf_31, rX7_weaveOf_32, rX7_weaveOf_33, rX7_weaveOf_34, rX7_weaveOf_35, rX7_weaveOf_36, rX7_weaveOf_39, rX7_weaveOf_40, rX7_weaveOf_43, rX7_weaveOf_44, rX7_weaveOf_45, rX7_weaveOf_48, rX7_weaveOf_51, rX7_weaveOf_52, e_ald0, e_ald1, e_bin, e_callS1, e_callV3, e_get, e_goto, e_iald, e_icmp, e_ild2, e_ild3, e_inc3, e_ist2, e_ist3, e_nl0, e_nl1, e_nl2, e_push, e_pushn, e_pushs, e_ret, m_b0, m_b01, m_b1, m_em, Classical.not_not, Nat.reduceBEq, Nat.reduceLT, Nat.reduceLeDiff, Nat.reduceAdd, cond_true, cond_false, Bool.or_false, Bool.false_or, Bool.or_true, Bool.true_or, beq_iff_eq, true_and, and_true, true_or, or_true, forall_const, not_true_eq_false, not_false_eq_true, false_implies, implies_true, Nat.reduceEqDiff, List.length_nil, List.length_cons, ob_59, fv_59_0, fv_59_1, fs_59_1, fv_59_2, kd_61, ln_61, obH hb, fvH0 hb, fsH0 hb, fvH1 hb, fsH1 hb, fvH2 hb, fvH3 hb, fvH4 hb, fvH5 hb, fvH6 hb, fvH7 hb, kdH1 hb, lnH1 hb, ltH1 hb, kdH2 hb, lnH2 hb, ltH2 hb, kdH3 hb, lnH3 hb, ltH3 hb, kdH4 hb, lnH4 hb, ltH4 hb, kdH5 hb, lnH5 hb, ltH5 hb, kdH6 hb, lnH6 hb, ltH6 hb, e1, Int.toNat_natCast, Int.toNat_zero]
      have hx := m_ixor_b w0 w1
      refine pJ_bitCount hx.1 hx.2 ?_
      simp only [e_go, rX7_weaveOf_0, rX7_weaveOf_1, rX7_weaveOf_2, rX7_weaveOf_3, rX7_weaveOf_4, rX7_weaveOf_5, rX7_weaveOf_6, rX7_weaveOf_7, rX7_weaveOf_8, rX7_weaveOf_11, rX7_weaveOf_14, rX7_weaveOf_15, rX7_weaveOf_16, rX7_weaveOf_17, rX7_weaveOf_20, rX7_weaveOf_21, rX7_weaveOf_22, rX7_weaveOf_23, rX7_weaveOf_26, rX7_weaveOf_27, rX7_weaveOf_28, rX7_weaveOf_31, rX7_weaveOf_32, rX7_weaveOf_33, rX7_weaveOf_34, rX7_weaveOf_35, rX7_weaveOf_36, rX7_weaveOf_39, rX7_weaveOf_40, rX7_weaveOf_43, rX7_weaveOf_44, rX7_weaveOf_45, rX7_weaveOf_48, rX7_weaveOf_51, rX7_weaveOf_52, e_ald0, e_ald1, e_bin, e_callS1, e_callV3, e_get, e_goto, e_iald, e_icmp, e_ild2, e_ild3, e_inc3, e_ist2, e_ist3, e_nl0, e_nl1, e_nl2, e_push, e_pushn, e_pushs, e_ret, m_b0, m_b01, m_b1, m_em, Classical.not_not, Nat.reduceBEq, Nat.reduceLT, Nat.reduceLeDiff, Nat.reduceAdd, cond_true, cond_false, Bool.or_false, Bool.false_or, Bool.or_true, Bool.true_or, beq_iff_eq, true_and, and_true, true_or, or_true, forall_const, not_true_eq_false, not_false_eq_true, false_implies, implies_true, Nat.reduceEqDiff, List.length_nil, List.length_cons, ob_59, fv_59_0, fv_59_1, fs_59_1, fv_59_2, kd_61, ln_61, obH hb, fvH0 hb, fsH0 hb, fvH1 hb, fsH1 hb, fvH2 hb, fvH3 hb, fvH4 hb, fvH5 hb, fvH6 hb, fvH7 hb, kdH1 hb, lnH1 hb, ltH1 hb, kdH2 hb, lnH2 hb, ltH2 hb, kdH3 hb, lnH3 hb, ltH3 hb, kdH4 hb, lnH4 hb, ltH4 hb, kdH5 hb, lnH5 hb, ltH5 hb, kdH6 hb, lnH6 hb, ltH6 hb, e1, Int.toNat_natCast, Int.toNat_zero]
      rw [m_w2 (x := (i : Int) + 1) (by omega) (by omega), show (i : Int) + 1 = ((i + 1 : Nat) : Int) by omega, m_w2 (by omega) (by omega)]
      exact nx
  refine m_run_ok hJ (fun pc => pc == 4) 60 _ _ _ _ ?_
  simp only [e_go, rX7_weaveOf_0, rX7_weaveOf_1, rX7_weaveOf_2, rX7_weaveOf_3, rX7_weaveOf_4, rX7_weaveOf_5, rX7_weaveOf_6, rX7_weaveOf_7, rX7_weaveOf_8, rX7_weaveOf_11, rX7_weaveOf_14, rX7_weaveOf_15, rX7_weaveOf_16, rX7_weaveOf_17, rX7_weaveOf_20, rX7_weaveOf_21, rX7_weaveOf_22, rX7_weaveOf_23, rX7_weaveOf_26, rX7_weaveOf_27, rX7_weaveOf_28, rX7_weaveOf_31, rX7_weaveOf_32, rX7_weaveOf_33, rX7_weaveOf_34, rX7_weaveOf_35, rX7_weaveOf_36, rX7_weaveOf_39, rX7_weaveOf_40, rX7_weaveOf_43, rX7_weaveOf_44, rX7_weaveOf_45, rX7_weaveOf_48, rX7_weaveOf_51, rX7_weaveOf_52, e_ald0, e_ald1, e_bin, e_callS1, e_callV3, e_get, e_goto, e_iald, e_icmp, e_ild2, e_ild3, e_inc3, e_ist2, e_ist3, e_nl0, e_nl1, e_nl2, e_push, e_pushn, e_pushs, e_ret, m_b0, m_b01, m_b1, m_em, Classical.not_not, Nat.reduceBEq, Nat.reduceLT, Nat.reduceLeDiff, Nat.reduceAdd, cond_true, cond_false, Bool.or_false, Bool.false_or, Bool.or_true, Bool.true_or, beq_iff_eq, true_and, and_true, true_or, or_true, forall_const, not_true_eq_false, not_false_eq_true, false_implies, implies_true, Nat.reduceEqDiff, List.length_nil, List.length_cons, ob_59, fv_59_0, fv_59_1, fs_59_1, fv_59_2, kd_61, ln_61, obH hb, fvH0 hb, fsH0 hb, fvH1 hb, fsH1 hb, fvH2 hb, fvH3 hb, fvH4 hb, fvH5 hb, fvH6 hb, fvH7 hb, kdH1 hb, lnH1 hb, ltH1 hb, kdH2 hb, lnH2 hb, ltH2 hb, kdH3 hb, lnH3 hb, ltH3 hb, kdH4 hb, lnH4 hb, ltH4 hb, kdH5 hb, lnH5 hb, ltH5 hb, kdH6 hb, lnH6 hb, ltH6 hb, e1, Int.toNat_natCast, Int.toNat_zero]
  exact loop ((max 1 (s 1).toNat) - 1) 0 (Or.inl rfl) (by omega)
theorem p7_startOrder {g : m_G} {q : m_Post} (h : ∀ g', (∀ j, j ≠ 61 → g' j = g j) → (∀ k : Nat, k < 6 → g' 61 k = (k : Int)) → q none g') : wX7_startOrder.1 [.inr (.inr 59)] g q := by
  refine m_wp_of (by simp [m_fit]) (fun J hJ => ?_)
  simp only [m_ini, Nat.reduceSub, List.replicate]
  have loop : ∀ (m i : Nat) (g1 : m_G), i + m = 6 → (∀ j, j ≠ 61 → g1 j = g j) → (∀ k : Nat, k < i → g1 61 k = (k : Int)) → J 2 [some (.inr (.inr 59)), some (.inl i)] [] g1 := by
    intro m
    induction m with
    | zero =>
      intro i g1 hi hO hH
      have e : i = 6 := by omega
      subst e
      refine m_run_ok hJ (fun pc => pc == 2) 60 _ _ _ _ ?_
      simp only [e_go, rX7_startOrder_0, rX7_startOrder_1, rX7_startOrder_2, rX7_startOrder_3, rX7_startOrder_5, rX7_startOrder_8, rX7_startOrder_9, rX7_startOrder_12, rX7_startOrder_13, rX7_startOrder_14, rX7_startOrder_15, rX7_startOrder_18, rX7_startOrder_21, e_ald0, e_get, e_goto, e_iast, e_icmp, e_ild1, e_inc1, e_ist1, e_nl0, e_nl1, e_nl2, e_push, e_retv, m_b0, m_b01, m_b1, m_em, Classical.not_not, Nat.reduceBEq, Nat.reduceLT, Nat.reduceLeDiff, Nat.reduceAdd, cond_true, cond_false, Bool.or_false, Bool.false_or, Bool.or_true, Bool.true_or, beq_iff_eq, true_and, and_true, true_or, or_true, forall_const, not_true_eq_false, not_false_eq_true, false_implies, implies_true, Nat.reduceEqDiff, List.length_nil, List.length_cons, ob_59, fv_59_0, fv_59_1, fs_59_1, fv_59_2, kd_61, ln_61, Int.toNat_natCast]
      exact ⟨fun _ => h g1 hO hH, fun z => absurd z (by omega)⟩
    | succ m ih =>
      intro i g1 hi hO hH
      refine m_run_ok hJ (fun pc => pc == 2) 60 _ _ _ _ ?_
      simp only [e_go, rX7_startOrder_0, rX7_startOrder_1, rX7_startOrder_2, rX7_startOrder_3, rX7_startOrder_5, rX7_startOrder_8, rX7_startOrder_9, rX7_startOrder_12, rX7_startOrder_13, rX7_startOrder_14, rX7_startOrder_15, rX7_startOrder_18, rX7_startOrder_21, e_ald0, e_get, e_goto, e_iast, e_icmp, e_ild1, e_inc1, e_ist1, e_nl0, e_nl1, e_nl2, e_push, e_retv, m_b0, m_b01, m_b1, m_em, Classical.not_not, Nat.reduceBEq, Nat.reduceLT, Nat.reduceLeDiff, Nat.reduceAdd, cond_true, cond_false, Bool.or_false, Bool.false_or, Bool.or_true, Bool.true_or, beq_iff_eq, true_and, and_true, true_or, or_true, forall_const, not_true_eq_false, not_false_eq_true, false_implies, implies_true, Nat.reduceEqDiff, List.length_nil, List.length_cons, ob_59, fv_59_0, fv_59_1, fs_59_1, fv_59_2, kd_61, ln_61, Int.toNat_natCast]
      rw [m_w2 (x := (i : Int) + 1) (by omega) (by omega)]
      refine ⟨fun z => absurd z (by omega), fun _ => ⟨by omega, ?_⟩⟩
      refine ih (i + 1) _ (by omega) (fun j hj => (m_up_ne hj).trans (hO j hj)) (fun k hk => ?_)
      rw [m_upv]
      by_cases e : k = i
      · rw [if_pos ⟨rfl, e⟩, e]
      · rw [if_neg (fun z => e z.2)]; exact hH k (by omega)
  refine m_run_ok hJ (fun pc => pc == 2) 60 _ _ _ _ ?_
  simp only [e_go, rX7_startOrder_0, rX7_startOrder_1, rX7_startOrder_2, rX7_startOrder_3, rX7_startOrder_5, rX7_startOrder_8, rX7_startOrder_9, rX7_startOrder_12, rX7_startOrder_13, rX7_startOrder_14, rX7_startOrder_15, rX7_startOrder_18, rX7_startOrder_21, e_ald0, e_get, e_goto, e_iast, e_icmp, e_ild1, e_inc1, e_ist1, e_nl0, e_nl1, e_nl2, e_push, e_retv, m_b0, m_b01, m_b1, m_em, Classical.not_not, Nat.reduceBEq, Nat.reduceLT, Nat.reduceLeDiff, Nat.reduceAdd, cond_true, cond_false, Bool.or_false, Bool.false_or, Bool.or_true, Bool.true_or, beq_iff_eq, true_and, and_true, true_or, or_true, forall_const, not_true_eq_false, not_false_eq_true, false_implies, implies_true, Nat.reduceEqDiff, List.length_nil, List.length_cons, ob_59, fv_59_0, fv_59_1, fs_59_1, fv_59_2, kd_61, ln_61, Int.toNat_natCast]
  exact loop 6 0 g (by omega) (fun _ _ => rfl) (fun k hk => absurd hk (by omega))
theorem p7_keep {w : Int} {g : m_G} {q : m_Post} (h : ∀ g', (∀ j, j ≠ 59 → j ≠ 60 → g' j = g j) → g' 59 1 = w → (∀ k : Nat, k < 6 → g' 60 k = g 61 k) → q none g') : wX7_keep.1 [.inr (.inr 59), .inl w] g q := by
  refine m_wp_of (by simp [m_fit]) (fun J hJ => ?_)
  simp only [m_ini, Nat.reduceSub, List.replicate]
  refine m_run_ok hJ (fun _ => false) 60 _ _ _ _ ?_
  simp only [e_go, rX7_keep_0, rX7_keep_1, rX7_keep_2, rX7_keep_5, rX7_keep_6, rX7_keep_9, rX7_keep_10, rX7_keep_11, rX7_keep_14, rX7_keep_15, rX7_keep_17, rX7_keep_20, e_ald0, e_copy, e_get, e_ild1, e_push, e_put, e_retv, m_b0, m_b01, m_b1, m_em, Classical.not_not, Nat.reduceBEq, Nat.reduceLT, Nat.reduceLeDiff, Nat.reduceAdd, cond_true, cond_false, Bool.or_false, Bool.false_or, Bool.or_true, Bool.true_or, beq_iff_eq, true_and, and_true, true_or, or_true, forall_const, not_true_eq_false, not_false_eq_true, false_implies, implies_true, Nat.reduceEqDiff, List.length_nil, List.length_cons, ob_59, fv_59_0, fv_59_1, fs_59_1, fv_59_2, kd_60, ln_60, kd_61, ln_61]
  refine ⟨by decide, ?_⟩
  refine h _ (fun j h1 h2 => ?_) ?_ (fun k hk => ?_)
  · show (if j = 60 then _ else m_up g 59 1 w j) = _
    rw [if_neg h2, m_up_ne h1]
  · show (if 59 = 60 then _ else m_up g 59 1 w 59) 1 = _
    rw [if_neg (by decide), m_up_eq, m_us]
  · show (if 60 = 60 then m_cp (m_up g 59 1 w 61) (m_up g 59 1 w 60) (Int.toNat 0) (Int.toNat 0) (Int.toNat 6) else m_up g 59 1 w 60) k = _
    rw [if_pos rfl, m_up_ne (by decide)]
    exact m_cp0 hk
theorem p7_swap {n i j : Nat} {f : Nat → Nat} {g : m_G} {q : m_Post} (hn : n ≤ 6) (hi : i < n) (hj : j < n) (hf : ∀ k : Nat, k < n → g 61 k = (f k : Int)) (h : ∀ g', (∀ a, a ≠ 61 → g' a = g a) → (∀ k : Nat, k < n → g' 61 k = (nx_swap f i j k : Int)) → q none g') : wX7_swap.1 [.inr (.inr 59), .inl i, .inl j] g q := by
  refine m_wp_of (by simp [m_fit]) (fun J hJ => ?_)
  simp only [m_ini, Nat.reduceSub, List.replicate]
  refine m_run_ok hJ (fun _ => false) 60 _ _ _ _ ?_
  simp only [e_go, rX7_swap_0, rX7_swap_1, rX7_swap_4, rX7_swap_5, rX7_swap_6, rX7_swap_7, rX7_swap_8, rX7_swap_11, rX7_swap_12, rX7_swap_13, rX7_swap_16, rX7_swap_17, rX7_swap_18, rX7_swap_19, rX7_swap_20, rX7_swap_23, rX7_swap_24, rX7_swap_25, rX7_swap_26, e_ald0, e_get, e_iald, e_iast, e_ild1, e_ild2, e_ild3, e_ist3, e_nl0, e_nl1, e_nl2, e_retv, m_b0, m_b01, m_b1, m_em, Classical.not_not, Nat.reduceBEq, Nat.reduceLT, Nat.reduceLeDiff, Nat.reduceAdd, cond_true, cond_false, Bool.or_false, Bool.false_or, Bool.or_true, Bool.true_or, beq_iff_eq, true_and, and_true, true_or, or_true, forall_const, not_true_eq_false, not_false_eq_true, false_implies, implies_true, Nat.reduceEqDiff, List.length_nil, List.length_cons, ob_59, fv_59_0, fv_59_1, fs_59_1, fv_59_2, kd_61, ln_61, Int.toNat_natCast]
  refine ⟨by omega, by omega, by omega, by omega, ?_⟩
  refine h _ (fun a ha => by rw [m_up_ne ha, m_up_ne ha]) (fun k hk => ?_)
  unfold nx_swap
  simp only [m_upv, true_and]
  by_cases e : k = j
  · rw [if_pos e, if_pos e]; exact hf i hi
  · rw [if_neg e, if_neg e]
    by_cases e2 : k = i
    · rw [if_pos e2, if_pos e2]; exact hf j hj
    · rw [if_neg e2, if_neg e2]; exact hf k hk
theorem nx_fall_lt (f : Nat → Nat) : ∀ (i k : Nat), nx_fall f i = some k → k < i
  | 0, _, h => by cases h
  | i + 1, k, h => by
    simp only [nx_fall] at h
    split at h
    · have := nx_fall_lt f i k h; omega
    · cases h; omega
theorem nx_above_le (f : Nat → Nat) (a : Nat) : ∀ i : Nat, nx_above f a i ≤ i
  | 0 => Nat.le_refl 0
  | i + 1 => by
    simp only [nx_above]
    split
    · have := nx_above_le f a i; omega
    · omega
theorem p7_nextOrder {n : Nat} {f : Nat → Nat} {g : m_G} {q : m_Post} (hn : n ≤ 6) (hf : ∀ k : Nat, k < n → g 61 k = (f k : Int)) (h0 : nx n f = none → q (some (.inl 0)) g) (h1 : ∀ f' g', nx n f = some f' → (∀ a, a ≠ 61 → g' a = g a) → (∀ k : Nat, k < n → g' 61 k = (f' k : Int)) → q (some (.inl 1)) g') : wX7_nextOrder.1 [.inr (.inr 59), .inl n] g q := by
  refine m_wp_of (by simp [m_fit]) (fun J hJ => ?_)
  simp only [m_ini, Nat.reduceSub, List.replicate]
  have turn : ∀ (m low high : Nat) (fa ab : Int) (f1 : Nat → Nat) (g1 : m_G), high ≤ low + 2 * m → low ≤ n → high < n → (∀ a, a ≠ 61 → g1 a = g a) → (∀ k : Nat, k < n → g1 61 k = (f1 k : Int)) → nx n f = some (nx_turn f1 low high m) → J 83 [some (.inr (.inr 59)), some (.inl n), some (.inl fa), some (.inl ab), some (.inl low), some (.inl high)] [] g1 := by
    intro m
    induction m with
    | zero =>
      intro low high fa ab f1 g1 hlh hl hh hO hH hN
      refine m_run_ok hJ (fun pc => pc == 4 || pc == 41 || pc == 67 || pc == 83) 60 _ _ _ _ ?_
      simp only [e_go, rX7_nextOrder_0, rX7_nextOrder_1, rX7_nextOrder_2, rX7_nextOrder_3, rX7_nextOrder_4, rX7_nextOrder_5, rX7_nextOrder_8, rX7_nextOrder_9, rX7_nextOrder_12, rX7_nextOrder_13, rX7_nextOrder_14, rX7_nextOrder_15, rX7_nextOrder_18, rX7_nextOrder_19, rX7_nextOrder_20, rX7_nextOrder_21, rX7_nextOrder_22, rX7_nextOrder_25, rX7_nextOrder_28, rX7_nextOrder_31, rX7_nextOrder_32, rX7_nextOrder_35, rX7_nextOrder_36, rX7_nextOrder_37, rX7_nextOrder_38, rX7_nextOrder_39, rX7_nextOrder_40, rX7_nextOrder_41, rX7_nextOrder_42, rX7_nextOrder_43, rX7_nextOrder_46, rX7_nextOrder_47, rX7_nextOrder_50, rX7_nextOrder_51, rX7_nextOrder_52, rX7_nextOrder_53, rX7_nextOrder_56, rX7_nextOrder_57, rX7_nextOrder_58, rX7_nextOrder_61, rX7_nextOrder_64, rX7_nextOrder_67, rX7_nextOrder_68, rX7_nextOrder_69, rX7_nextOrder_70, rX7_nextOrder_73, rX7_nextOrder_74, rX7_nextOrder_75, rX7_nextOrder_76, rX7_nextOrder_78, rX7_nextOrder_79, rX7_nextOrder_80, rX7_nextOrder_81, rX7_nextOrder_83, rX7_nextOrder_85, rX7_nextOrder_87, rX7_nextOrder_90, rX7_nextOrder_91, rX7_nextOrder_93, rX7_nextOrder_95, rX7_nextOrder_98, rX7_nextOrder_101, rX7_nextOrder_104, rX7_nextOrder_107, rX7_nextOrder_108, e_ald0, e_bin, e_callV3, e_get, e_goto, e_iald, e_icmp, e_if, e_ild1, e_ild2, e_ild3, e_ild4, e_ild5, e_inc2, e_inc3, e_inc4, e_inc5, e_ist2, e_ist3, e_ist4, e_ist5, e_nl0, e_nl1, e_nl2, e_push, e_pushn, e_pushs, e_retz, m_b0, m_b01, m_b1, m_em, Classical.not_not, Nat.reduceBEq, Nat.reduceLT, Nat.reduceLeDiff, Nat.reduceAdd, cond_true, cond_false, Bool.or_false, Bool.false_or, Bool.or_true, Bool.true_or, beq_iff_eq, true_and, and_true, true_or, or_true, forall_const, not_true_eq_false, not_false_eq_true, false_implies, implies_true, Nat.reduceEqDiff, List.length_nil, List.length_cons, ob_59, fv_59_0, fv_59_1, fs_59_1, fv_59_2, kd_61, ln_61, Int.toNat_natCast]
      exact ⟨fun _ => h1 _ g1 hN hO hH, fun z => absurd z (by omega)⟩
    | succ m ih =>
      intro low high fa ab f1 g1 hlh hl hh hO hH hN
      simp only [nx_turn] at hN
      refine m_run_ok hJ (fun pc => pc == 4 || pc == 41 || pc == 67 || pc == 83) 60 _ _ _ _ ?_
      simp only [e_go, rX7_nextOrder_0, rX7_nextOrder_1, rX7_nextOrder_2, rX7_nextOrder_3, rX7_nextOrder_4, rX7_nextOrder_5, rX7_nextOrder_8, rX7_nextOrder_9, rX7_nextOrder_12, rX7_nextOrder_13, rX7_nextOrder_14, rX7_nextOrder_15, rX7_nextOrder_18, rX7_nextOrder_19, rX7_nextOrder_20, rX7_nextOrder_21, rX7_nextOrder_22, rX7_nextOrder_25, rX7_nextOrder_28, rX7_nextOrder_31, rX7_nextOrder_32, rX7_nextOrder_35, rX7_nextOrder_36, rX7_nextOrder_37, rX7_nextOrder_38, rX7_nextOrder_39, rX7_nextOrder_40, rX7_nextOrder_41, rX7_nextOrder_42, rX7_nextOrder_43, rX7_nextOrder_46, rX7_nextOrder_47, rX7_nextOrder_50, rX7_nextOrder_51, rX7_nextOrder_52, rX7_nextOrder_53, rX7_nextOrder_56, rX7_nextOrder_57, rX7_nextOrder_58, rX7_nextOrder_61, rX7_nextOrder_64, rX7_nextOrder_67, rX7_nextOrder_68, rX7_nextOrder_69, rX7_nextOrder_70, rX7_nextOrder_73, rX7_nextOrder_74, rX7_nextOrder_75, rX7_nextOrder_76, rX7_nextOrder_78, rX7_nextOrder_79, rX7_nextOrder_80, rX7_nextOrder_81, rX7_nextOrder_83, rX7_nextOrder_85, rX7_nextOrder_87, rX7_nextOrder_90, rX7_nextOrder_91, rX7_nextOrder_93, rX7_nextOrder_95, rX7_nextOrder_98, rX7_nextOrder_101, rX7_nextOrder_104, rX7_nextOrder_107, rX7_nextOrder_108, e_ald0, e_bin, e_callV3, e_get, e_goto, e_iald, e_icmp, e_if, e_ild1, e_ild2, e_ild3, e_ild4, e_ild5, e_inc2, e_inc3, e_inc4, e_inc5, e_ist2, e_ist3, e_ist4, e_ist5, e_nl0, e_nl1, e_nl2, e_push, e_pushn, e_pushs, e_retz, m_b0, m_b01, m_b1, m_em, Classical.not_not, Nat.reduceBEq, Nat.reduceLT, Nat.reduceLeDiff, Nat.reduceAdd, cond_true, cond_false, Bool.or_false, Bool.false_or, Bool.or_true, Bool.true_or, beq_iff_eq, true_and, and_true, true_or, or_true, forall_const, not_true_eq_false, not_false_eq_true, false_implies, implies_true, Nat.reduceEqDiff, List.length_nil, List.length_cons, ob_59, fv_59_0, fv_59_1, fs_59_1, fv_59_2, kd_61, ln_61, Int.toNat_natCast]
      refine ⟨fun c => ?_, fun c => ?_⟩
      · rw [if_neg (by omega)] at hN
        exact h1 _ g1 hN hO hH
      · rw [if_pos (by omega)] at hN
        refine p7_swap hn (by omega) hh hH (fun g2 c1 c2 => ?_)
        simp only [e_go, rX7_nextOrder_0, rX7_nextOrder_1, rX7_nextOrder_2, rX7_nextOrder_3, rX7_nextOrder_4, rX7_nextOrder_5, rX7_nextOrder_8, rX7_nextOrder_9, rX7_nextOrder_12, rX7_nextOrder_13, rX7_nextOrder_14, rX7_nextOrder_15, rX7_nextOrder_18, rX7_nextOrder_19, rX7_nextOrder_20, rX7_nextOrder_21, rX7_nextOrder_22, rX7_nextOrder_25, rX7_nextOrder_28, rX7_nextOrder_31, rX7_nextOrder_32, rX7_nextOrder_35, rX7_nextOrder_36, rX7_nextOrder_37, rX7_nextOrder_38, rX7_nextOrder_39, rX7_nextOrder_40, rX7_nextOrder_41, rX7_nextOrder_42, rX7_nextOrder_43, rX7_nextOrder_46, rX7_nextOrder_47, rX7_nextOrder_50, rX7_nextOrder_51, rX7_nextOrder_52, rX7_nextOrder_53, rX7_nextOrder_56, rX7_nextOrder_57, rX7_nextOrder_58, rX7_nextOrder_61, rX7_nextOrder_64, rX7_nextOrder_67, rX7_nextOrder_68, rX7_nextOrder_69, rX7_nextOrder_70, rX7_nextOrder_73, rX7_nextOrder_74, rX7_nextOrder_75, rX7_nextOrder_76, rX7_nextOrder_78, rX7_nextOrder_79, rX7_nextOrder_80, rX7_nextOrder_81, rX7_nextOrder_83, rX7_nextOrder_85, rX7_nextOrder_87, rX7_nextOrder_90, rX7_nextOrder_91, rX7_nextOrder_93, rX7_nextOrder_95, rX7_nextOrder_98, rX7_nextOrder_101, rX7_nextOrder_104, rX7_nextOrder_107, rX7_nextOrder_108, e_ald0, e_bin, e_callV3, e_get, e_goto, e_iald, e_icmp, e_if, e_ild1, e_ild2, e_ild3, e_ild4, e_ild5, e_inc2, e_inc3, e_inc4, e_inc5, e_ist2, e_ist3, e_ist4, e_ist5, e_nl0, e_nl1, e_nl2, e_push, e_pushn, e_pushs, e_retz, m_b0, m_b01, m_b1, m_em, Classical.not_not, Nat.reduceBEq, Nat.reduceLT, Nat.reduceLeDiff, Nat.reduceAdd, cond_true, cond_false, Bool.or_false, Bool.false_or, Bool.or_true, Bool.true_or, beq_iff_eq, true_and, and_true, true_or, or_true, forall_const, not_true_eq_false, not_false_eq_true, false_implies, implies_true, Nat.reduceEqDiff, List.length_nil, List.length_cons, ob_59, fv_59_0, fv_59_1, fs_59_1, fv_59_2, kd_61, ln_61, Int.toNat_natCast]
        rw [m_w2 (x := (low : Int) + 1) (by omega) (by omega), m_w1 (x := (high : Int) + -1) (by omega) (by omega), show (low : Int) + 1 = ((low + 1 : Nat) : Int) by omega, show (high : Int) + -1 = ((high - 1 : Nat) : Int) by omega]
        exact ih (low + 1) (high - 1) fa ab _ g2 (by omega) (by omega) (by omega) (fun a ha => (c1 a ha).trans (hO a ha)) c2 hN
  have above : ∀ (i k : Nat), nx_fall f (n - 1) = some k → i < n → nx_above f k i = nx_above f k (n - 1) → J 41 [some (.inr (.inr 59)), some (.inl n), some (.inl k), some (.inl i), none, none] [] g := by
    intro i k hk
    have hkl := nx_fall_lt f _ _ hk
    have dn : ∀ i : Nat, i < n → nx_above f k i = i → nx_above f k i = nx_above f k (n - 1) → J 67 [some (.inr (.inr 59)), some (.inl n), some (.inl k), some (.inl i), none, none] [] g := by
      intro i hi hab hab2
      refine m_run_ok hJ (fun pc => pc == 4 || pc == 41 || pc == 67 || pc == 83) 60 _ _ _ _ ?_
      simp only [e_go, rX7_nextOrder_0, rX7_nextOrder_1, rX7_nextOrder_2, rX7_nextOrder_3, rX7_nextOrder_4, rX7_nextOrder_5, rX7_nextOrder_8, rX7_nextOrder_9, rX7_nextOrder_12, rX7_nextOrder_13, rX7_nextOrder_14, rX7_nextOrder_15, rX7_nextOrder_18, rX7_nextOrder_19, rX7_nextOrder_20, rX7_nextOrder_21, rX7_nextOrder_22, rX7_nextOrder_25, rX7_nextOrder_28, rX7_nextOrder_31, rX7_nextOrder_32, rX7_nextOrder_35, rX7_nextOrder_36, rX7_nextOrder_37, rX7_nextOrder_38, rX7_nextOrder_39, rX7_nextOrder_40, rX7_nextOrder_41, rX7_nextOrder_42, rX7_nextOrder_43, rX7_nextOrder_46, rX7_nextOrder_47, rX7_nextOrder_50, rX7_nextOrder_51, rX7_nextOrder_52, rX7_nextOrder_53, rX7_nextOrder_56, rX7_nextOrder_57, rX7_nextOrder_58, rX7_nextOrder_61, rX7_nextOrder_64, rX7_nextOrder_67, rX7_nextOrder_68, rX7_nextOrder_69, rX7_nextOrder_70, rX7_nextOrder_73, rX7_nextOrder_74, rX7_nextOrder_75, rX7_nextOrder_76, rX7_nextOrder_78, rX7_nextOrder_79, rX7_nextOrder_80, rX7_nextOrder_81, rX7_nextOrder_83, rX7_nextOrder_85, rX7_nextOrder_87, rX7_nextOrder_90, rX7_nextOrder_91, rX7_nextOrder_93, rX7_nextOrder_95, rX7_nextOrder_98, rX7_nextOrder_101, rX7_nextOrder_104, rX7_nextOrder_107, rX7_nextOrder_108, e_ald0, e_bin, e_callV3, e_get, e_goto, e_iald, e_icmp, e_if, e_ild1, e_ild2, e_ild3, e_ild4, e_ild5, e_inc2, e_inc3, e_inc4, e_inc5, e_ist2, e_ist3, e_ist4, e_ist5, e_nl0, e_nl1, e_nl2, e_push, e_pushn, e_pushs, e_retz, m_b0, m_b01, m_b1, m_em, Classical.not_not, Nat.reduceBEq, Nat.reduceLT, Nat.reduceLeDiff, Nat.reduceAdd, cond_true, cond_false, Bool.or_false, Bool.false_or, Bool.or_true, Bool.true_or, beq_iff_eq, true_and, and_true, true_or, or_true, forall_const, not_true_eq_false, not_false_eq_true, false_implies, implies_true, Nat.reduceEqDiff, List.length_nil, List.length_cons, ob_59, fv_59_0, fv_59_1, fs_59_1, fv_59_2, kd_61, ln_61, Int.toNat_natCast]
      refine p7_swap hn (by omega) hi hf (fun g2 c1 c2 => ?_)
      simp only [e_go, rX7_nextOrder_0, rX7_nextOrder_1, rX7_nextOrder_2, rX7_nextOrder_3, rX7_nextOrder_4, rX7_nextOrder_5, rX7_nextOrder_8, rX7_nextOrder_9, rX7_nextOrder_12, rX7_nextOrder_13, rX7_nextOrder_14, rX7_nextOrder_15, rX7_nextOrder_18, rX7_nextOrder_19, rX7_nextOrder_20, rX7_nextOrder_21, rX7_nextOrder_22, rX7_nextOrder_25, rX7_nextOrder_28, rX7_nextOrder_31, rX7_nextOrder_32, rX7_nextOrder_35, rX7_nextOrder_36, rX7_nextOrder_37, rX7_nextOrder_38, rX7_nextOrder_39, rX7_nextOrder_40, rX7_nextOrder_41, rX7_nextOrder_42, rX7_nextOrder_43, rX7_nextOrder_46, rX7_nextOrder_47, rX7_nextOrder_50, rX7_nextOrder_51, rX7_nextOrder_52, rX7_nextOrder_53, rX7_nextOrder_56, rX7_nextOrder_57, rX7_nextOrder_58, rX7_nextOrder_61, rX7_nextOrder_64, rX7_nextOrder_67, rX7_nextOrder_68, rX7_nextOrder_69, rX7_nextOrder_70, rX7_nextOrder_73, rX7_nextOrder_74, rX7_nextOrder_75, rX7_nextOrder_76, rX7_nextOrder_78, rX7_nextOrder_79, rX7_nextOrder_80, rX7_nextOrder_81, rX7_nextOrder_83, rX7_nextOrder_85, rX7_nextOrder_87, rX7_nextOrder_90, rX7_nextOrder_91, rX7_nextOrder_93, rX7_nextOrder_95, rX7_nextOrder_98, rX7_nextOrder_101, rX7_nextOrder_104, rX7_nextOrder_107, rX7_nextOrder_108, e_ald0, e_bin, e_callV3, e_get, e_goto, e_iald, e_icmp, e_if, e_ild1, e_ild2, e_ild3, e_ild4, e_ild5, e_inc2, e_inc3, e_inc4, e_inc5, e_ist2, e_ist3, e_ist4, e_ist5, e_nl0, e_nl1, e_nl2, e_push, e_pushn, e_pushs, e_retz, m_b0, m_b01, m_b1, m_em, Classical.not_not, Nat.reduceBEq, Nat.reduceLT, Nat.reduceLeDiff, Nat.reduceAdd, cond_true, cond_false, Bool.or_false, Bool.false_or, Bool.or_true, Bool.true_or, beq_iff_eq, true_and, and_true, true_or, or_true, forall_const, not_true_eq_false, not_false_eq_true, false_implies, implies_true, Nat.reduceEqDiff, List.length_nil, List.length_cons, ob_59, fv_59_0, fv_59_1, fs_59_1, fv_59_2, kd_61, ln_61, Int.toNat_natCast]
      rw [m_w2 (x := (k : Int) + 1) (by omega) (by omega), m_w2 (x := (n : Int) - 1) (by omega) (by omega), show (k : Int) + 1 = ((k + 1 : Nat) : Int) by omega, show (n : Int) - 1 = ((n - 1 : Nat) : Int) by omega]
      refine turn 6 (k + 1) (n - 1) k i _ g2 (by omega) (by omega) (by omega) c1 c2 ?_
      unfold nx
      rw [hk]
      simp only
      rw [← hab2, hab]
    induction i with
    | zero =>
      intro hi hab
      have := dn 0 hi rfl hab
      refine m_run_ok hJ (fun pc => pc == 4 || pc == 41 || pc == 67 || pc == 83) 60 _ _ _ _ ?_
      simp only [e_go, rX7_nextOrder_0, rX7_nextOrder_1, rX7_nextOrder_2, rX7_nextOrder_3, rX7_nextOrder_4, rX7_nextOrder_5, rX7_nextOrder_8, rX7_nextOrder_9, rX7_nextOrder_12, rX7_nextOrder_13, rX7_nextOrder_14, rX7_nextOrder_15, rX7_nextOrder_18, rX7_nextOrder_19, rX7_nextOrder_20, rX7_nextOrder_21, rX7_nextOrder_22, rX7_nextOrder_25, rX7_nextOrder_28, rX7_nextOrder_31, rX7_nextOrder_32, rX7_nextOrder_35, rX7_nextOrder_36, rX7_nextOrder_37, rX7_nextOrder_38, rX7_nextOrder_39, rX7_nextOrder_40, rX7_nextOrder_41, rX7_nextOrder_42, rX7_nextOrder_43, rX7_nextOrder_46, rX7_nextOrder_47, rX7_nextOrder_50, rX7_nextOrder_51, rX7_nextOrder_52, rX7_nextOrder_53, rX7_nextOrder_56, rX7_nextOrder_57, rX7_nextOrder_58, rX7_nextOrder_61, rX7_nextOrder_64, rX7_nextOrder_67, rX7_nextOrder_68, rX7_nextOrder_69, rX7_nextOrder_70, rX7_nextOrder_73, rX7_nextOrder_74, rX7_nextOrder_75, rX7_nextOrder_76, rX7_nextOrder_78, rX7_nextOrder_79, rX7_nextOrder_80, rX7_nextOrder_81, rX7_nextOrder_83, rX7_nextOrder_85, rX7_nextOrder_87, rX7_nextOrder_90, rX7_nextOrder_91, rX7_nextOrder_93, rX7_nextOrder_95, rX7_nextOrder_98, rX7_nextOrder_101, rX7_nextOrder_104, rX7_nextOrder_107, rX7_nextOrder_108, e_ald0, e_bin, e_callV3, e_get, e_goto, e_iald, e_icmp, e_if, e_ild1, e_ild2, e_ild3, e_ild4, e_ild5, e_inc2, e_inc3, e_inc4, e_inc5, e_ist2, e_ist3, e_ist4, e_ist5, e_nl0, e_nl1, e_nl2, e_push, e_pushn, e_pushs, e_retz, m_b0, m_b01, m_b1, m_em, Classical.not_not, Nat.reduceBEq, Nat.reduceLT, Nat.reduceLeDiff, Nat.reduceAdd, cond_true, cond_false, Bool.or_false, Bool.false_or, Bool.or_true, Bool.true_or, beq_iff_eq, true_and, and_true, true_or, or_true, forall_const, not_true_eq_false, not_false_eq_true, false_implies, implies_true, Nat.reduceEqDiff, List.length_nil, List.length_cons, ob_59, fv_59_0, fv_59_1, fs_59_1, fv_59_2, kd_61, ln_61, Int.toNat_natCast]
      exact ⟨fun _ => this, fun y => absurd y (by omega)⟩
    | succ i ih =>
      intro hi hab
      have d := dn (i + 1) hi
      simp only [nx_above] at hab d
      refine m_run_ok hJ (fun pc => pc == 4 || pc == 41 || pc == 67 || pc == 83) 60 _ _ _ _ ?_
      simp only [e_go, rX7_nextOrder_0, rX7_nextOrder_1, rX7_nextOrder_2, rX7_nextOrder_3, rX7_nextOrder_4, rX7_nextOrder_5, rX7_nextOrder_8, rX7_nextOrder_9, rX7_nextOrder_12, rX7_nextOrder_13, rX7_nextOrder_14, rX7_nextOrder_15, rX7_nextOrder_18, rX7_nextOrder_19, rX7_nextOrder_20, rX7_nextOrder_21, rX7_nextOrder_22, rX7_nextOrder_25, rX7_nextOrder_28, rX7_nextOrder_31, rX7_nextOrder_32, rX7_nextOrder_35, rX7_nextOrder_36, rX7_nextOrder_37, rX7_nextOrder_38, rX7_nextOrder_39, rX7_nextOrder_40, rX7_nextOrder_41, rX7_nextOrder_42, rX7_nextOrder_43, rX7_nextOrder_46, rX7_nextOrder_47, rX7_nextOrder_50, rX7_nextOrder_51, rX7_nextOrder_52, rX7_nextOrder_53, rX7_nextOrder_56, rX7_nextOrder_57, rX7_nextOrder_58, rX7_nextOrder_61, rX7_nextOrder_64, rX7_nextOrder_67, rX7_nextOrder_68, rX7_nextOrder_69, rX7_nextOrder_70, rX7_nextOrder_73, rX7_nextOrder_74, rX7_nextOrder_75, rX7_nextOrder_76, rX7_nextOrder_78, rX7_nextOrder_79, rX7_nextOrder_80, rX7_nextOrder_81, rX7_nextOrder_83, rX7_nextOrder_85, rX7_nextOrder_87, rX7_nextOrder_90, rX7_nextOrder_91, rX7_nextOrder_93, rX7_nextOrder_95, rX7_nextOrder_98, rX7_nextOrder_101, rX7_nextOrder_104, rX7_nextOrder_107, rX7_nextOrder_108, e_ald0, e_bin, e_callV3, e_get, e_goto, e_iald, e_icmp, e_if, e_ild1, e_ild2, e_ild3, e_ild4, e_ild5, e_inc2, e_inc3, e_inc4, e_inc5, e_ist2, e_ist3, e_ist4, e_ist5, e_nl0, e_nl1, e_nl2, e_push, e_pushn, e_pushs, e_retz, m_b0, m_b01, m_b1, m_em, Classical.not_not, Nat.reduceBEq, Nat.reduceLT, Nat.reduceLeDiff, Nat.reduceAdd, cond_true, cond_false, Bool.or_false, Bool.false_or, Bool.or_true, Bool.true_or, beq_iff_eq, true_and, and_true, true_or, or_true, forall_const, not_true_eq_false, not_false_eq_true, false_implies, implies_true, Nat.reduceEqDiff, List.length_nil, List.length_cons, ob_59, fv_59_0, fv_59_1, fs_59_1, fv_59_2, kd_61, ln_61, Int.toNat_natCast]
      rw [hf (i + 1) hi, hf k (by omega), m_w1 (x := ((i + 1 : Nat) : Int) + -1) (by omega) (by omega), show ((i + 1 : Nat) : Int) + -1 = (i : Int) by omega]
      refine ⟨fun c => ?_, fun c => ⟨by omega, by omega, fun c2 => ?_, fun c2 => ?_⟩⟩
      · rw [if_neg (by omega)] at hab d
        exact d rfl hab
      · rw [if_neg (by omega)] at hab d
        exact d rfl hab
      · rw [if_pos (by omega)] at hab
        exact ih (by omega) hab
  have fall : ∀ (i : Nat) (z : Int), (z = (i : Int) - 1 ∨ (i = 0 ∧ z < 0)) → -5 ≤ z → i < max 1 n → nx_fall f i = nx_fall f (n - 1) → J 4 [some (.inr (.inr 59)), some (.inl n), some (.inl z), none, none, none] [] g := by
    intro i
    induction i with
    | zero =>
      intro z hz hz5 hi he
      have h0' := h0 (by unfold nx; rw [← he]; rfl)
      refine m_run_ok hJ (fun pc => pc == 4 || pc == 41 || pc == 67 || pc == 83) 60 _ _ _ _ ?_
      simp only [e_go, rX7_nextOrder_0, rX7_nextOrder_1, rX7_nextOrder_2, rX7_nextOrder_3, rX7_nextOrder_4, rX7_nextOrder_5, rX7_nextOrder_8, rX7_nextOrder_9, rX7_nextOrder_12, rX7_nextOrder_13, rX7_nextOrder_14, rX7_nextOrder_15, rX7_nextOrder_18, rX7_nextOrder_19, rX7_nextOrder_20, rX7_nextOrder_21, rX7_nextOrder_22, rX7_nextOrder_25, rX7_nextOrder_28, rX7_nextOrder_31, rX7_nextOrder_32, rX7_nextOrder_35, rX7_nextOrder_36, rX7_nextOrder_37, rX7_nextOrder_38, rX7_nextOrder_39, rX7_nextOrder_40, rX7_nextOrder_41, rX7_nextOrder_42, rX7_nextOrder_43, rX7_nextOrder_46, rX7_nextOrder_47, rX7_nextOrder_50, rX7_nextOrder_51, rX7_nextOrder_52, rX7_nextOrder_53, rX7_nextOrder_56, rX7_nextOrder_57, rX7_nextOrder_58, rX7_nextOrder_61, rX7_nextOrder_64, rX7_nextOrder_67, rX7_nextOrder_68, rX7_nextOrder_69, rX7_nextOrder_70, rX7_nextOrder_73, rX7_nextOrder_74, rX7_nextOrder_75, rX7_nextOrder_76, rX7_nextOrder_78, rX7_nextOrder_79, rX7_nextOrder_80, rX7_nextOrder_81, rX7_nextOrder_83, rX7_nextOrder_85, rX7_nextOrder_87, rX7_nextOrder_90, rX7_nextOrder_91, rX7_nextOrder_93, rX7_nextOrder_95, rX7_nextOrder_98, rX7_nextOrder_101, rX7_nextOrder_104, rX7_nextOrder_107, rX7_nextOrder_108, e_ald0, e_bin, e_callV3, e_get, e_goto, e_iald, e_icmp, e_if, e_ild1, e_ild2, e_ild3, e_ild4, e_ild5, e_inc2, e_inc3, e_inc4, e_inc5, e_ist2, e_ist3, e_ist4, e_ist5, e_nl0, e_nl1, e_nl2, e_push, e_pushn, e_pushs, e_retz, m_b0, m_b01, m_b1, m_em, Classical.not_not, Nat.reduceBEq, Nat.reduceLT, Nat.reduceLeDiff, Nat.reduceAdd, cond_true, cond_false, Bool.or_false, Bool.false_or, Bool.or_true, Bool.true_or, beq_iff_eq, true_and, and_true, true_or, or_true, forall_const, not_true_eq_false, not_false_eq_true, false_implies, implies_true, Nat.reduceEqDiff, List.length_nil, List.length_cons, ob_59, fv_59_0, fv_59_1, fs_59_1, fv_59_2, kd_61, ln_61, Int.toNat_natCast]
      exact ⟨fun _ => ⟨fun y => absurd y (by omega), fun _ => h0'⟩, fun y => absurd y (by omega)⟩
    | succ i ih =>
      intro z hz hz5 hi he
      have ez : z = (i : Int) := by omega
      subst ez
      simp only [nx_fall] at he
      refine m_run_ok hJ (fun pc => pc == 4 || pc == 41 || pc == 67 || pc == 83) 60 _ _ _ _ ?_
      simp only [e_go, rX7_nextOrder_0, rX7_nextOrder_1, rX7_nextOrder_2, rX7_nextOrder_3, rX7_nextOrder_4, rX7_nextOrder_5, rX7_nextOrder_8, rX7_nextOrder_9, rX7_nextOrder_12, rX7_nextOrder_13, rX7_nextOrder_14, rX7_nextOrder_15, rX7_nextOrder_18, rX7_nextOrder_19, rX7_nextOrder_20, rX7_nextOrder_21, rX7_nextOrder_22, rX7_nextOrder_25, rX7_nextOrder_28, rX7_nextOrder_31, rX7_nextOrder_32, rX7_nextOrder_35, rX7_nextOrder_36, rX7_nextOrder_37, rX7_nextOrder_38, rX7_nextOrder_39, rX7_nextOrder_40, rX7_nextOrder_41, rX7_nextOrder_42, rX7_nextOrder_43, rX7_nextOrder_46, rX7_nextOrder_47, rX7_nextOrder_50, rX7_nextOrder_51, rX7_nextOrder_52, rX7_nextOrder_53, rX7_nextOrder_56, rX7_nextOrder_57, rX7_nextOrder_58, rX7_nextOrder_61, rX7_nextOrder_64, rX7_nextOrder_67, rX7_nextOrder_68, rX7_nextOrder_69, rX7_nextOrder_70, rX7_nextOrder_73, rX7_nextOrder_74, rX7_nextOrder_75, rX7_nextOrder_76, rX7_nextOrder_78, rX7_nextOrder_79, rX7_nextOrder_80, rX7_nextOrder_81, rX7_nextOrder_83, rX7_nextOrder_85, rX7_nextOrder_87, rX7_nextOrder_90, rX7_nextOrder_91, rX7_nextOrder_93, rX7_nextOrder_95, rX7_nextOrder_98, rX7_nextOrder_101, rX7_nextOrder_104, rX7_nextOrder_107, rX7_nextOrder_108, e_ald0, e_bin, e_callV3, e_get, e_goto, e_iald, e_icmp, e_if, e_ild1, e_ild2, e_ild3, e_ild4, e_ild5, e_inc2, e_inc3, e_inc4, e_inc5, e_ist2, e_ist3, e_ist4, e_ist5, e_nl0, e_nl1, e_nl2, e_push, e_pushn, e_pushs, e_retz, m_b0, m_b01, m_b1, m_em, Classical.not_not, Nat.reduceBEq, Nat.reduceLT, Nat.reduceLeDiff, Nat.reduceAdd, cond_true, cond_false, Bool.or_false, Bool.false_or, Bool.or_true, Bool.true_or, beq_iff_eq, true_and, and_true, true_or, or_true, forall_const, not_true_eq_false, not_false_eq_true, false_implies, implies_true, Nat.reduceEqDiff, List.length_nil, List.length_cons, ob_59, fv_59_0, fv_59_1, fs_59_1, fv_59_2, kd_61, ln_61, Int.toNat_natCast]
      rw [m_w2 (x := (i : Int) + 1) (by omega) (by omega), show (i : Int) + 1 = ((i + 1 : Nat) : Int) by omega, Int.toNat_natCast, hf i (by omega), hf (i + 1) (by omega), m_w2 (x := (n : Int) - 1) (by omega) (by omega), show (n : Int) - 1 = ((n - 1 : Nat) : Int) by omega, m_w1 (x := (i : Int) + -1) (by omega) (by omega)]
      refine ⟨fun c => absurd c (by omega), fun _ => ⟨by omega, by omega, fun c => ⟨fun _ => ?_, fun y => absurd y (by omega)⟩, fun c => ?_⟩⟩
      · rw [if_neg (by omega)] at he
        exact above (n - 1) i he.symm (by omega) rfl
      · rw [if_pos (by omega)] at he
        exact ih _ (by omega) (by omega) (by omega) he
  refine m_run_ok hJ (fun pc => pc == 4 || pc == 41 || pc == 67 || pc == 83) 60 _ _ _ _ ?_
  simp only [e_go, rX7_nextOrder_0, rX7_nextOrder_1, rX7_nextOrder_2, rX7_nextOrder_3, rX7_nextOrder_4, rX7_nextOrder_5, rX7_nextOrder_8, rX7_nextOrder_9, rX7_nextOrder_12, rX7_nextOrder_13, rX7_nextOrder_14, rX7_nextOrder_15, rX7_nextOrder_18, rX7_nextOrder_19, rX7_nextOrder_20, rX7_nextOrder_21, rX7_nextOrder_22, rX7_nextOrder_25, rX7_nextOrder_28, rX7_nextOrder_31, rX7_nextOrder_32, rX7_nextOrder_35, rX7_nextOrder_36, rX7_nextOrder_37, rX7_nextOrder_38, rX7_nextOrder_39, rX7_nextOrder_40, rX7_nextOrder_41, rX7_nextOrder_42, rX7_nextOrder_43, rX7_nextOrder_46, rX7_nextOrder_47, rX7_nextOrder_50, rX7_nextOrder_51, rX7_nextOrder_52, rX7_nextOrder_53, rX7_nextOrder_56, rX7_nextOrder_57, rX7_nextOrder_58, rX7_nextOrder_61, rX7_nextOrder_64, rX7_nextOrder_67, rX7_nextOrder_68, rX7_nextOrder_69, rX7_nextOrder_70, rX7_nextOrder_73, rX7_nextOrder_74, rX7_nextOrder_75, rX7_nextOrder_76, rX7_nextOrder_78, rX7_nextOrder_79, rX7_nextOrder_80, rX7_nextOrder_81, rX7_nextOrder_83, rX7_nextOrder_85, rX7_nextOrder_87, rX7_nextOrder_90, rX7_nextOrder_91, rX7_nextOrder_93, rX7_nextOrder_95, rX7_nextOrder_98, rX7_nextOrder_101, rX7_nextOrder_104, rX7_nextOrder_107, rX7_nextOrder_108, e_ald0, e_bin, e_callV3, e_get, e_goto, e_iald, e_icmp, e_if, e_ild1, e_ild2, e_ild3, e_ild4, e_ild5, e_inc2, e_inc3, e_inc4, e_inc5, e_ist2, e_ist3, e_ist4, e_ist5, e_nl0, e_nl1, e_nl2, e_push, e_pushn, e_pushs, e_retz, m_b0, m_b01, m_b1, m_em, Classical.not_not, Nat.reduceBEq, Nat.reduceLT, Nat.reduceLeDiff, Nat.reduceAdd, cond_true, cond_false, Bool.or_false, Bool.false_or, Bool.or_true, Bool.true_or, beq_iff_eq, true_and, and_true, true_or, or_true, forall_const, not_true_eq_false, not_false_eq_true, false_implies, implies_true, Nat.reduceEqDiff, List.length_nil, List.length_cons, ob_59, fv_59_0, fv_59_1, fs_59_1, fv_59_2, kd_61, ln_61, Int.toNat_natCast]
  rw [m_w1 (x := (n : Int) - 2) (by omega) (by omega)]
  exact fall (n - 1) _ (by omega) (by omega) (by omega) rfl
theorem q8_weave {g A : m_G} {q : m_Post} (hM : c_M g A) (hW : h_W (A 68)) (h : ∀ g', k_E g g' A → q (some (.inl (wvo (A 68) id (A 68 1).toNat))) g') : wX8_weave.1 [.inr (.inr 0)] g q := by
  obtain ⟨b, h1⟩ : ∃ b : Nat, b = 1 := ⟨1, rfl⟩
  have hb : m_hs b := Or.inl h1
  have hR : h_R g b (A 68) := h1 ▸ hM.1.1
  have hZ : h_Z g b := h1 ▸ hM.1.2
  have hz := hW.1
  refine m_wp_of (by simp [m_fit]) (fun J hJ => ?_)
  simp only [m_ini, Nat.reduceSub, List.replicate]
  refine m_run_ok hJ (fun _ => false) 60 _ _ _ _ ?_
  simp only [e_go, rX8_weave_0, rX8_weave_1, rX8_weave_4, rX8_weave_5, rX8_weave_8, rX8_weave_11, e_ald0, e_callV2, e_get, e_pushn, e_pushs, e_ret, m_b0, m_b01, m_b1, m_em, Classical.not_not, Nat.reduceBEq, Nat.reduceLT, Nat.reduceLeDiff, Nat.reduceAdd, cond_true, cond_false, Bool.or_false, Bool.false_or, Bool.or_true, Bool.true_or, beq_iff_eq, true_and, and_true, true_or, or_true, forall_const, not_true_eq_false, not_false_eq_true, false_implies, implies_true, Nat.reduceEqDiff, List.length_nil, List.length_cons, ob_0, fv00 h1, fv_0_5, obH hb, fvH0 hb, fsH0 hb, fvH1 hb, fsH1 hb, fvH2 hb, fvH3 hb, fvH4 hb, fvH5 hb, fvH6 hb, fvH7 hb, kdH1 hb, lnH1 hb, ltH1 hb, kdH2 hb, lnH2 hb, ltH2 hb, kdH3 hb, lnH3 hb, ltH3 hb, kdH4 hb, lnH4 hb, ltH4 hb, kdH5 hb, lnH5 hb, ltH5 hb, kdH6 hb, lnH6 hb, ltH6 hb, ob_59, fv_59_0, fv_59_1, fs_59_1, fv_59_2]
  have wn : ∀ q2 : m_Post, (∀ g', (∀ j, j ≠ 61 → g' j = g j) → q2 (some (.inl (wvo (A 68) id (A 68 1).toNat))) g') → wX7_weaveNow.1 [.inr (.inr 59), .inr (.inr b)] g q2 := by
    intro q2 h2
    refine m_wp_of (by simp [m_fit]) (fun J2 hJ2 => ?_)
    simp only [m_ini, Nat.reduceSub, List.replicate]
    refine m_run_ok hJ2 (fun _ => false) 60 _ _ _ _ ?_
    simp only [e_go, rX7_weaveNow_0, rX7_weaveNow_1, rX7_weaveNow_4, rX7_weaveNow_5, rX7_weaveNow_6, rX7_weaveNow_9, e_ald0, e_ald1, e_callV1, e_callV2, e_pushn, e_pushs, e_ret, m_b0, m_b01, m_b1, m_em, Classical.not_not, Nat.reduceBEq, Nat.reduceLT, Nat.reduceLeDiff, Nat.reduceAdd, cond_true, cond_false, Bool.or_false, Bool.false_or, Bool.or_true, Bool.true_or, beq_iff_eq, true_and, and_true, true_or, or_true, forall_const, not_true_eq_false, not_false_eq_true, false_implies, implies_true, Nat.reduceEqDiff, List.length_nil, List.length_cons, ob_59, fv_59_0, fv_59_1, fs_59_1, fv_59_2, obH hb, fvH0 hb, fsH0 hb, fvH1 hb, fsH1 hb, fvH2 hb, fvH3 hb, fvH4 hb, fvH5 hb, fvH6 hb, fvH7 hb, kdH1 hb, lnH1 hb, ltH1 hb, kdH2 hb, lnH2 hb, ltH2 hb, kdH3 hb, lnH3 hb, ltH3 hb, kdH4 hb, lnH4 hb, ltH4 hb, kdH5 hb, lnH5 hb, ltH5 hb, kdH6 hb, lnH6 hb, ltH6 hb]
    refine p7_startOrder (fun g1 c1 c2 => ?_)
    simp only [e_go, rX7_weaveNow_0, rX7_weaveNow_1, rX7_weaveNow_4, rX7_weaveNow_5, rX7_weaveNow_6, rX7_weaveNow_9, e_ald0, e_ald1, e_callV1, e_callV2, e_pushn, e_pushs, e_ret, m_b0, m_b01, m_b1, m_em, Classical.not_not, Nat.reduceBEq, Nat.reduceLT, Nat.reduceLeDiff, Nat.reduceAdd, cond_true, cond_false, Bool.or_false, Bool.false_or, Bool.or_true, Bool.true_or, beq_iff_eq, true_and, and_true, true_or, or_true, forall_const, not_true_eq_false, not_false_eq_true, false_implies, implies_true, Nat.reduceEqDiff, List.length_nil, List.length_cons, ob_59, fv_59_0, fv_59_1, fs_59_1, fv_59_2, obH hb, fvH0 hb, fsH0 hb, fvH1 hb, fsH1 hb, fvH2 hb, fvH3 hb, fvH4 hb, fvH5 hb, fvH6 hb, fvH7 hb, kdH1 hb, lnH1 hb, ltH1 hb, kdH2 hb, lnH2 hb, ltH2 hb, kdH3 hb, lnH3 hb, ltH3 hb, kdH4 hb, lnH4 hb, ltH4 hb, kdH5 hb, lnH5 hb, ltH5 hb, kdH6 hb, lnH6 hb, ltH6 hb]
    refine p7_weaveOf hb (hR.same (fun j hj => c1 _ (by omega))) hW (f := id) (fun i hi => c2 i (by omega)) (fun i hi => hi) ?_
    simp only [e_go, rX7_weaveNow_0, rX7_weaveNow_1, rX7_weaveNow_4, rX7_weaveNow_5, rX7_weaveNow_6, rX7_weaveNow_9, e_ald0, e_ald1, e_callV1, e_callV2, e_pushn, e_pushs, e_ret, m_b0, m_b01, m_b1, m_em, Classical.not_not, Nat.reduceBEq, Nat.reduceLT, Nat.reduceLeDiff, Nat.reduceAdd, cond_true, cond_false, Bool.or_false, Bool.false_or, Bool.or_true, Bool.true_or, beq_iff_eq, true_and, and_true, true_or, or_true, forall_const, not_true_eq_false, not_false_eq_true, false_implies, implies_true, Nat.reduceEqDiff, List.length_nil, List.length_cons, ob_59, fv_59_0, fv_59_1, fs_59_1, fv_59_2, obH hb, fvH0 hb, fsH0 hb, fvH1 hb, fsH1 hb, fvH2 hb, fvH3 hb, fvH4 hb, fvH5 hb, fvH6 hb, fvH7 hb, kdH1 hb, lnH1 hb, ltH1 hb, kdH2 hb, lnH2 hb, ltH2 hb, kdH3 hb, lnH3 hb, ltH3 hb, kdH4 hb, lnH4 hb, ltH4 hb, kdH5 hb, lnH5 hb, ltH5 hb, kdH6 hb, lnH6 hb, ltH6 hb]
    exact h2 g1 c1
  refine wn _ (fun g' c1 => ?_)
  simp only [e_go, rX8_weave_0, rX8_weave_1, rX8_weave_4, rX8_weave_5, rX8_weave_8, rX8_weave_11, e_ald0, e_callV2, e_get, e_pushn, e_pushs, e_ret, m_b0, m_b01, m_b1, m_em, Classical.not_not, Nat.reduceBEq, Nat.reduceLT, Nat.reduceLeDiff, Nat.reduceAdd, cond_true, cond_false, Bool.or_false, Bool.false_or, Bool.or_true, Bool.true_or, beq_iff_eq, true_and, and_true, true_or, or_true, forall_const, not_true_eq_false, not_false_eq_true, false_implies, implies_true, Nat.reduceEqDiff, List.length_nil, List.length_cons, ob_0, fv00 h1, fv_0_5, obH hb, fvH0 hb, fsH0 hb, fvH1 hb, fsH1 hb, fvH2 hb, fvH3 hb, fvH4 hb, fvH5 hb, fvH6 hb, fvH7 hb, kdH1 hb, lnH1 hb, ltH1 hb, kdH2 hb, lnH2 hb, ltH2 hb, kdH3 hb, lnH3 hb, ltH3 hb, kdH4 hb, lnH4 hb, ltH4 hb, kdH5 hb, lnH5 hb, ltH5 hb, kdH6 hb, lnH6 hb, ltH6 hb, ob_59, fv_59_0, fv_59_1, fs_59_1, fv_59_2]
  exact h g' (hM.same (fun j hj => c1 j (by omega)))
