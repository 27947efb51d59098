set_option maxRecDepth 20000
set_option maxHeartbeats 2000000
theorem wd_b {s : Nat → Int} (hW : h_W s) {l : Nat} (hl : (l : Int) < s 1) : ∀ k, k < 4 → 0 ≤ wd s l k ∧ wd s l k ≤ 31
  | 0, _ => by
    have h := hW.2.2.2.1 l hl
    have h0 := h.1 0 (by omega)
    simp only [wd, Nat.add_zero] at *
    omega
  | k + 1, hk => by
    have h := (hW.2.2.2.1 l hl).1 (k + 1) hk
    have ih := wd_b hW hl k (by omega)
    simp only [wd]
    split
    · exact ih
    · omega
theorem d_wd_b {s : Nat → Int} (hW : h_W s) {l : Nat} (hl : (l : Int) < s 1) (now : Nat) : 0 ≤ d_wd s l now ∧ d_wd s l now ≤ 31 := by
  unfold d_wd d_q
  exact wd_b hW hl _ (by split <;> omega)
theorem p9_rank {l now : Nat} {t : Int} {s : Nat → Int} {n0 : Nat} {σ : d_S} {g : m_G} {q : m_Post} (hs : g 68 = s) (hl : (l : Int) < s 1) (hn : now < 7200) (hW : h_W s) (hR : r_R g σ) (hI : d_I s n0 σ) (hn0 : n0 ≤ 7200) (h : q (some (.inl (d_rank s σ l now))) g) : wX9_rank.1 [.inr (.inr 66), .inl l, .inl t, .inl now] g q := by
  have hl6 : l < 6 := by have := hW.1.2; omega
  have r1 := (hR.1 l hl6).1.1
  have i1 := (hI.1 l hl6).1.1
  have w7 := hW.2.1.2.2.2.2.2.1.2
  have hwb := d_wd_b hW hl now
  refine m_wp_of (by simp [m_fit]) (fun J hJ => ?_)
  simp only [m_ini, Nat.reduceSub, List.replicate]
  refine m_run_ok hJ (fun _ => false) 40 _ _ _ _ ?_
  simp only [e_go, rX9_rank_0, rX9_rank_1, rX9_rank_2, rX9_rank_5, rX9_rank_36, rX9_rank_38, rX9_rank_39, rX9_rank_40, rX9_rank_41, rX9_rank_44, rX9_rank_47, rX9_rank_48, rX9_rank_49, rX9_rank_52, rX9_rank_53, rX9_rank_54, rX9_rank_55, rX9_rank_56, rX9_rank_57, rX9_rank_58, rX9_rank_59, rX9_rank_62, rX9_rank_63, rX9_rank_64, rX9_rank_65, rX9_rank_66, rX9_rank_67, rX9_rank_68, rX9_rank_69, rX9_rank_72, rX9_rank_73, rX9_rank_74, e_ald0, e_bin, e_callS1, e_callV2, e_callV3, e_get, e_iald, e_ild1, e_ild3, e_neg, e_push, e_pushn, e_pushs, e_ret, e_sw, e_swc, e_swn, m_b0, m_b01, m_b1, m_em, Classical.not_not, Nat.reduceBEq, Nat.reduceLT, Nat.reduceLeDiff, Nat.reduceAdd, cond_true, cond_false, Bool.or_false, Bool.false_or, Bool.or_true, Bool.true_or, beq_iff_eq, true_and, and_true, true_or, or_true, forall_const, not_true_eq_false, not_false_eq_true, false_implies, implies_true, Nat.reduceEqDiff, List.length_nil, List.length_cons, ob_66, fv_66_0, fv_66_1, fv_66_2, fv_66_3, fv_66_4, fv_66_5, fs_66_5, fv_66_6, fv_66_7, fv_66_8, fs_66_8, fv_66_9, fs_66_9, fv_66_10, fv_66_11, fv_66_12, fv_66_13, fv_66_14, fv_66_15, fv_66_16, fv_66_17, fv_66_18, fv_66_19, fv_66_20, fv_66_21, fv_66_22, fv_66_23, fs_66_23, fv_66_24, fs_66_24, fv_66_25, fs_66_25, fv_66_26, fs_66_26, fv_66_27, fs_66_27, fv_66_28, fs_66_28, fv_66_29, fv_66_30, fv_66_31, fs_66_31, fv_66_32, fv_66_33, fv_66_34, fs_66_34, kd_78, ln_78, Int.toNat_natCast]
  refine p9_setOf (k := 4) (by omega) ?_
  simp only [e_go, rX9_rank_0, rX9_rank_1, rX9_rank_2, rX9_rank_5, rX9_rank_36, rX9_rank_38, rX9_rank_39, rX9_rank_40, rX9_rank_41, rX9_rank_44, rX9_rank_47, rX9_rank_48, rX9_rank_49, rX9_rank_52, rX9_rank_53, rX9_rank_54, rX9_rank_55, rX9_rank_56, rX9_rank_57, rX9_rank_58, rX9_rank_59, rX9_rank_62, rX9_rank_63, rX9_rank_64, rX9_rank_65, rX9_rank_66, rX9_rank_67, rX9_rank_68, rX9_rank_69, rX9_rank_72, rX9_rank_73, rX9_rank_74, e_ald0, e_bin, e_callS1, e_callV2, e_callV3, e_get, e_iald, e_ild1, e_ild3, e_neg, e_push, e_pushn, e_pushs, e_ret, e_sw, e_swc, e_swn, m_b0, m_b01, m_b1, m_em, Classical.not_not, Nat.reduceBEq, Nat.reduceLT, Nat.reduceLeDiff, Nat.reduceAdd, cond_true, cond_false, Bool.or_false, Bool.false_or, Bool.or_true, Bool.true_or, beq_iff_eq, true_and, and_true, true_or, or_true, forall_const, not_true_eq_false, not_false_eq_true, false_implies, implies_true, Nat.reduceEqDiff, List.length_nil, List.length_cons, ob_66, fv_66_0, fv_66_1, fv_66_2, fv_66_3, fv_66_4, fv_66_5, fs_66_5, fv_66_6, fv_66_7, fv_66_8, fs_66_8, fv_66_9, fs_66_9, fv_66_10, fv_66_11, fv_66_12, fv_66_13, fv_66_14, fv_66_15, fv_66_16, fv_66_17, fv_66_18, fv_66_19, fv_66_20, fv_66_21, fv_66_22, fv_66_23, fs_66_23, fv_66_24, fs_66_24, fv_66_25, fs_66_25, fv_66_26, fs_66_26, fv_66_27, fs_66_27, fv_66_28, fs_66_28, fv_66_29, fv_66_30, fv_66_31, fs_66_31, fv_66_32, fv_66_33, fv_66_34, fs_66_34, kd_78, ln_78, Int.toNat_natCast]
  rw [hs]
  unfold d_rank at h
  refine ⟨fun c => ?_, fun c => ⟨fun c2 => ?_, fun c2 => ⟨fun c3 => ?_, fun c3 => ⟨fun c4 => ?_, fun c4 => ?_⟩⟩⟩⟩
  · rw [if_pos c] at h
    refine p9_wordAt hl6 hn ?_
    simp only [e_go, rX9_rank_0, rX9_rank_1, rX9_rank_2, rX9_rank_5, rX9_rank_36, rX9_rank_38, rX9_rank_39, rX9_rank_40, rX9_rank_41, rX9_rank_44, rX9_rank_47, rX9_rank_48, rX9_rank_49, rX9_rank_52, rX9_rank_53, rX9_rank_54, rX9_rank_55, rX9_rank_56, rX9_rank_57, rX9_rank_58, rX9_rank_59, rX9_rank_62, rX9_rank_63, rX9_rank_64, rX9_rank_65, rX9_rank_66, rX9_rank_67, rX9_rank_68, rX9_rank_69, rX9_rank_72, rX9_rank_73, rX9_rank_74, e_ald0, e_bin, e_callS1, e_callV2, e_callV3, e_get, e_iald, e_ild1, e_ild3, e_neg, e_push, e_pushn, e_pushs, e_ret, e_sw, e_swc, e_swn, m_b0, m_b01, m_b1, m_em, Classical.not_not, Nat.reduceBEq, Nat.reduceLT, Nat.reduceLeDiff, Nat.reduceAdd, cond_true, cond_false, Bool.or_false, Bool.false_or, Bool.or_true, Bool.true_or, beq_iff_eq, true_and, and_true, true_or, or_true, forall_const, not_true_eq_false, not_false_eq_true, false_implies, implies_true, Nat.reduceEqDiff, List.length_nil, List.length_cons, ob_66, fv_66_0, fv_66_1, fv_66_2, fv_66_3, fv_66_4, fv_66_5, fs_66_5, fv_66_6, fv_66_7, fv_66_8, fs_66_8, fv_66_9, fs_66_9, fv_66_10, fv_66_11, fv_66_12, fv_66_13, fv_66_14, fv_66_15, fv_66_16, fv_66_17, fv_66_18, fv_66_19, fv_66_20, fv_66_21, fv_66_22, fv_66_23, fs_66_23, fv_66_24, fs_66_24, fv_66_25, fs_66_25, fv_66_26, fs_66_26, fv_66_27, fs_66_27, fv_66_28, fs_66_28, fv_66_29, fv_66_30, fv_66_31, fs_66_31, fv_66_32, fv_66_33, fv_66_34, fs_66_34, kd_78, ln_78, Int.toNat_natCast]
    rw [hs]
    refine p9_bits hwb.1 hwb.2 ?_
    simp only [e_go, rX9_rank_0, rX9_rank_1, rX9_rank_2, rX9_rank_5, rX9_rank_36, rX9_rank_38, rX9_rank_39, rX9_rank_40, rX9_rank_41, rX9_rank_44, rX9_rank_47, rX9_rank_48, rX9_rank_49, rX9_rank_52, rX9_rank_53, rX9_rank_54, rX9_rank_55, rX9_rank_56, rX9_rank_57, rX9_rank_58, rX9_rank_59, rX9_rank_62, rX9_rank_63, rX9_rank_64, rX9_rank_65, rX9_rank_66, rX9_rank_67, rX9_rank_68, rX9_rank_69, rX9_rank_72, rX9_rank_73, rX9_rank_74, e_ald0, e_bin, e_callS1, e_callV2, e_callV3, e_get, e_iald, e_ild1, e_ild3, e_neg, e_push, e_pushn, e_pushs, e_ret, e_sw, e_swc, e_swn, m_b0, m_b01, m_b1, m_em, Classical.not_not, Nat.reduceBEq, Nat.reduceLT, Nat.reduceLeDiff, Nat.reduceAdd, cond_true, cond_false, Bool.or_false, Bool.false_or, Bool.or_true, Bool.true_or, beq_iff_eq, true_and, and_true, true_or, or_true, forall_const, not_true_eq_false, not_false_eq_true, false_implies, implies_true, Nat.reduceEqDiff, List.length_nil, List.length_cons, ob_66, fv_66_0, fv_66_1, fv_66_2, fv_66_3, fv_66_4, fv_66_5, fs_66_5, fv_66_6, fv_66_7, fv_66_8, fs_66_8, fv_66_9, fs_66_9, fv_66_10, fv_66_11, fv_66_12, fv_66_13, fv_66_14, fv_66_15, fv_66_16, fv_66_17, fv_66_18, fv_66_19, fv_66_20, fv_66_21, fv_66_22, fv_66_23, fs_66_23, fv_66_24, fs_66_24, fv_66_25, fs_66_25, fv_66_26, fs_66_26, fv_66_27, fs_66_27, fv_66_28, fs_66_28, fv_66_29, fv_66_30, fv_66_31, fs_66_31, fv_66_32, fv_66_33, fv_66_34, fs_66_34, kd_78, ln_78, Int.toNat_natCast]
    rw [r1]
    have hb : 0 ≤ d_bits (d_wd s l now) ∧ d_bits (d_wd s l now) ≤ 5 := by unfold d_bits; omega
    rw [m_w2 (x := 100 * d_bits (d_wd s l now)) (by omega) (by omega), m_w2 (by omega) (by omega)]
    exact ⟨by omega, h⟩
  · rw [if_neg c, if_pos c2] at h
    refine p9_loadOf hl6 hn hW hR hI hn0 ?_
    simp only [e_go, rX9_rank_0, rX9_rank_1, rX9_rank_2, rX9_rank_5, rX9_rank_36, rX9_rank_38, rX9_rank_39, rX9_rank_40, rX9_rank_41, rX9_rank_44, rX9_rank_47, rX9_rank_48, rX9_rank_49, rX9_rank_52, rX9_rank_53, rX9_rank_54, rX9_rank_55, rX9_rank_56, rX9_rank_57, rX9_rank_58, rX9_rank_59, rX9_rank_62, rX9_rank_63, rX9_rank_64, rX9_rank_65, rX9_rank_66, rX9_rank_67, rX9_rank_68, rX9_rank_69, rX9_rank_72, rX9_rank_73, rX9_rank_74, e_ald0, e_bin, e_callS1, e_callV2, e_callV3, e_get, e_iald, e_ild1, e_ild3, e_neg, e_push, e_pushn, e_pushs, e_ret, e_sw, e_swc, e_swn, m_b0, m_b01, m_b1, m_em, Classical.not_not, Nat.reduceBEq, Nat.reduceLT, Nat.reduceLeDiff, Nat.reduceAdd, cond_true, cond_false, Bool.or_false, Bool.false_or, Bool.or_true, Bool.true_or, beq_iff_eq, true_and, and_true, true_or, or_true, forall_const, not_true_eq_false, not_false_eq_true, false_implies, implies_true, Nat.reduceEqDiff, List.length_nil, List.length_cons, ob_66, fv_66_0, fv_66_1, fv_66_2, fv_66_3, fv_66_4, fv_66_5, fs_66_5, fv_66_6, fv_66_7, fv_66_8, fs_66_8, fv_66_9, fs_66_9, fv_66_10, fv_66_11, fv_66_12, fv_66_13, fv_66_14, fv_66_15, fv_66_16, fv_66_17, fv_66_18, fv_66_19, fv_66_20, fv_66_21, fv_66_22, fv_66_23, fs_66_23, fv_66_24, fs_66_24, fv_66_25, fs_66_25, fv_66_26, fs_66_26, fv_66_27, fs_66_27, fv_66_28, fs_66_28, fv_66_29, fv_66_30, fv_66_31, fs_66_31, fv_66_32, fv_66_33, fv_66_34, fs_66_34, kd_78, ln_78, Int.toNat_natCast]
    exact h
  · rw [if_neg c, if_neg c2, if_pos c3] at h
    exact h
  · rw [if_neg c, if_neg c2, if_neg c3, if_pos c4] at h
    rw [m_w1 (by omega) (by omega)]
    exact h
  · rw [if_neg c, if_neg c2, if_neg c3, if_neg c4] at h
    rw [r1]
    exact ⟨by omega, h⟩
theorem d_ch_b (s : Nat → Int) (σ : d_S) (t : Int) (now : Nat) : ∀ n : Nat, -9 ≤ (d_ch s σ t now n).1 ∧ (d_ch s σ t now n).1 < (n : Int)
  | 0 => by simp [d_ch]
  | n + 1 => by
    have := d_ch_b s σ t now n
    simp only [d_ch]
    split
    · simp only; omega
    · omega
theorem p9_chosen {now : Nat} {t : Int} {s : Nat → Int} {n0 : Nat} {σ : d_S} {g : m_G} {q : m_Post} (hs : g 68 = s) (hn : now < 7200) (hW : h_W s) (hR : r_R g σ) (hI : d_I s n0 σ) (hn0 : n0 ≤ 7200) (h : q (some (.inl (d_ch s σ t now (s 1).toNat).1)) g) : wX9_chosen.1 [.inr (.inr 66), .inl t, .inl now] g q := by
  have hz := hW.1.2
  refine m_wp_of (by simp [m_fit]) (fun J hJ => ?_)
  simp only [m_ini, Nat.reduceSub, List.replicate]
  have loop : ∀ (n l : Nat) (x6 : Option m_V), l + n = (s 1).toNat → J 9 [some (.inr (.inr 66)), some (.inl t), some (.inl now), some (.inl (d_ch s σ t now l).1), some (.inl (d_ch s σ t now l).2), some (.inl l), x6] [] g := by
    intro n
    induction n with
    | zero =>
      intro l x6 hi
      refine m_run_ok hJ (fun pc => pc == 9) 40 _ _ _ _ ?_
      simp only [e_go, rX9_chosen_0, rX9_chosen_2, rX9_chosen_3, rX9_chosen_4, rX9_chosen_6, rX9_chosen_7, rX9_chosen_9, rX9_chosen_11, rX9_chosen_12, rX9_chosen_15, rX9_chosen_16, rX9_chosen_17, rX9_chosen_20, rX9_chosen_21, rX9_chosen_23, rX9_chosen_24, rX9_chosen_25, rX9_chosen_28, rX9_chosen_31, rX9_chosen_34, rX9_chosen_35, rX9_chosen_37, rX9_chosen_38, rX9_chosen_39, rX9_chosen_42, rX9_chosen_44, rX9_chosen_45, rX9_chosen_48, rX9_chosen_50, rX9_chosen_52, rX9_chosen_55, rX9_chosen_58, rX9_chosen_60, rX9_chosen_61, rX9_chosen_63, rX9_chosen_65, rX9_chosen_68, rX9_chosen_71, rX9_chosen_72, e_ald0, e_callV4, e_get, e_goto, e_iald, e_icmp, e_if, e_ild1, e_ild2, e_ild3, e_ild4, e_ild5, e_ild6, e_inc5, e_ist3, e_ist4, e_ist5, e_ist6, e_nl0, e_nl1, e_nl2, e_push, e_pushn, e_pushs, e_ret, m_b0, m_b01, m_b1, m_em, Classical.not_not, Nat.reduceBEq, Nat.reduceLT, Nat.reduceLeDiff, Nat.reduceAdd, cond_true, cond_false, Bool.or_false, Bool.false_or, Bool.or_true, Bool.true_or, beq_iff_eq, true_and, and_true, true_or, or_true, forall_const, not_true_eq_false, not_false_eq_true, false_implies, implies_true, Nat.reduceEqDiff, List.length_nil, List.length_cons, ob_66, fv_66_0, fv_66_1, fv_66_2, fv_66_3, fv_66_4, fv_66_5, fs_66_5, fv_66_6, fv_66_7, fv_66_8, fs_66_8, fv_66_9, fs_66_9, fv_66_10, fv_66_11, fv_66_12, fv_66_13, fv_66_14, fv_66_15, fv_66_16, fv_66_17, fv_66_18, fv_66_19, fv_66_20, fv_66_21, fv_66_22, fv_66_23, fs_66_23, fv_66_24, fs_66_24, fv_66_25, fs_66_25, fv_66_26, fs_66_26, fv_66_27, fs_66_27, fv_66_28, fs_66_28, fv_66_29, fv_66_30, fv_66_31, fs_66_31, fv_66_32, fv_66_33, fv_66_34, fs_66_34, kd_68, ln_68, Int.toNat_one]
      rw [hs]
      refine ⟨by omega, fun _ => ?_, fun c => absurd c (by omega)⟩
      rw [show l = (s 1).toNat by omega]; exact h
    | succ n ih =>
      intro l x6 hi
      refine m_run_ok hJ (fun pc => pc == 9) 40 _ _ _ _ ?_
      simp only [e_go, rX9_chosen_0, rX9_chosen_2, rX9_chosen_3, rX9_chosen_4, rX9_chosen_6, rX9_chosen_7, rX9_chosen_9, rX9_chosen_11, rX9_chosen_12, rX9_chosen_15, rX9_chosen_16, rX9_chosen_17, rX9_chosen_20, rX9_chosen_21, rX9_chosen_23, rX9_chosen_24, rX9_chosen_25, rX9_chosen_28, rX9_chosen_31, rX9_chosen_34, rX9_chosen_35, rX9_chosen_37, rX9_chosen_38, rX9_chosen_39, rX9_chosen_42, rX9_chosen_44, rX9_chosen_45, rX9_chosen_48, rX9_chosen_50, rX9_chosen_52, rX9_chosen_55, rX9_chosen_58, rX9_chosen_60, rX9_chosen_61, rX9_chosen_63, rX9_chosen_65, rX9_chosen_68, rX9_chosen_71, rX9_chosen_72, e_ald0, e_callV4, e_get, e_goto, e_iald, e_icmp, e_if, e_ild1, e_ild2, e_ild3, e_ild4, e_ild5, e_ild6, e_inc5, e_ist3, e_ist4, e_ist5, e_ist6, e_nl0, e_nl1, e_nl2, e_push, e_pushn, e_pushs, e_ret, m_b0, m_b01, m_b1, m_em, Classical.not_not, Nat.reduceBEq, Nat.reduceLT, Nat.reduceLeDiff, Nat.reduceAdd, cond_true, cond_false, Bool.or_false, Bool.false_or, Bool.or_true, Bool.true_or, beq_iff_eq, true_and, and_true, true_or, or_true, forall_const, not_true_eq_false, not_false_eq_true, false_implies, implies_true, Nat.reduceEqDiff, List.length_nil, List.length_cons, ob_66, fv_66_0, fv_66_1, fv_66_2, fv_66_3, fv_66_4, fv_66_5, fs_66_5, fv_66_6, fv_66_7, fv_66_8, fs_66_8, fv_66_9, fs_66_9, fv_66_10, fv_66_11, fv_66_12, fv_66_13, fv_66_14, fv_66_15, fv_66_16, fv_66_17, fv_66_18, fv_66_19, fv_66_20, fv_66_21, fv_66_22, fv_66_23, fs_66_23, fv_66_24, fs_66_24, fv_66_25, fs_66_25, fv_66_26, fs_66_26, fv_66_27, fs_66_27, fv_66_28, fs_66_28, fv_66_29, fv_66_30, fv_66_31, fs_66_31, fv_66_32, fv_66_33, fv_66_34, fs_66_34, kd_68, ln_68, Int.toNat_one]
      rw [hs]
      refine ⟨by omega, fun c => absurd c (by omega), fun _ => ?_⟩
      have r1 := (hR.1 l (by omega)).1.1
      have e1 : m_wrap ((l : Int) + 1) = ((l + 1 : Nat) : Int) := m_w2 (by omega) (by omega)
      have ihn := fun x => ih (l + 1) x (by omega)
      simp only [d_ch] at ihn
      refine p9_isOpen (σ := σ) (by omega) hn r1 ?_
      simp only [e_go, rX9_chosen_0, rX9_chosen_2, rX9_chosen_3, rX9_chosen_4, rX9_chosen_6, rX9_chosen_7, rX9_chosen_9, rX9_chosen_11, rX9_chosen_12, rX9_chosen_15, rX9_chosen_16, rX9_chosen_17, rX9_chosen_20, rX9_chosen_21, rX9_chosen_23, rX9_chosen_24, rX9_chosen_25, rX9_chosen_28, rX9_chosen_31, rX9_chosen_34, rX9_chosen_35, rX9_chosen_37, rX9_chosen_38, rX9_chosen_39, rX9_chosen_42, rX9_chosen_44, rX9_chosen_45, rX9_chosen_48, rX9_chosen_50, rX9_chosen_52, rX9_chosen_55, rX9_chosen_58, rX9_chosen_60, rX9_chosen_61, rX9_chosen_63, rX9_chosen_65, rX9_chosen_68, rX9_chosen_71, rX9_chosen_72, e_ald0, e_callV4, e_get, e_goto, e_iald, e_icmp, e_if, e_ild1, e_ild2, e_ild3, e_ild4, e_ild5, e_ild6, e_inc5, e_ist3, e_ist4, e_ist5, e_ist6, e_nl0, e_nl1, e_nl2, e_push, e_pushn, e_pushs, e_ret, m_b0, m_b01, m_b1, m_em, Classical.not_not, Nat.reduceBEq, Nat.reduceLT, Nat.reduceLeDiff, Nat.reduceAdd, cond_true, cond_false, Bool.or_false, Bool.false_or, Bool.or_true, Bool.true_or, beq_iff_eq, true_and, and_true, true_or, or_true, forall_const, not_true_eq_false, not_false_eq_true, false_implies, implies_true, Nat.reduceEqDiff, List.length_nil, List.length_cons, ob_66, fv_66_0, fv_66_1, fv_66_2, fv_66_3, fv_66_4, fv_66_5, fs_66_5, fv_66_6, fv_66_7, fv_66_8, fs_66_8, fv_66_9, fs_66_9, fv_66_10, fv_66_11, fv_66_12, fv_66_13, fv_66_14, fv_66_15, fv_66_16, fv_66_17, fv_66_18, fv_66_19, fv_66_20, fv_66_21, fv_66_22, fv_66_23, fs_66_23, fv_66_24, fs_66_24, fv_66_25, fs_66_25, fv_66_26, fs_66_26, fv_66_27, fs_66_27, fv_66_28, fs_66_28, fv_66_29, fv_66_30, fv_66_31, fs_66_31, fv_66_32, fv_66_33, fv_66_34, fs_66_34, kd_68, ln_68, Int.toNat_one]
      rw [hs, e1]
      refine ⟨fun c => ?_, fun c => ?_⟩
      · refine p9_rank hs (by omega) hn hW hR hI hn0 ?_
        simp only [e_go, rX9_chosen_0, rX9_chosen_2, rX9_chosen_3, rX9_chosen_4, rX9_chosen_6, rX9_chosen_7, rX9_chosen_9, rX9_chosen_11, rX9_chosen_12, rX9_chosen_15, rX9_chosen_16, rX9_chosen_17, rX9_chosen_20, rX9_chosen_21, rX9_chosen_23, rX9_chosen_24, rX9_chosen_25, rX9_chosen_28, rX9_chosen_31, rX9_chosen_34, rX9_chosen_35, rX9_chosen_37, rX9_chosen_38, rX9_chosen_39, rX9_chosen_42, rX9_chosen_44, rX9_chosen_45, rX9_chosen_48, rX9_chosen_50, rX9_chosen_52, rX9_chosen_55, rX9_chosen_58, rX9_chosen_60, rX9_chosen_61, rX9_chosen_63, rX9_chosen_65, rX9_chosen_68, rX9_chosen_71, rX9_chosen_72, e_ald0, e_callV4, e_get, e_goto, e_iald, e_icmp, e_if, e_ild1, e_ild2, e_ild3, e_ild4, e_ild5, e_ild6, e_inc5, e_ist3, e_ist4, e_ist5, e_ist6, e_nl0, e_nl1, e_nl2, e_push, e_pushn, e_pushs, e_ret, m_b0, m_b01, m_b1, m_em, Classical.not_not, Nat.reduceBEq, Nat.reduceLT, Nat.reduceLeDiff, Nat.reduceAdd, cond_true, cond_false, Bool.or_false, Bool.false_or, Bool.or_true, Bool.true_or, beq_iff_eq, true_and, and_true, true_or, or_true, forall_const, not_true_eq_false, not_false_eq_true, false_implies, implies_true, Nat.reduceEqDiff, List.length_nil, List.length_cons, ob_66, fv_66_0, fv_66_1, fv_66_2, fv_66_3, fv_66_4, fv_66_5, fs_66_5, fv_66_6, fv_66_7, fv_66_8, fs_66_8, fv_66_9, fs_66_9, fv_66_10, fv_66_11, fv_66_12, fv_66_13, fv_66_14, fv_66_15, fv_66_16, fv_66_17, fv_66_18, fv_66_19, fv_66_20, fv_66_21, fv_66_22, fv_66_23, fs_66_23, fv_66_24, fs_66_24, fv_66_25, fs_66_25, fv_66_26, fs_66_26, fv_66_27, fs_66_27, fv_66_28, fs_66_28, fv_66_29, fv_66_30, fv_66_31, fs_66_31, fv_66_32, fv_66_33, fv_66_34, fs_66_34, kd_68, ln_68, Int.toNat_one]
        rw [e1]
        refine ⟨fun c2 => ?_, fun c2 => ⟨fun c3 => ?_, fun c3 => ?_⟩⟩
        · rw [if_pos ⟨c, fun z => by omega⟩] at ihn; exact ihn _
        · rw [if_pos ⟨c, fun z => by omega⟩] at ihn; exact ihn _
        · rw [if_neg (fun z => z.2 ⟨by omega, by omega⟩)] at ihn; exact ihn _
      · rw [if_neg (fun z => c z.1)] at ihn; exact ihn _
  refine m_run_ok hJ (fun pc => pc == 9) 40 _ _ _ _ ?_
  simp only [e_go, rX9_chosen_0, rX9_chosen_2, rX9_chosen_3, rX9_chosen_4, rX9_chosen_6, rX9_chosen_7, rX9_chosen_9, rX9_chosen_11, rX9_chosen_12, rX9_chosen_15, rX9_chosen_16, rX9_chosen_17, rX9_chosen_20, rX9_chosen_21, rX9_chosen_23, rX9_chosen_24, rX9_chosen_25, rX9_chosen_28, rX9_chosen_31, rX9_chosen_34, rX9_chosen_35, rX9_chosen_37, rX9_chosen_38, rX9_chosen_39, rX9_chosen_42, rX9_chosen_44, rX9_chosen_45, rX9_chosen_48, rX9_chosen_50, rX9_chosen_52, rX9_chosen_55, rX9_chosen_58, rX9_chosen_60, rX9_chosen_61, rX9_chosen_63, rX9_chosen_65, rX9_chosen_68, rX9_chosen_71, rX9_chosen_72, e_ald0, e_callV4, e_get, e_goto, e_iald, e_icmp, e_if, e_ild1, e_ild2, e_ild3, e_ild4, e_ild5, e_ild6, e_inc5, e_ist3, e_ist4, e_ist5, e_ist6, e_nl0, e_nl1, e_nl2, e_push, e_pushn, e_pushs, e_ret, m_b0, m_b01, m_b1, m_em, Classical.not_not, Nat.reduceBEq, Nat.reduceLT, Nat.reduceLeDiff, Nat.reduceAdd, cond_true, cond_false, Bool.or_false, Bool.false_or, Bool.or_true, Bool.true_or, beq_iff_eq, true_and, and_true, true_or, or_true, forall_const, not_true_eq_false, not_false_eq_true, false_implies, implies_true, Nat.reduceEqDiff, List.length_nil, List.length_cons, ob_66, fv_66_0, fv_66_1, fv_66_2, fv_66_3, fv_66_4, fv_66_5, fs_66_5, fv_66_6, fv_66_7, fv_66_8, fs_66_8, fv_66_9, fs_66_9, fv_66_10, fv_66_11, fv_66_12, fv_66_13, fv_66_14, fv_66_15, fv_66_16, fv_66_17, fv_66_18, fv_66_19, fv_66_20, fv_66_21, fv_66_22, fv_66_23, fs_66_23, fv_66_24, fs_66_24, fv_66_25, fs_66_25, fv_66_26, fs_66_26, fv_66_27, fs_66_27, fv_66_28, fs_66_28, fv_66_29, fv_66_30, fv_66_31, fs_66_31, fv_66_32, fv_66_33, fv_66_34, fs_66_34, kd_68, ln_68, Int.toNat_one]
  exact loop (s 1).toNat 0 none (by omega)
theorem p9_straysNow {s : Nat → Int} {n0 : Nat} {σ : d_S} {g : m_G} {q : m_Post} (hs : g 68 = s) (hW : h_W s) (hR : r_R g σ) (hI : d_I s n0 σ) (h : q (some (.inl (if σ.2 8 1 + d_more s < 100 then 0 else 1))) (m_up g 66 24 (if σ.2 8 1 + d_more s < 100 then σ.2 8 1 + d_more s else σ.2 8 1 + d_more s - 100)) ) : wX9_straysNow.1 [.inr (.inr 66)] g q := by
  have w := hW.2.1
  have rc := hR.2.2.2.1
  have ic := hI.2.1
  refine m_wp_of (by simp [m_fit]) (fun J hJ => ?_)
  simp only [m_ini, Nat.reduceSub, List.replicate]
  refine m_run_ok hJ (fun _ => false) 60 _ _ _ _ ?_
  simp only [e_go, rX9_straysNow_0, rX9_straysNow_1, rX9_straysNow_2, rX9_straysNow_5, rX9_straysNow_7, rX9_straysNow_8, rX9_straysNow_10, rX9_straysNow_13, rX9_straysNow_14, rX9_straysNow_15, rX9_straysNow_16, rX9_straysNow_17, rX9_straysNow_18, rX9_straysNow_21, rX9_straysNow_22, rX9_straysNow_25, rX9_straysNow_26, rX9_straysNow_29, rX9_straysNow_30, rX9_straysNow_31, rX9_straysNow_34, rX9_straysNow_35, rX9_straysNow_38, rX9_straysNow_40, rX9_straysNow_43, rX9_straysNow_44, rX9_straysNow_45, rX9_straysNow_46, rX9_straysNow_47, rX9_straysNow_50, rX9_straysNow_52, rX9_straysNow_53, rX9_straysNow_56, rX9_straysNow_57, e_ald0, e_bin, e_callV2, e_dupi, e_dupr, e_get, e_goto, e_icmp, e_if, e_ild1, e_ist1, e_nl0, e_nl1, e_nl2, e_push, e_pushn, e_pushs, e_put, e_retz, m_b0, m_b01, m_b1, m_em, Classical.not_not, Nat.reduceBEq, Nat.reduceLT, Nat.reduceLeDiff, Nat.reduceAdd, cond_true, cond_false, Bool.or_false, Bool.false_or, Bool.or_true, Bool.true_or, beq_iff_eq, true_and, and_true, true_or, or_true, forall_const, not_true_eq_false, not_false_eq_true, false_implies, implies_true, Nat.reduceEqDiff, List.length_nil, List.length_cons, ob_66, fv_66_0, fv_66_1, fv_66_2, fv_66_3, fv_66_4, fv_66_5, fs_66_5, fv_66_6, fv_66_7, fv_66_8, fs_66_8, fv_66_9, fs_66_9, fv_66_10, fv_66_11, fv_66_12, fv_66_13, fv_66_14, fv_66_15, fv_66_16, fv_66_17, fv_66_18, fv_66_19, fv_66_20, fv_66_21, fv_66_22, fv_66_23, fs_66_23, fv_66_24, fs_66_24, fv_66_25, fs_66_25, fv_66_26, fs_66_26, fv_66_27, fs_66_27, fv_66_28, fs_66_28, fv_66_29, fv_66_30, fv_66_31, fs_66_31, fv_66_32, fv_66_33, fv_66_34, fs_66_34, m_up_eq, m_us]
  refine p9_setOf (k := 2) (by omega) ?_
  simp only [e_go, rX9_straysNow_0, rX9_straysNow_1, rX9_straysNow_2, rX9_straysNow_5, rX9_straysNow_7, rX9_straysNow_8, rX9_straysNow_10, rX9_straysNow_13, rX9_straysNow_14, rX9_straysNow_15, rX9_straysNow_16, rX9_straysNow_17, rX9_straysNow_18, rX9_straysNow_21, rX9_straysNow_22, rX9_straysNow_25, rX9_straysNow_26, rX9_straysNow_29, rX9_straysNow_30, rX9_straysNow_31, rX9_straysNow_34, rX9_straysNow_35, rX9_straysNow_38, rX9_straysNow_40, rX9_straysNow_43, rX9_straysNow_44, rX9_straysNow_45, rX9_straysNow_46, rX9_straysNow_47, rX9_straysNow_50, rX9_straysNow_52, rX9_straysNow_53, rX9_straysNow_56, rX9_straysNow_57, e_ald0, e_bin, e_callV2, e_dupi, e_dupr, e_get, e_goto, e_icmp, e_if, e_ild1, e_ist1, e_nl0, e_nl1, e_nl2, e_push, e_pushn, e_pushs, e_put, e_retz, m_b0, m_b01, m_b1, m_em, Classical.not_not, Nat.reduceBEq, Nat.reduceLT, Nat.reduceLeDiff, Nat.reduceAdd, cond_true, cond_false, Bool.or_false, Bool.false_or, Bool.or_true, Bool.true_or, beq_iff_eq, true_and, and_true, true_or, or_true, forall_const, not_true_eq_false, not_false_eq_true, false_implies, implies_true, Nat.reduceEqDiff, List.length_nil, List.length_cons, ob_66, fv_66_0, fv_66_1, fv_66_2, fv_66_3, fv_66_4, fv_66_5, fs_66_5, fv_66_6, fv_66_7, fv_66_8, fs_66_8, fv_66_9, fs_66_9, fv_66_10, fv_66_11, fv_66_12, fv_66_13, fv_66_14, fv_66_15, fv_66_16, fv_66_17, fv_66_18, fv_66_19, fv_66_20, fv_66_21, fv_66_22, fv_66_23, fs_66_23, fv_66_24, fs_66_24, fv_66_25, fs_66_25, fv_66_26, fs_66_26, fv_66_27, fs_66_27, fv_66_28, fs_66_28, fv_66_29, fv_66_30, fv_66_31, fs_66_31, fv_66_32, fv_66_33, fv_66_34, fs_66_34, m_up_eq, m_us]
  refine p9_setOf (k := 7) (by omega) ?_
  simp only [e_go, rX9_straysNow_0, rX9_straysNow_1, rX9_straysNow_2, rX9_straysNow_5, rX9_straysNow_7, rX9_straysNow_8, rX9_straysNow_10, rX9_straysNow_13, rX9_straysNow_14, rX9_straysNow_15, rX9_straysNow_16, rX9_straysNow_17, rX9_straysNow_18, rX9_straysNow_21, rX9_straysNow_22, rX9_straysNow_25, rX9_straysNow_26, rX9_straysNow_29, rX9_straysNow_30, rX9_straysNow_31, rX9_straysNow_34, rX9_straysNow_35, rX9_straysNow_38, rX9_straysNow_40, rX9_straysNow_43, rX9_straysNow_44, rX9_straysNow_45, rX9_straysNow_46, rX9_straysNow_47, rX9_straysNow_50, rX9_straysNow_52, rX9_straysNow_53, rX9_straysNow_56, rX9_straysNow_57, e_ald0, e_bin, e_callV2, e_dupi, e_dupr, e_get, e_goto, e_icmp, e_if, e_ild1, e_ist1, e_nl0, e_nl1, e_nl2, e_push, e_pushn, e_pushs, e_put, e_retz, m_b0, m_b01, m_b1, m_em, Classical.not_not, Nat.reduceBEq, Nat.reduceLT, Nat.reduceLeDiff, Nat.reduceAdd, cond_true, cond_false, Bool.or_false, Bool.false_or, Bool.or_true, Bool.true_or, beq_iff_eq, true_and, and_true, true_or, or_true, forall_const, not_true_eq_false, not_false_eq_true, false_implies, implies_true, Nat.reduceEqDiff, List.length_nil, List.length_cons, ob_66, fv_66_0, fv_66_1, fv_66_2, fv_66_3, fv_66_4, fv_66_5, fs_66_5, fv_66_6, fv_66_7, fv_66_8, fs_66_8, fv_66_9, fs_66_9, fv_66_10, fv_66_11, fv_66_12, fv_66_13, fv_66_14, fv_66_15, fv_66_16, fv_66_17, fv_66_18, fv_66_19, fv_66_20, fv_66_21, fv_66_22, fv_66_23, fs_66_23, fv_66_24, fs_66_24, fv_66_25, fs_66_25, fv_66_26, fs_66_26, fv_66_27, fs_66_27, fv_66_28, fs_66_28, fv_66_29, fv_66_30, fv_66_31, fs_66_31, fv_66_32, fv_66_33, fv_66_34, fs_66_34, m_up_eq, m_us]
  rw [hs, rc]
  try simp only [Nat.reduceAdd]
  rw [m_w1 (x := 8 * s 9) (by omega) (by omega), m_w1 (x := s 4 - 8 * s 9) (by omega) (by omega)]
  have tw : ∀ x y : Int, m_up (m_up g 66 24 x) 66 24 y = m_up g 66 24 y := by
    intro x y
    funext j
    by_cases e : j = 66
    · subst e; rw [m_up_eq, m_up_eq, m_up_eq]; funext k; unfold m_u; split <;> rfl
    · rw [m_up_ne e, m_up_ne e, m_up_ne e]
  have key : ∀ d : Int, d = d_more s → ((100 ≤ m_wrap (σ.2 8 1 + d) → q (some (.inl 1)) (m_up (m_up g 66 24 (m_wrap (σ.2 8 1 + d))) 66 24 (m_wrap (m_wrap (σ.2 8 1 + d) - 100)))) ∧ (¬ 100 ≤ m_wrap (σ.2 8 1 + d) → q (some (.inl 0)) (m_up g 66 24 (m_wrap (σ.2 8 1 + d))))) := by
    intro d hd
    have hdb : 0 ≤ d ∧ d ≤ 100 := by rw [hd]; unfold d_more; split <;> omega
    rw [m_w2 (x := σ.2 8 1 + d) (by omega) (by omega)]
    rw [← hd] at h
    refine ⟨fun c => ?_, fun c => ?_⟩
    · rw [if_neg (by omega), if_neg (by omega)] at h
      rw [m_w2 (by omega) (by omega), tw]; exact h
    · rw [if_pos (by omega), if_pos (by omega)] at h
      exact h
  have k1 := key (s 4 - 8 * s 9)
  have k2 := key 0
  unfold d_more at k1 k2
  refine ⟨fun c => ?_, fun c => ?_⟩
  · have k2 := k2 (by rw [if_neg (by omega)])
    exact k2
  · have k1 := k1 (by rw [if_pos (by omega)])
    exact k1
theorem r_R.cnt {s : Nat → Int} {g : m_G} {σ : d_S} (h : r_R g σ) {x : Int} (hx : x = (if σ.2 8 1 + d_more s < 100 then σ.2 8 1 + d_more s else σ.2 8 1 + d_more s - 100)) : r_R (m_up g 66 24 x) (d_cnt s σ) := by
  obtain ⟨h1, h2, h3, h4, h5⟩ := h
  unfold r_R d_cnt
  rw [← hx]
  have e : ∀ j, j ≠ 66 → m_up g 66 24 x j = g j := fun j hj => m_up_ne hj
  have f : ∀ j, j ≠ 8 → m_up σ.2 8 1 x j = σ.2 j := fun j hj => m_up_ne hj
  rw [e 78 (by decide), e 79 (by decide), e 80 (by decide), e 85 (by decide), e 86 (by decide), e 74 (by decide), e 75 (by decide), e 76 (by decide), e 77 (by decide), e 81 (by decide), e 82 (by decide), e 83 (by decide), e 84 (by decide), m_up_eq]
  simp only
  rw [f 0 (by decide), f 1 (by decide), f 2 (by decide), f 3 (by decide), f 4 (by decide), f 5 (by decide), f 6 (by decide), f 7 (by decide), m_up_eq]
  refine ⟨h1, h2, ?_, ?_, ?_⟩
  · rw [m_un (by decide), m_un (by decide)]; exact h3
  · rw [m_us, m_us]
  · rw [m_un (by decide), m_un (by decide)]; exact h5
theorem r_F.strays {g : m_G} {k : Nat} {x : Int} (hk : k = 23 ∨ k = 24 ∨ k = 25) : r_F g (m_up g 66 k x) := ⟨fun j hj => m_up_ne (by omega), fun i h1 h2 h3 => by rw [m_up_eq, m_un (by omega)]⟩
/-- one more that stands in a lane -/
theorem r_R.stand {g : m_G} {σ : d_S} (h : r_R g σ) {l : Nat} (hl : l < 6) (hlen : ∀ l, l < 6 → (σ.1 l).length ≤ 60) (hln : (σ.1 l).length < 60) {T : Nat} (hT : T < 5) {came need stray : Int} :
    r_R (m_up (m_up (m_up (m_up (m_up (m_up g 74 (60 * l + (σ.1 l).length) (T : Int)) 75 (60 * l + (σ.1 l).length) came) 76 (60 * l + (σ.1 l).length) need) 77 (60 * l + (σ.1 l).length) stray) 78 l (((σ.1 l).length : Int) + 1)) 82 T (m_wrap (g 82 T + 1))) (d_stand l (T : Int) came need stray σ) := by
  obtain ⟨h1, h2, h3, h4, h5⟩ := h
  generalize hN : (σ.1 l).length = N at hln ⊢
  unfold r_R d_stand
  refine ⟨fun a ha => ?_, fun t ht => ?_, ?_, ?_, ?_⟩
  · obtain ⟨⟨b1, b2, b3, b4, b5⟩, b6⟩ := h1 a ha
    simp only
    rw [m_up_ne (show (79 : Nat) ≠ 82 by decide), m_up_ne (show (79 : Nat) ≠ 78 by decide), m_up_ne (show (79 : Nat) ≠ 77 by decide), m_up_ne (show (79 : Nat) ≠ 76 by decide), m_up_ne (show (79 : Nat) ≠ 75 by decide), m_up_ne (show (79 : Nat) ≠ 74 by decide)]
    rw [m_up_ne (show (80 : Nat) ≠ 82 by decide), m_up_ne (show (80 : Nat) ≠ 78 by decide), m_up_ne (show (80 : Nat) ≠ 77 by decide), m_up_ne (show (80 : Nat) ≠ 76 by decide), m_up_ne (show (80 : Nat) ≠ 75 by decide), m_up_ne (show (80 : Nat) ≠ 74 by decide)]
    rw [m_up_ne (show (85 : Nat) ≠ 82 by decide), m_up_ne (show (85 : Nat) ≠ 78 by decide), m_up_ne (show (85 : Nat) ≠ 77 by decide), m_up_ne (show (85 : Nat) ≠ 76 by decide), m_up_ne (show (85 : Nat) ≠ 75 by decide), m_up_ne (show (85 : Nat) ≠ 74 by decide)]
    rw [m_up_ne (show (86 : Nat) ≠ 82 by decide), m_up_ne (show (86 : Nat) ≠ 78 by decide), m_up_ne (show (86 : Nat) ≠ 77 by decide), m_up_ne (show (86 : Nat) ≠ 76 by decide), m_up_ne (show (86 : Nat) ≠ 75 by decide), m_up_ne (show (86 : Nat) ≠ 74 by decide)]
    rw [m_up_ne (show (78 : Nat) ≠ 82 by decide), m_up_eq, m_up_ne (show (78 : Nat) ≠ 77 by decide), m_up_ne (show (78 : Nat) ≠ 76 by decide), m_up_ne (show (78 : Nat) ≠ 75 by decide), m_up_ne (show (78 : Nat) ≠ 74 by decide)]
    rw [m_up_ne (show (77 : Nat) ≠ 82 by decide), m_up_ne (show (77 : Nat) ≠ 78 by decide), m_up_eq, m_up_ne (show (77 : Nat) ≠ 76 by decide), m_up_ne (show (77 : Nat) ≠ 75 by decide), m_up_ne (show (77 : Nat) ≠ 74 by decide)]
    rw [m_up_ne (show (76 : Nat) ≠ 82 by decide), m_up_ne (show (76 : Nat) ≠ 78 by decide), m_up_ne (show (76 : Nat) ≠ 77 by decide), m_up_eq, m_up_ne (show (76 : Nat) ≠ 75 by decide), m_up_ne (show (76 : Nat) ≠ 74 by decide)]
    rw [m_up_ne (show (75 : Nat) ≠ 82 by decide), m_up_ne (show (75 : Nat) ≠ 78 by decide), m_up_ne (show (75 : Nat) ≠ 77 by decide), m_up_ne (show (75 : Nat) ≠ 76 by decide), m_up_eq, m_up_ne (show (75 : Nat) ≠ 74 by decide)]
    rw [m_up_ne (show (74 : Nat) ≠ 82 by decide), m_up_ne (show (74 : Nat) ≠ 78 by decide), m_up_ne (show (74 : Nat) ≠ 77 by decide), m_up_ne (show (74 : Nat) ≠ 76 by decide), m_up_ne (show (74 : Nat) ≠ 75 by decide), m_up_eq]
    rw [m_up_ne (show (0 : Nat) ≠ 7 by decide), m_up_ne (show (1 : Nat) ≠ 7 by decide), m_up_ne (show (2 : Nat) ≠ 7 by decide), m_up_ne (show (3 : Nat) ≠ 7 by decide)]
    have hla := hlen a ha
    by_cases e : a = l
    · subst e
      unfold d_uq
      rw [if_pos rfl]
      refine ⟨⟨?_, b2, b3, b4, b5⟩, fun i c hc => ?_⟩
      · rw [m_us, List.length_append, hN]; simp
      · by_cases ei : i = N
        · subst ei
          rw [List.getElem?_append_right (by omega), hN, Nat.sub_self] at hc
          cases hc
          rw [m_us, m_us, m_us, m_us]
          exact ⟨rfl, rfl, rfl, rfl⟩
        · have hi : i < (σ.1 a).length := by
            have := (List.getElem?_eq_some_iff.mp hc).1
            rw [List.length_append] at this
            simp at this; omega
          rw [List.getElem?_append_left hi] at hc
          rw [m_un (by omega), m_un (by omega), m_un (by omega), m_un (by omega)]
          exact b6 i c hc
    · unfold d_uq
      rw [if_neg e, m_un (by omega)]
      refine ⟨⟨b1, b2, b3, b4, b5⟩, fun i c hc => ?_⟩
      have hi := (List.getElem?_eq_some_iff.mp hc).1
      rw [m_un (by omega), m_un (by omega), m_un (by omega), m_un (by omega)]
      exact b6 i c hc
  · obtain ⟨b1, b2, b3, b4⟩ := h2 t ht
    simp only
    rw [m_up_ne (show (81 : Nat) ≠ 82 by decide), m_up_ne (show (81 : Nat) ≠ 78 by decide), m_up_ne (show (81 : Nat) ≠ 77 by decide), m_up_ne (show (81 : Nat) ≠ 76 by decide), m_up_ne (show (81 : Nat) ≠ 75 by decide), m_up_ne (show (81 : Nat) ≠ 74 by decide)]
    rw [m_up_ne (show (83 : Nat) ≠ 82 by decide), m_up_ne (show (83 : Nat) ≠ 78 by decide), m_up_ne (show (83 : Nat) ≠ 77 by decide), m_up_ne (show (83 : Nat) ≠ 76 by decide), m_up_ne (show (83 : Nat) ≠ 75 by decide), m_up_ne (show (83 : Nat) ≠ 74 by decide)]
    rw [m_up_ne (show (84 : Nat) ≠ 82 by decide), m_up_ne (show (84 : Nat) ≠ 78 by decide), m_up_ne (show (84 : Nat) ≠ 77 by decide), m_up_ne (show (84 : Nat) ≠ 76 by decide), m_up_ne (show (84 : Nat) ≠ 75 by decide), m_up_ne (show (84 : Nat) ≠ 74 by decide)]
    rw [m_up_eq, m_up_ne (show (82 : Nat) ≠ 78 by decide), m_up_ne (show (82 : Nat) ≠ 77 by decide), m_up_ne (show (82 : Nat) ≠ 76 by decide), m_up_ne (show (82 : Nat) ≠ 75 by decide), m_up_ne (show (82 : Nat) ≠ 74 by decide)]
    rw [m_up_ne (show (4 : Nat) ≠ 7 by decide), m_up_ne (show (5 : Nat) ≠ 7 by decide), m_up_ne (show (6 : Nat) ≠ 7 by decide), m_up_eq, Int.toNat_natCast]
    refine ⟨b1, b2, b3, ?_⟩
    by_cases e : t = T
    · subst e; rw [m_us, m_us, b4]
    · rw [m_un e, m_un e]; exact b4
  all_goals
    simp only
    rw [m_up_ne (show (66 : Nat) ≠ 82 by decide), m_up_ne (show (66 : Nat) ≠ 78 by decide), m_up_ne (show (66 : Nat) ≠ 77 by decide), m_up_ne (show (66 : Nat) ≠ 76 by decide), m_up_ne (show (66 : Nat) ≠ 75 by decide), m_up_ne (show (66 : Nat) ≠ 74 by decide), m_up_ne (show (8 : Nat) ≠ 7 by decide)]
    assumption
theorem p9_stands {l T : Nat} {came need stray : Int} {g : m_G} {σ : d_S} {q : m_Post} (hR : r_R g σ) (hl : l < 6) (hlen : ∀ l, l < 6 → (σ.1 l).length ≤ 60) (hln : (σ.1 l).length < 60) (hT : T < 5)
    (h : ∀ g', r_R g' (d_stand l (T : Int) came need stray σ) → r_F g g' → q none g') : wX9_stands.1 [.inr (.inr 66), .inl l, .inl T, .inl came, .inl need, .inl stray] g q := by
  have r1 := (hR.1 l hl).1.1
  refine m_wp_of (by simp [m_fit]) (fun J hJ => ?_)
  simp only [m_ini, Nat.reduceSub, List.replicate]
  have ix : m_wrap (m_wrap (60 * (l : Int)) + g 78 l) = ((60 * l + (σ.1 l).length : Nat) : Int) := by
    rw [r1, m_w2 (x := 60 * (l : Int)) (by omega) (by omega), m_w2 (by omega) (by omega)]; omega
  refine m_run_ok hJ (fun _ => false) 90 _ _ _ _ ?_
  simp only [e_go, rX9_stands_0, rX9_stands_2, rX9_stands_3, rX9_stands_4, rX9_stands_5, rX9_stands_8, rX9_stands_9, rX9_stands_10, rX9_stands_11, rX9_stands_13, rX9_stands_14, rX9_stands_17, rX9_stands_19, rX9_stands_20, rX9_stands_21, rX9_stands_22, rX9_stands_25, rX9_stands_27, rX9_stands_28, rX9_stands_29, rX9_stands_30, rX9_stands_33, rX9_stands_35, rX9_stands_37, rX9_stands_38, rX9_stands_39, rX9_stands_42, rX9_stands_44, rX9_stands_46, rX9_stands_47, rX9_stands_48, rX9_stands_51, rX9_stands_52, rX9_stands_53, rX9_stands_54, rX9_stands_55, rX9_stands_56, rX9_stands_57, rX9_stands_58, rX9_stands_61, rX9_stands_62, rX9_stands_63, rX9_stands_64, rX9_stands_65, rX9_stands_66, rX9_stands_67, e_ald0, e_bin, e_dup2, e_get, e_iald, e_iast, e_ild1, e_ild2, e_ild3, e_ild4, e_ild5, e_ild6, e_ist6, e_nl0, e_nl1, e_nl2, e_push, e_retv, m_b0, m_b01, m_b1, m_em, Classical.not_not, Nat.reduceBEq, Nat.reduceLT, Nat.reduceLeDiff, Nat.reduceAdd, cond_true, cond_false, Bool.or_false, Bool.false_or, Bool.or_true, Bool.true_or, beq_iff_eq, true_and, and_true, true_or, or_true, forall_const, not_true_eq_false, not_false_eq_true, false_implies, implies_true, Nat.reduceEqDiff, List.length_nil, List.length_cons, ob_66, fv_66_0, fv_66_1, fv_66_2, fv_66_3, fv_66_4, fv_66_5, fs_66_5, fv_66_6, fv_66_7, fv_66_8, fs_66_8, fv_66_9, fs_66_9, fv_66_10, fv_66_11, fv_66_12, fv_66_13, fv_66_14, fv_66_15, fv_66_16, fv_66_17, fv_66_18, fv_66_19, fv_66_20, fv_66_21, fv_66_22, fv_66_23, fs_66_23, fv_66_24, fs_66_24, fv_66_25, fs_66_25, fv_66_26, fs_66_26, fv_66_27, fs_66_27, fv_66_28, fs_66_28, fv_66_29, fv_66_30, fv_66_31, fs_66_31, fv_66_32, fv_66_33, fv_66_34, fs_66_34, kd_74, ln_74, kd_75, ln_75, kd_76, ln_76, kd_77, ln_77, kd_78, ln_78, kd_82, ln_82, Int.toNat_natCast, ix]
  rw [m_up_ne (show (78 : Nat) ≠ 77 by decide), m_up_ne (show (78 : Nat) ≠ 76 by decide), m_up_ne (show (78 : Nat) ≠ 75 by decide), m_up_ne (show (78 : Nat) ≠ 74 by decide)]
  rw [m_up_ne (show (82 : Nat) ≠ 78 by decide), m_up_ne (show (82 : Nat) ≠ 77 by decide), m_up_ne (show (82 : Nat) ≠ 76 by decide), m_up_ne (show (82 : Nat) ≠ 75 by decide), m_up_ne (show (82 : Nat) ≠ 74 by decide), r1, m_w2 (x := ((σ.1 l).length : Int) + 1) (by omega) (by omega)]
  refine ⟨by omega, by omega, by omega, by omega, by omega, by omega, by omega, by omega, by omega, ?_⟩
  refine h _ (hR.stand hl hlen hln hT) ⟨fun j hj => ?_, fun k _ _ _ => ?_⟩
  · rw [m_up_ne (by omega), m_up_ne (by omega), m_up_ne (by omega), m_up_ne (by omega), m_up_ne (by omega), m_up_ne (by omega)]
  · rw [m_up_ne (by omega), m_up_ne (by omega), m_up_ne (by omega), m_up_ne (by omega), m_up_ne (by omega), m_up_ne (by omega)]
