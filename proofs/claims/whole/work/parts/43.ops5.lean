set_option maxRecDepth 20000
set_option maxHeartbeats 2000000
theorem m_uu {f : Nat → Int} {k : Nat} {x y : Int} : m_u (m_u f k x) k y = m_u f k y := by
  funext j; by_cases e : j = k
  · subst e; rw [m_us, m_us]
  · rw [m_un e, m_un e, m_un e]
theorem m_u_self {f : Nat → Int} {k : Nat} {x : Int} (h : x = f k) : m_u f k x = f := by
  funext j; by_cases e : j = k
  · subst e; rw [m_us, h]
  · rw [m_un e]
theorem fw_b {s : Nat → Int} {most : Int} : ∀ n : Nat, fw s most n = -9 ∨ 0 ≤ fw s most n
  | 0 => Or.inl rfl
  | n + 1 => by
    simp only [fw]
    split
    · right; assumption
    · split
      · right; omega
      · left; rfl
theorem q9_fewest {g A : m_G} {most : Int} {q : m_Post} (hM : l_M g A) (hW : h_W (A 68)) (h : ∀ g', l_E g g' (x_fewest A most).2 → q (some (.inl (x_fewest A most).1)) g') : wX9_fewest.1 [.inr (.inr 66), .inl most] g q := by
  have hz := hW.1
  refine m_wp_of (by simp [m_fit]) (fun J hJ => ?_)
  simp only [m_ini, Nat.reduceSub, List.replicate]
  unfold x_fewest at h
  have no : ∀ c : Int, -6 ≤ c ∧ c ≤ 0 → c ≠ 0 → (∀ g', l_E g g' (x_no A c).2 → q (some (.inl (x_no A c).1)) g') → J 24 [some (.inr (.inr 66)), some (.inl most), none, none, none, none] [.inl c] g := by
    intro c hc hc0 hq
    refine m_run_ok hJ (fun pc => pc == 24 || pc == 49) 60 _ _ _ _ ?_
    simp only [e_go, rX9_fewest_0, rX9_fewest_1, rX9_fewest_4, rX9_fewest_5, rX9_fewest_6, rX9_fewest_9, rX9_fewest_11, rX9_fewest_14, rX9_fewest_15, rX9_fewest_18, rX9_fewest_20, rX9_fewest_23, rX9_fewest_24, rX9_fewest_25, rX9_fewest_26, rX9_fewest_29, rX9_fewest_30, rX9_fewest_31, rX9_fewest_34, rX9_fewest_35, rX9_fewest_36, rX9_fewest_39, rX9_fewest_40, rX9_fewest_41, rX9_fewest_42, rX9_fewest_44, rX9_fewest_46, rX9_fewest_47, rX9_fewest_49, rX9_fewest_51, rX9_fewest_52, rX9_fewest_55, rX9_fewest_57, rX9_fewest_60, rX9_fewest_61, rX9_fewest_64, rX9_fewest_65, rX9_fewest_67, rX9_fewest_68, rX9_fewest_69, rX9_fewest_72, rX9_fewest_73, rX9_fewest_76, rX9_fewest_78, rX9_fewest_81, rX9_fewest_83, rX9_fewest_85, rX9_fewest_88, rX9_fewest_91, rX9_fewest_92, rX9_fewest_95, rX9_fewest_96, rX9_fewest_97, rX9_fewest_98, rX9_fewest_100, e_ald0, e_callV1, e_callV2, e_get, e_goto, e_iald, e_iast, e_icmp, e_if, e_ild1, e_ild2, e_ild3, e_ild4, e_ild5, e_inc5, e_ist2, e_ist3, e_ist4, e_ist5, e_nl0, e_nl1, e_nl2, e_push, e_pushn, e_pushs, e_ret, m_b0, m_b01, m_b1, m_em, Classical.not_not, Nat.reduceBEq, Nat.reduceLT, Nat.reduceLeDiff, Nat.reduceAdd, cond_true, cond_false, Bool.or_false, Bool.false_or, Bool.or_true, Bool.true_or, beq_iff_eq, true_and, and_true, true_or, or_true, forall_const, not_true_eq_false, not_false_eq_true, false_implies, implies_true, Nat.reduceEqDiff, List.length_nil, List.length_cons, ob_66, fv_66_0, fv_66_1, fv_66_2, fv_66_3, fv_66_4, fv_66_5, fs_66_5, fv_66_6, fv_66_7, fv_66_8, fs_66_8, fv_66_9, fs_66_9, fv_66_10, fv_66_11, fv_66_12, fv_66_13, fv_66_14, fv_66_15, fv_66_16, fv_66_17, fv_66_18, fv_66_19, fv_66_20, fv_66_21, fv_66_22, fv_66_23, fs_66_23, fv_66_24, fs_66_24, fv_66_25, fs_66_25, fv_66_26, fs_66_26, fv_66_27, fs_66_27, fv_66_28, fs_66_28, fv_66_29, fv_66_30, fv_66_31, fs_66_31, fv_66_32, fv_66_33, fv_66_34, fs_66_34, kd_68, ln_68, Int.toNat_natCast, Int.toNat_one]
    refine ⟨fun z => absurd z hc0, fun _ => ?_⟩
    refine q9_no hM hc (fun g' hE => ?_)
    simp only [e_go, rX9_fewest_0, rX9_fewest_1, rX9_fewest_4, rX9_fewest_5, rX9_fewest_6, rX9_fewest_9, rX9_fewest_11, rX9_fewest_14, rX9_fewest_15, rX9_fewest_18, rX9_fewest_20, rX9_fewest_23, rX9_fewest_24, rX9_fewest_25, rX9_fewest_26, rX9_fewest_29, rX9_fewest_30, rX9_fewest_31, rX9_fewest_34, rX9_fewest_35, rX9_fewest_36, rX9_fewest_39, rX9_fewest_40, rX9_fewest_41, rX9_fewest_42, rX9_fewest_44, rX9_fewest_46, rX9_fewest_47, rX9_fewest_49, rX9_fewest_51, rX9_fewest_52, rX9_fewest_55, rX9_fewest_57, rX9_fewest_60, rX9_fewest_61, rX9_fewest_64, rX9_fewest_65, rX9_fewest_67, rX9_fewest_68, rX9_fewest_69, rX9_fewest_72, rX9_fewest_73, rX9_fewest_76, rX9_fewest_78, rX9_fewest_81, rX9_fewest_83, rX9_fewest_85, rX9_fewest_88, rX9_fewest_91, rX9_fewest_92, rX9_fewest_95, rX9_fewest_96, rX9_fewest_97, rX9_fewest_98, rX9_fewest_100, e_ald0, e_callV1, e_callV2, e_get, e_goto, e_iald, e_iast, e_icmp, e_if, e_ild1, e_ild2, e_ild3, e_ild4, e_ild5, e_inc5, e_ist2, e_ist3, e_ist4, e_ist5, e_nl0, e_nl1, e_nl2, e_push, e_pushn, e_pushs, e_ret, m_b0, m_b01, m_b1, m_em, Classical.not_not, Nat.reduceBEq, Nat.reduceLT, Nat.reduceLeDiff, Nat.reduceAdd, cond_true, cond_false, Bool.or_false, Bool.false_or, Bool.or_true, Bool.true_or, beq_iff_eq, true_and, and_true, true_or, or_true, forall_const, not_true_eq_false, not_false_eq_true, false_implies, implies_true, Nat.reduceEqDiff, List.length_nil, List.length_cons, ob_66, fv_66_0, fv_66_1, fv_66_2, fv_66_3, fv_66_4, fv_66_5, fs_66_5, fv_66_6, fv_66_7, fv_66_8, fs_66_8, fv_66_9, fs_66_9, fv_66_10, fv_66_11, fv_66_12, fv_66_13, fv_66_14, fv_66_15, fv_66_16, fv_66_17, fv_66_18, fv_66_19, fv_66_20, fv_66_21, fv_66_22, fv_66_23, fs_66_23, fv_66_24, fs_66_24, fv_66_25, fs_66_25, fv_66_26, fs_66_26, fv_66_27, fs_66_27, fv_66_28, fs_66_28, fv_66_29, fv_66_30, fv_66_31, fs_66_31, fv_66_32, fv_66_33, fv_66_34, fs_66_34, kd_68, ln_68, Int.toNat_natCast, Int.toNat_one]
    exact hq g' hE
  have fin : ∀ (r : Int) (g1 : m_G) (x2 : Option m_V) (x5 : Option m_V), ¬ A 68 1 = 0 → ¬ most < 0 → r = fw (A 68) most (A 68 1).toNat → r_H g g1 → (∀ k, k ≠ 1 → g1 68 k = A 68 k) → J 91 [some (.inr (.inr 66)), some (.inl most), x2, some (.inl (A 68 1)), some (.inl r), x5] [] g1 := by
    intro r g1 x2 x5 d1 d2 hr hH hk
    refine m_run_ok hJ (fun pc => pc == 24 || pc == 49) 60 _ _ _ _ ?_
    simp only [e_go, rX9_fewest_0, rX9_fewest_1, rX9_fewest_4, rX9_fewest_5, rX9_fewest_6, rX9_fewest_9, rX9_fewest_11, rX9_fewest_14, rX9_fewest_15, rX9_fewest_18, rX9_fewest_20, rX9_fewest_23, rX9_fewest_24, rX9_fewest_25, rX9_fewest_26, rX9_fewest_29, rX9_fewest_30, rX9_fewest_31, rX9_fewest_34, rX9_fewest_35, rX9_fewest_36, rX9_fewest_39, rX9_fewest_40, rX9_fewest_41, rX9_fewest_42, rX9_fewest_44, rX9_fewest_46, rX9_fewest_47, rX9_fewest_49, rX9_fewest_51, rX9_fewest_52, rX9_fewest_55, rX9_fewest_57, rX9_fewest_60, rX9_fewest_61, rX9_fewest_64, rX9_fewest_65, rX9_fewest_67, rX9_fewest_68, rX9_fewest_69, rX9_fewest_72, rX9_fewest_73, rX9_fewest_76, rX9_fewest_78, rX9_fewest_81, rX9_fewest_83, rX9_fewest_85, rX9_fewest_88, rX9_fewest_91, rX9_fewest_92, rX9_fewest_95, rX9_fewest_96, rX9_fewest_97, rX9_fewest_98, rX9_fewest_100, e_ald0, e_callV1, e_callV2, e_get, e_goto, e_iald, e_iast, e_icmp, e_if, e_ild1, e_ild2, e_ild3, e_ild4, e_ild5, e_inc5, e_ist2, e_ist3, e_ist4, e_ist5, e_nl0, e_nl1, e_nl2, e_push, e_pushn, e_pushs, e_ret, m_b0, m_b01, m_b1, m_em, Classical.not_not, Nat.reduceBEq, Nat.reduceLT, Nat.reduceLeDiff, Nat.reduceAdd, cond_true, cond_false, Bool.or_false, Bool.false_or, Bool.or_true, Bool.true_or, beq_iff_eq, true_and, and_true, true_or, or_true, forall_const, not_true_eq_false, not_false_eq_true, false_implies, implies_true, Nat.reduceEqDiff, List.length_nil, List.length_cons, ob_66, fv_66_0, fv_66_1, fv_66_2, fv_66_3, fv_66_4, fv_66_5, fs_66_5, fv_66_6, fv_66_7, fv_66_8, fs_66_8, fv_66_9, fs_66_9, fv_66_10, fv_66_11, fv_66_12, fv_66_13, fv_66_14, fv_66_15, fv_66_16, fv_66_17, fv_66_18, fv_66_19, fv_66_20, fv_66_21, fv_66_22, fv_66_23, fs_66_23, fv_66_24, fs_66_24, fv_66_25, fs_66_25, fv_66_26, fs_66_26, fv_66_27, fs_66_27, fv_66_28, fs_66_28, fv_66_29, fv_66_30, fv_66_31, fs_66_31, fv_66_32, fv_66_33, fv_66_34, fs_66_34, kd_68, ln_68, Int.toNat_natCast, Int.toNat_one]
    rw [if_neg d1, if_neg d2] at h
    rw [hr]
    refine ⟨by decide, h _ (hM.H hH.up ?_)⟩
    rw [m_up_eq]
    funext k
    by_cases e : k = 1
    · subst e; rw [m_us]
    · rw [m_un e]; exact hk k e
  have loop : ¬ A 68 1 = 0 → ¬ most < 0 → ∀ (m n : Nat) (g1 : m_G) (x2 : Option m_V), n + m = (A 68 1).toNat → r_H g g1 → (∀ k, k ≠ 1 → g1 68 k = A 68 k) → J 49 [some (.inr (.inr 66)), some (.inl most), x2, some (.inl (A 68 1)), some (.inl (fw (A 68) most n)), some (.inl ((n : Int) + 1))] [] g1 := by
    intro d1 d2 m
    induction m with
    | zero =>
      intro n g1 x2 hn hH hk
      have fn := fin (fw (A 68) most n) g1 x2 (some (.inl ((n : Int) + 1))) d1 d2 (by rw [show n = (A 68 1).toNat by omega]) hH hk
      refine m_run_ok hJ (fun pc => pc == 24 || pc == 49 || pc == 91) 60 _ _ _ _ ?_
      simp only [e_go, rX9_fewest_0, rX9_fewest_1, rX9_fewest_4, rX9_fewest_5, rX9_fewest_6, rX9_fewest_9, rX9_fewest_11, rX9_fewest_14, rX9_fewest_15, rX9_fewest_18, rX9_fewest_20, rX9_fewest_23, rX9_fewest_24, rX9_fewest_25, rX9_fewest_26, rX9_fewest_29, rX9_fewest_30, rX9_fewest_31, rX9_fewest_34, rX9_fewest_35, rX9_fewest_36, rX9_fewest_39, rX9_fewest_40, rX9_fewest_41, rX9_fewest_42, rX9_fewest_44, rX9_fewest_46, rX9_fewest_47, rX9_fewest_49, rX9_fewest_51, rX9_fewest_52, rX9_fewest_55, rX9_fewest_57, rX9_fewest_60, rX9_fewest_61, rX9_fewest_64, rX9_fewest_65, rX9_fewest_67, rX9_fewest_68, rX9_fewest_69, rX9_fewest_72, rX9_fewest_73, rX9_fewest_76, rX9_fewest_78, rX9_fewest_81, rX9_fewest_83, rX9_fewest_85, rX9_fewest_88, rX9_fewest_91, rX9_fewest_92, rX9_fewest_95, rX9_fewest_96, rX9_fewest_97, rX9_fewest_98, rX9_fewest_100, e_ald0, e_callV1, e_callV2, e_get, e_goto, e_iald, e_iast, e_icmp, e_if, e_ild1, e_ild2, e_ild3, e_ild4, e_ild5, e_inc5, e_ist2, e_ist3, e_ist4, e_ist5, e_nl0, e_nl1, e_nl2, e_push, e_pushn, e_pushs, e_ret, m_b0, m_b01, m_b1, m_em, Classical.not_not, Nat.reduceBEq, Nat.reduceLT, Nat.reduceLeDiff, Nat.reduceAdd, cond_true, cond_false, Bool.or_false, Bool.false_or, Bool.or_true, Bool.true_or, beq_iff_eq, true_and, and_true, true_or, or_true, forall_const, not_true_eq_false, not_false_eq_true, false_implies, implies_true, Nat.reduceEqDiff, List.length_nil, List.length_cons, ob_66, fv_66_0, fv_66_1, fv_66_2, fv_66_3, fv_66_4, fv_66_5, fs_66_5, fv_66_6, fv_66_7, fv_66_8, fs_66_8, fv_66_9, fs_66_9, fv_66_10, fv_66_11, fv_66_12, fv_66_13, fv_66_14, fv_66_15, fv_66_16, fv_66_17, fv_66_18, fv_66_19, fv_66_20, fv_66_21, fv_66_22, fv_66_23, fs_66_23, fv_66_24, fs_66_24, fv_66_25, fs_66_25, fv_66_26, fs_66_26, fv_66_27, fs_66_27, fv_66_28, fs_66_28, fv_66_29, fv_66_30, fv_66_31, fs_66_31, fv_66_32, fv_66_33, fv_66_34, fs_66_34, kd_68, ln_68, Int.toNat_natCast, Int.toNat_one]
      exact ⟨fun _ => fn, fun z => absurd z (by omega)⟩
    | succ m ih =>
      intro n g1 x2 hn hH hk
      refine m_run_ok hJ (fun pc => pc == 24 || pc == 49 || pc == 91) 60 _ _ _ _ ?_
      simp only [e_go, rX9_fewest_0, rX9_fewest_1, rX9_fewest_4, rX9_fewest_5, rX9_fewest_6, rX9_fewest_9, rX9_fewest_11, rX9_fewest_14, rX9_fewest_15, rX9_fewest_18, rX9_fewest_20, rX9_fewest_23, rX9_fewest_24, rX9_fewest_25, rX9_fewest_26, rX9_fewest_29, rX9_fewest_30, rX9_fewest_31, rX9_fewest_34, rX9_fewest_35, rX9_fewest_36, rX9_fewest_39, rX9_fewest_40, rX9_fewest_41, rX9_fewest_42, rX9_fewest_44, rX9_fewest_46, rX9_fewest_47, rX9_fewest_49, rX9_fewest_51, rX9_fewest_52, rX9_fewest_55, rX9_fewest_57, rX9_fewest_60, rX9_fewest_61, rX9_fewest_64, rX9_fewest_65, rX9_fewest_67, rX9_fewest_68, rX9_fewest_69, rX9_fewest_72, rX9_fewest_73, rX9_fewest_76, rX9_fewest_78, rX9_fewest_81, rX9_fewest_83, rX9_fewest_85, rX9_fewest_88, rX9_fewest_91, rX9_fewest_92, rX9_fewest_95, rX9_fewest_96, rX9_fewest_97, rX9_fewest_98, rX9_fewest_100, e_ald0, e_callV1, e_callV2, e_get, e_goto, e_iald, e_iast, e_icmp, e_if, e_ild1, e_ild2, e_ild3, e_ild4, e_ild5, e_inc5, e_ist2, e_ist3, e_ist4, e_ist5, e_nl0, e_nl1, e_nl2, e_push, e_pushn, e_pushs, e_ret, m_b0, m_b01, m_b1, m_em, Classical.not_not, Nat.reduceBEq, Nat.reduceLT, Nat.reduceLeDiff, Nat.reduceAdd, cond_true, cond_false, Bool.or_false, Bool.false_or, Bool.or_true, Bool.true_or, beq_iff_eq, true_and, and_true, true_or, or_true, forall_const, not_true_eq_false, not_false_eq_true, false_implies, implies_true, Nat.reduceEqDiff, List.length_nil, List.length_cons, ob_66, fv_66_0, fv_66_1, fv_66_2, fv_66_3, fv_66_4, fv_66_5, fs_66_5, fv_66_6, fv_66_7, fv_66_8, fs_66_8, fv_66_9, fs_66_9, fv_66_10, fv_66_11, fv_66_12, fv_66_13, fv_66_14, fv_66_15, fv_66_16, fv_66_17, fv_66_18, fv_66_19, fv_66_20, fv_66_21, fv_66_22, fv_66_23, fs_66_23, fv_66_24, fs_66_24, fv_66_25, fs_66_25, fv_66_26, fs_66_26, fv_66_27, fs_66_27, fv_66_28, fs_66_28, fv_66_29, fv_66_30, fv_66_31, fs_66_31, fv_66_32, fv_66_33, fv_66_34, fs_66_34, kd_68, ln_68, Int.toNat_natCast, Int.toNat_one]
      refine ⟨fun z => absurd z (by omega), fun _ => ⟨fun c => ?_, fun c => ⟨by decide, ?_⟩⟩⟩
      · refine fin _ g1 x2 _ d1 d2 ?_ hH hk
        have : ∀ i : Nat, fw (A 68) most (n + i) = fw (A 68) most n := by
          intro i
          induction i with
          | zero => rfl
          | succ i ii => rw [← Nat.add_assoc]; simp only [fw]; rw [ii, if_pos c]
        rw [← this (m + 1), hn]
      · have hrow : (m_up g1 68 1 ((n : Int) + 1)) 68 = m_u (A 68) 1 ((n : Int) + 1) := by
          rw [m_up_eq]
          funext k
          by_cases e : k = 1
          · subst e; rw [m_us, m_us]
          · rw [m_un e, m_un e]; exact hk k e
        refine p9_costOf hrow (hW.lanes (by omega) (by omega)) (fun g' hG => ?_)
        simp only [e_go, rX9_fewest_0, rX9_fewest_1, rX9_fewest_4, rX9_fewest_5, rX9_fewest_6, rX9_fewest_9, rX9_fewest_11, rX9_fewest_14, rX9_fewest_15, rX9_fewest_18, rX9_fewest_20, rX9_fewest_23, rX9_fewest_24, rX9_fewest_25, rX9_fewest_26, rX9_fewest_29, rX9_fewest_30, rX9_fewest_31, rX9_fewest_34, rX9_fewest_35, rX9_fewest_36, rX9_fewest_39, rX9_fewest_40, rX9_fewest_41, rX9_fewest_42, rX9_fewest_44, rX9_fewest_46, rX9_fewest_47, rX9_fewest_49, rX9_fewest_51, rX9_fewest_52, rX9_fewest_55, rX9_fewest_57, rX9_fewest_60, rX9_fewest_61, rX9_fewest_64, rX9_fewest_65, rX9_fewest_67, rX9_fewest_68, rX9_fewest_69, rX9_fewest_72, rX9_fewest_73, rX9_fewest_76, rX9_fewest_78, rX9_fewest_81, rX9_fewest_83, rX9_fewest_85, rX9_fewest_88, rX9_fewest_91, rX9_fewest_92, rX9_fewest_95, rX9_fewest_96, rX9_fewest_97, rX9_fewest_98, rX9_fewest_100, e_ald0, e_callV1, e_callV2, e_get, e_goto, e_iald, e_iast, e_icmp, e_if, e_ild1, e_ild2, e_ild3, e_ild4, e_ild5, e_inc5, e_ist2, e_ist3, e_ist4, e_ist5, e_nl0, e_nl1, e_nl2, e_push, e_pushn, e_pushs, e_ret, m_b0, m_b01, m_b1, m_em, Classical.not_not, Nat.reduceBEq, Nat.reduceLT, Nat.reduceLeDiff, Nat.reduceAdd, cond_true, cond_false, Bool.or_false, Bool.false_or, Bool.or_true, Bool.true_or, beq_iff_eq, true_and, and_true, true_or, or_true, forall_const, not_true_eq_false, not_false_eq_true, false_implies, implies_true, Nat.reduceEqDiff, List.length_nil, List.length_cons, ob_66, fv_66_0, fv_66_1, fv_66_2, fv_66_3, fv_66_4, fv_66_5, fs_66_5, fv_66_6, fv_66_7, fv_66_8, fs_66_8, fv_66_9, fs_66_9, fv_66_10, fv_66_11, fv_66_12, fv_66_13, fv_66_14, fv_66_15, fv_66_16, fv_66_17, fv_66_18, fv_66_19, fv_66_20, fv_66_21, fv_66_22, fv_66_23, fs_66_23, fv_66_24, fs_66_24, fv_66_25, fs_66_25, fv_66_26, fs_66_26, fv_66_27, fs_66_27, fv_66_28, fs_66_28, fv_66_29, fv_66_30, fv_66_31, fs_66_31, fv_66_32, fv_66_33, fv_66_34, fs_66_34, kd_68, ln_68, Int.toNat_natCast, Int.toNat_one]
        have nx := ih (n + 1) g' x2 (by omega) (hH.up.trans hG.H) (fun k e => by rw [hG.s, hrow, m_un e])
        rw [show (((n + 1 : Nat) : Int)) + 1 = (n : Int) + 1 + 1 by omega] at nx
        simp only [fw] at nx
        rw [if_neg c] at nx
        rw [m_w2 (x := (n : Int) + 1 + 1) (by omega) (by omega)]
        refine ⟨fun c2 => ?_, fun c2 => ?_⟩
        · rw [if_neg (by omega)] at nx; exact nx
        · rw [if_pos (by omega)] at nx; exact nx
  refine m_run_ok hJ (fun pc => pc == 24 || pc == 49) 60 _ _ _ _ ?_
  simp only [e_go, rX9_fewest_0, rX9_fewest_1, rX9_fewest_4, rX9_fewest_5, rX9_fewest_6, rX9_fewest_9, rX9_fewest_11, rX9_fewest_14, rX9_fewest_15, rX9_fewest_18, rX9_fewest_20, rX9_fewest_23, rX9_fewest_24, rX9_fewest_25, rX9_fewest_26, rX9_fewest_29, rX9_fewest_30, rX9_fewest_31, rX9_fewest_34, rX9_fewest_35, rX9_fewest_36, rX9_fewest_39, rX9_fewest_40, rX9_fewest_41, rX9_fewest_42, rX9_fewest_44, rX9_fewest_46, rX9_fewest_47, rX9_fewest_49, rX9_fewest_51, rX9_fewest_52, rX9_fewest_55, rX9_fewest_57, rX9_fewest_60, rX9_fewest_61, rX9_fewest_64, rX9_fewest_65, rX9_fewest_67, rX9_fewest_68, rX9_fewest_69, rX9_fewest_72, rX9_fewest_73, rX9_fewest_76, rX9_fewest_78, rX9_fewest_81, rX9_fewest_83, rX9_fewest_85, rX9_fewest_88, rX9_fewest_91, rX9_fewest_92, rX9_fewest_95, rX9_fewest_96, rX9_fewest_97, rX9_fewest_98, rX9_fewest_100, e_ald0, e_callV1, e_callV2, e_get, e_goto, e_iald, e_iast, e_icmp, e_if, e_ild1, e_ild2, e_ild3, e_ild4, e_ild5, e_inc5, e_ist2, e_ist3, e_ist4, e_ist5, e_nl0, e_nl1, e_nl2, e_push, e_pushn, e_pushs, e_ret, m_b0, m_b01, m_b1, m_em, Classical.not_not, Nat.reduceBEq, Nat.reduceLT, Nat.reduceLeDiff, Nat.reduceAdd, cond_true, cond_false, Bool.or_false, Bool.false_or, Bool.or_true, Bool.true_or, beq_iff_eq, true_and, and_true, true_or, or_true, forall_const, not_true_eq_false, not_false_eq_true, false_implies, implies_true, Nat.reduceEqDiff, List.length_nil, List.length_cons, ob_66, fv_66_0, fv_66_1, fv_66_2, fv_66_3, fv_66_4, fv_66_5, fs_66_5, fv_66_6, fv_66_7, fv_66_8, fs_66_8, fv_66_9, fs_66_9, fv_66_10, fv_66_11, fv_66_12, fv_66_13, fv_66_14, fv_66_15, fv_66_16, fv_66_17, fv_66_18, fv_66_19, fv_66_20, fv_66_21, fv_66_22, fv_66_23, fs_66_23, fv_66_24, fs_66_24, fv_66_25, fs_66_25, fv_66_26, fs_66_26, fv_66_27, fs_66_27, fv_66_28, fs_66_28, fv_66_29, fv_66_30, fv_66_31, fs_66_31, fv_66_32, fv_66_33, fv_66_34, fs_66_34, kd_68, ln_68, Int.toNat_natCast, Int.toNat_one]
  rw [hM.s]
  refine ⟨by omega, fun c => ?_, fun c => ?_⟩
  · rw [if_neg c] at h
    refine ⟨fun c2 => ?_, fun c2 => ?_⟩
    · skip
      refine m_run_ok hJ (fun pc => pc == 49) 60 _ _ _ _ ?_
      simp only [e_go, rX9_fewest_0, rX9_fewest_1, rX9_fewest_4, rX9_fewest_5, rX9_fewest_6, rX9_fewest_9, rX9_fewest_11, rX9_fewest_14, rX9_fewest_15, rX9_fewest_18, rX9_fewest_20, rX9_fewest_23, rX9_fewest_24, rX9_fewest_25, rX9_fewest_26, rX9_fewest_29, rX9_fewest_30, rX9_fewest_31, rX9_fewest_34, rX9_fewest_35, rX9_fewest_36, rX9_fewest_39, rX9_fewest_40, rX9_fewest_41, rX9_fewest_42, rX9_fewest_44, rX9_fewest_46, rX9_fewest_47, rX9_fewest_49, rX9_fewest_51, rX9_fewest_52, rX9_fewest_55, rX9_fewest_57, rX9_fewest_60, rX9_fewest_61, rX9_fewest_64, rX9_fewest_65, rX9_fewest_67, rX9_fewest_68, rX9_fewest_69, rX9_fewest_72, rX9_fewest_73, rX9_fewest_76, rX9_fewest_78, rX9_fewest_81, rX9_fewest_83, rX9_fewest_85, rX9_fewest_88, rX9_fewest_91, rX9_fewest_92, rX9_fewest_95, rX9_fewest_96, rX9_fewest_97, rX9_fewest_98, rX9_fewest_100, e_ald0, e_callV1, e_callV2, e_get, e_goto, e_iald, e_iast, e_icmp, e_if, e_ild1, e_ild2, e_ild3, e_ild4, e_ild5, e_inc5, e_ist2, e_ist3, e_ist4, e_ist5, e_nl0, e_nl1, e_nl2, e_push, e_pushn, e_pushs, e_ret, m_b0, m_b01, m_b1, m_em, Classical.not_not, Nat.reduceBEq, Nat.reduceLT, Nat.reduceLeDiff, Nat.reduceAdd, cond_true, cond_false, Bool.or_false, Bool.false_or, Bool.or_true, Bool.true_or, beq_iff_eq, true_and, and_true, true_or, or_true, forall_const, not_true_eq_false, not_false_eq_true, false_implies, implies_true, Nat.reduceEqDiff, List.length_nil, List.length_cons, ob_66, fv_66_0, fv_66_1, fv_66_2, fv_66_3, fv_66_4, fv_66_5, fs_66_5, fv_66_6, fv_66_7, fv_66_8, fs_66_8, fv_66_9, fs_66_9, fv_66_10, fv_66_11, fv_66_12, fv_66_13, fv_66_14, fv_66_15, fv_66_16, fv_66_17, fv_66_18, fv_66_19, fv_66_20, fv_66_21, fv_66_22, fv_66_23, fs_66_23, fv_66_24, fs_66_24, fv_66_25, fs_66_25, fv_66_26, fs_66_26, fv_66_27, fs_66_27, fv_66_28, fs_66_28, fv_66_29, fv_66_30, fv_66_31, fs_66_31, fv_66_32, fv_66_33, fv_66_34, fs_66_34, kd_68, ln_68, Int.toNat_natCast, Int.toNat_one]
      rw [hM.s]
      refine ⟨by omega, ?_⟩
      exact loop c (by omega) (A 68 1).toNat 0 g _ (by omega) r_H.rfl' (fun k _ => by rw [hM.s])
    · rw [if_pos (by omega)] at h
      exact no (-4) (by decide) (by decide) h
  · rw [if_pos c] at h
    exact no (-3) (by decide) (by decide) h
theorem q9_edge {g A : m_G} {q : m_Post} (hM : l_M g A) (hW : h_W (A 68)) (h0 : ∀ k, 64 ≤ k → A 68 k = 0) (h : ∀ g', l_E g g' (x_edge A).2 → q (some (.inl (x_edge A).1)) g') : wX9_edge.1 [.inr (.inr 66)] g q := by
  have hz := hW.1
  refine m_wp_of (by simp [m_fit]) (fun J hJ => ?_)
  simp only [m_ini, Nat.reduceSub, List.replicate]
  unfold x_edge at h
  have loop : ∀ (m v : Nat) (g1 : m_G) (x3 x4 : Option m_V), v + m = 61 → r_H g g1 → g1 68 = A 68 → (∀ k, k < 64 → g1 71 k = A 68 k) → J 9 [some (.inr (.inr 66)), some (.inl (ed (A 68) v)), some (.inl v), x3, x4] [] g1 := by
    intro m
    induction m with
    | zero =>
      intro v g1 x3 x4 hv hH h68 h71
      have e : v = 61 := by omega
      subst e
      refine m_run_ok hJ (fun pc => pc == 9 || pc == 35) 60 _ _ _ _ ?_
      simp only [e_go, rX9_edge_0, rX9_edge_1, rX9_edge_4, rX9_edge_6, rX9_edge_7, rX9_edge_8, rX9_edge_9, rX9_edge_10, rX9_edge_12, rX9_edge_15, rX9_edge_16, rX9_edge_19, rX9_edge_20, rX9_edge_23, rX9_edge_24, rX9_edge_25, rX9_edge_26, rX9_edge_27, rX9_edge_30, rX9_edge_31, rX9_edge_33, rX9_edge_35, rX9_edge_37, rX9_edge_39, rX9_edge_42, rX9_edge_43, rX9_edge_46, rX9_edge_48, rX9_edge_49, rX9_edge_52, rX9_edge_53, rX9_edge_56, rX9_edge_58, rX9_edge_59, rX9_edge_62, rX9_edge_64, rX9_edge_65, rX9_edge_66, rX9_edge_69, rX9_edge_71, rX9_edge_72, rX9_edge_73, rX9_edge_74, rX9_edge_75, rX9_edge_78, rX9_edge_81, rX9_edge_82, rX9_edge_83, rX9_edge_86, rX9_edge_89, rX9_edge_90, rX9_edge_93, rX9_edge_95, rX9_edge_96, rX9_edge_97, rX9_edge_100, rX9_edge_103, rX9_edge_106, rX9_edge_107, e_ald0, e_bin, e_callV1, e_get, e_goto, e_iald, e_iast, e_icmp, e_if, e_ild1, e_ild2, e_ild3, e_ild4, e_inc2, e_inc4, e_ist1, e_ist2, e_ist3, e_ist4, e_neg, e_nl0, e_nl1, e_nl2, e_push, e_pushn, e_pushs, e_ret, m_b0, m_b01, m_b1, m_em, Classical.not_not, Nat.reduceBEq, Nat.reduceLT, Nat.reduceLeDiff, Nat.reduceAdd, cond_true, cond_false, Bool.or_false, Bool.false_or, Bool.or_true, Bool.true_or, beq_iff_eq, true_and, and_true, true_or, or_true, forall_const, not_true_eq_false, not_false_eq_true, false_implies, implies_true, Nat.reduceEqDiff, List.length_nil, List.length_cons, ob_66, fv_66_0, fv_66_1, fv_66_2, fv_66_3, fv_66_4, fv_66_5, fs_66_5, fv_66_6, fv_66_7, fv_66_8, fs_66_8, fv_66_9, fs_66_9, fv_66_10, fv_66_11, fv_66_12, fv_66_13, fv_66_14, fv_66_15, fv_66_16, fv_66_17, fv_66_18, fv_66_19, fv_66_20, fv_66_21, fv_66_22, fv_66_23, fs_66_23, fv_66_24, fs_66_24, fv_66_25, fs_66_25, fv_66_26, fs_66_26, fv_66_27, fs_66_27, fv_66_28, fs_66_28, fv_66_29, fv_66_30, fv_66_31, fs_66_31, fv_66_32, fv_66_33, fv_66_34, fs_66_34, kd_68, ln_68, Int.toNat_natCast, Int.toNat_one]
      exact ⟨fun _ => h g1 (hM.H hH h68), fun z => absurd z (by decide)⟩
    | succ m ih =>
      intro v g1 x3 x4 hv hH h68 h71
      refine m_run_ok hJ (fun pc => pc == 9 || pc == 35) 60 _ _ _ _ ?_
      simp only [e_go, rX9_edge_0, rX9_edge_1, rX9_edge_4, rX9_edge_6, rX9_edge_7, rX9_edge_8, rX9_edge_9, rX9_edge_10, rX9_edge_12, rX9_edge_15, rX9_edge_16, rX9_edge_19, rX9_edge_20, rX9_edge_23, rX9_edge_24, rX9_edge_25, rX9_edge_26, rX9_edge_27, rX9_edge_30, rX9_edge_31, rX9_edge_33, rX9_edge_35, rX9_edge_37, rX9_edge_39, rX9_edge_42, rX9_edge_43, rX9_edge_46, rX9_edge_48, rX9_edge_49, rX9_edge_52, rX9_edge_53, rX9_edge_56, rX9_edge_58, rX9_edge_59, rX9_edge_62, rX9_edge_64, rX9_edge_65, rX9_edge_66, rX9_edge_69, rX9_edge_71, rX9_edge_72, rX9_edge_73, rX9_edge_74, rX9_edge_75, rX9_edge_78, rX9_edge_81, rX9_edge_82, rX9_edge_83, rX9_edge_86, rX9_edge_89, rX9_edge_90, rX9_edge_93, rX9_edge_95, rX9_edge_96, rX9_edge_97, rX9_edge_100, rX9_edge_103, rX9_edge_106, rX9_edge_107, e_ald0, e_bin, e_callV1, e_get, e_goto, e_iald, e_iast, e_icmp, e_if, e_ild1, e_ild2, e_ild3, e_ild4, e_inc2, e_inc4, e_ist1, e_ist2, e_ist3, e_ist4, e_neg, e_nl0, e_nl1, e_nl2, e_push, e_pushn, e_pushs, e_ret, m_b0, m_b01, m_b1, m_em, Classical.not_not, Nat.reduceBEq, Nat.reduceLT, Nat.reduceLeDiff, Nat.reduceAdd, cond_true, cond_false, Bool.or_false, Bool.false_or, Bool.or_true, Bool.true_or, beq_iff_eq, true_and, and_true, true_or, or_true, forall_const, not_true_eq_false, not_false_eq_true, false_implies, implies_true, Nat.reduceEqDiff, List.length_nil, List.length_cons, ob_66, fv_66_0, fv_66_1, fv_66_2, fv_66_3, fv_66_4, fv_66_5, fs_66_5, fv_66_6, fv_66_7, fv_66_8, fs_66_8, fv_66_9, fs_66_9, fv_66_10, fv_66_11, fv_66_12, fv_66_13, fv_66_14, fv_66_15, fv_66_16, fv_66_17, fv_66_18, fv_66_19, fv_66_20, fv_66_21, fv_66_22, fv_66_23, fs_66_23, fv_66_24, fs_66_24, fv_66_25, fs_66_25, fv_66_26, fs_66_26, fv_66_27, fs_66_27, fv_66_28, fs_66_28, fv_66_29, fv_66_30, fv_66_31, fs_66_31, fv_66_32, fv_66_33, fv_66_34, fs_66_34, kd_68, ln_68, Int.toNat_natCast, Int.toNat_one]
      refine ⟨fun z => absurd z (by omega), fun _ => ⟨fun c => ?_, fun c => ⟨by decide, ?_⟩⟩⟩
      · have : ∀ i : Nat, ed (A 68) (v + i) = ed (A 68) v := by
          intro i
          induction i with
          | zero => rfl
          | succ i ii => rw [← Nat.add_assoc]; simp only [ed]; rw [ii, if_pos c]
        rw [← this (m + 1), hv]
        exact h g1 (hM.H hH h68)
      · have w2 : h_W (m_u (A 68) 2 v) := hW.set (w := 0) (by decide) (by unfold m_lst m_mst; simp; omega)
        have hrow : (m_up g1 68 (Int.toNat 2) v) 68 = m_u (A 68) 2 v := by rw [m_up_eq, h68]; rfl
        refine p9_costOf hrow w2 (fun g2 hG => ?_)
        simp only [e_go, rX9_edge_0, rX9_edge_1, rX9_edge_4, rX9_edge_6, rX9_edge_7, rX9_edge_8, rX9_edge_9, rX9_edge_10, rX9_edge_12, rX9_edge_15, rX9_edge_16, rX9_edge_19, rX9_edge_20, rX9_edge_23, rX9_edge_24, rX9_edge_25, rX9_edge_26, rX9_edge_27, rX9_edge_30, rX9_edge_31, rX9_edge_33, rX9_edge_35, rX9_edge_37, rX9_edge_39, rX9_edge_42, rX9_edge_43, rX9_edge_46, rX9_edge_48, rX9_edge_49, rX9_edge_52, rX9_edge_53, rX9_edge_56, rX9_edge_58, rX9_edge_59, rX9_edge_62, rX9_edge_64, rX9_edge_65, rX9_edge_66, rX9_edge_69, rX9_edge_71, rX9_edge_72, rX9_edge_73, rX9_edge_74, rX9_edge_75, rX9_edge_78, rX9_edge_81, rX9_edge_82, rX9_edge_83, rX9_edge_86, rX9_edge_89, rX9_edge_90, rX9_edge_93, rX9_edge_95, rX9_edge_96, rX9_edge_97, rX9_edge_100, rX9_edge_103, rX9_edge_106, rX9_edge_107, e_ald0, e_bin, e_callV1, e_get, e_goto, e_iald, e_iast, e_icmp, e_if, e_ild1, e_ild2, e_ild3, e_ild4, e_inc2, e_inc4, e_ist1, e_ist2, e_ist3, e_ist4, e_neg, e_nl0, e_nl1, e_nl2, e_push, e_pushn, e_pushs, e_ret, m_b0, m_b01, m_b1, m_em, Classical.not_not, Nat.reduceBEq, Nat.reduceLT, Nat.reduceLeDiff, Nat.reduceAdd, cond_true, cond_false, Bool.or_false, Bool.false_or, Bool.or_true, Bool.true_or, beq_iff_eq, true_and, and_true, true_or, or_true, forall_const, not_true_eq_false, not_false_eq_true, false_implies, implies_true, Nat.reduceEqDiff, List.length_nil, List.length_cons, ob_66, fv_66_0, fv_66_1, fv_66_2, fv_66_3, fv_66_4, fv_66_5, fs_66_5, fv_66_6, fv_66_7, fv_66_8, fs_66_8, fv_66_9, fs_66_9, fv_66_10, fv_66_11, fv_66_12, fv_66_13, fv_66_14, fv_66_15, fv_66_16, fv_66_17, fv_66_18, fv_66_19, fv_66_20, fv_66_21, fv_66_22, fv_66_23, fs_66_23, fv_66_24, fs_66_24, fv_66_25, fs_66_25, fv_66_26, fs_66_26, fv_66_27, fs_66_27, fv_66_28, fs_66_28, fv_66_29, fv_66_30, fv_66_31, fs_66_31, fv_66_32, fv_66_33, fv_66_34, fs_66_34, kd_68, ln_68, Int.toNat_natCast, Int.toNat_one]
        have e68 : g2 68 = m_u (A 68) 2 v := by rw [hG.s, hrow]
        have inn : ∀ (m i : Nat) (g1 : m_G), i + m = 64 → 40 ≤ i → r_H g g1 → (∀ k, g1 68 k = if 40 ≤ k ∧ k < i then s_narrow (m_u (A 68) 2 v) k else m_u (A 68) 2 v k) → (∀ k, k < 64 → g1 71 k = A 68 k) → J 35 [some (.inr (.inr 66)), some (.inl (ed (A 68) v)), some (.inl v), some (.inl (a_cost (m_u (A 68) 2 v))), some (.inl i)] [] g1 := by
          intro m
          induction m with
          | zero =>
            intro i g1 hi h40 hH h68 h71
            have e : i = 64 := by omega
            subst e
            refine m_run_ok hJ (fun pc => pc == 9 || pc == 35) 60 _ _ _ _ ?_
            simp only [e_go, rX9_edge_0, rX9_edge_1, rX9_edge_4, rX9_edge_6, rX9_edge_7, rX9_edge_8, rX9_edge_9, rX9_edge_10, rX9_edge_12, rX9_edge_15, rX9_edge_16, rX9_edge_19, rX9_edge_20, rX9_edge_23, rX9_edge_24, rX9_edge_25, rX9_edge_26, rX9_edge_27, rX9_edge_30, rX9_edge_31, rX9_edge_33, rX9_edge_35, rX9_edge_37, rX9_edge_39, rX9_edge_42, rX9_edge_43, rX9_edge_46, rX9_edge_48, rX9_edge_49, rX9_edge_52, rX9_edge_53, rX9_edge_56, rX9_edge_58, rX9_edge_59, rX9_edge_62, rX9_edge_64, rX9_edge_65, rX9_edge_66, rX9_edge_69, rX9_edge_71, rX9_edge_72, rX9_edge_73, rX9_edge_74, rX9_edge_75, rX9_edge_78, rX9_edge_81, rX9_edge_82, rX9_edge_83, rX9_edge_86, rX9_edge_89, rX9_edge_90, rX9_edge_93, rX9_edge_95, rX9_edge_96, rX9_edge_97, rX9_edge_100, rX9_edge_103, rX9_edge_106, rX9_edge_107, e_ald0, e_bin, e_callV1, e_get, e_goto, e_iald, e_iast, e_icmp, e_if, e_ild1, e_ild2, e_ild3, e_ild4, e_inc2, e_inc4, e_ist1, e_ist2, e_ist3, e_ist4, e_neg, e_nl0, e_nl1, e_nl2, e_push, e_pushn, e_pushs, e_ret, m_b0, m_b01, m_b1, m_em, Classical.not_not, Nat.reduceBEq, Nat.reduceLT, Nat.reduceLeDiff, Nat.reduceAdd, cond_true, cond_false, Bool.or_false, Bool.false_or, Bool.or_true, Bool.true_or, beq_iff_eq, true_and, and_true, true_or, or_true, forall_const, not_true_eq_false, not_false_eq_true, false_implies, implies_true, Nat.reduceEqDiff, List.length_nil, List.length_cons, ob_66, fv_66_0, fv_66_1, fv_66_2, fv_66_3, fv_66_4, fv_66_5, fs_66_5, fv_66_6, fv_66_7, fv_66_8, fs_66_8, fv_66_9, fs_66_9, fv_66_10, fv_66_11, fv_66_12, fv_66_13, fv_66_14, fv_66_15, fv_66_16, fv_66_17, fv_66_18, fv_66_19, fv_66_20, fv_66_21, fv_66_22, fv_66_23, fs_66_23, fv_66_24, fs_66_24, fv_66_25, fs_66_25, fv_66_26, fs_66_26, fv_66_27, fs_66_27, fv_66_28, fs_66_28, fv_66_29, fv_66_30, fv_66_31, fs_66_31, fv_66_32, fv_66_33, fv_66_34, fs_66_34, kd_68, ln_68, Int.toNat_natCast, Int.toNat_one]
            refine ⟨fun _ => ?_, fun z => absurd z (by decide)⟩
            have hr : g1 68 = s_narrow (m_u (A 68) 2 v) := by
              funext k
              rw [h68 k]
              by_cases e : 40 ≤ k ∧ k < 64
              · rw [if_pos e]
              · rw [if_neg e]
                unfold s_narrow
                rw [if_neg (fun z => by
                  have := z.2
                  rw [m_un (by omega), h0 k (by omega)] at this
                  exact absurd this (by decide))]
            refine p9_costOf hr w2.narrow (fun g3 hG3 => ?_)
            simp only [e_go, rX9_edge_0, rX9_edge_1, rX9_edge_4, rX9_edge_6, rX9_edge_7, rX9_edge_8, rX9_edge_9, rX9_edge_10, rX9_edge_12, rX9_edge_15, rX9_edge_16, rX9_edge_19, rX9_edge_20, rX9_edge_23, rX9_edge_24, rX9_edge_25, rX9_edge_26, rX9_edge_27, rX9_edge_30, rX9_edge_31, rX9_edge_33, rX9_edge_35, rX9_edge_37, rX9_edge_39, rX9_edge_42, rX9_edge_43, rX9_edge_46, rX9_edge_48, rX9_edge_49, rX9_edge_52, rX9_edge_53, rX9_edge_56, rX9_edge_58, rX9_edge_59, rX9_edge_62, rX9_edge_64, rX9_edge_65, rX9_edge_66, rX9_edge_69, rX9_edge_71, rX9_edge_72, rX9_edge_73, rX9_edge_74, rX9_edge_75, rX9_edge_78, rX9_edge_81, rX9_edge_82, rX9_edge_83, rX9_edge_86, rX9_edge_89, rX9_edge_90, rX9_edge_93, rX9_edge_95, rX9_edge_96, rX9_edge_97, rX9_edge_100, rX9_edge_103, rX9_edge_106, rX9_edge_107, e_ald0, e_bin, e_callV1, e_get, e_goto, e_iald, e_iast, e_icmp, e_if, e_ild1, e_ild2, e_ild3, e_ild4, e_inc2, e_inc4, e_ist1, e_ist2, e_ist3, e_ist4, e_neg, e_nl0, e_nl1, e_nl2, e_push, e_pushn, e_pushs, e_ret, m_b0, m_b01, m_b1, m_em, Classical.not_not, Nat.reduceBEq, Nat.reduceLT, Nat.reduceLeDiff, Nat.reduceAdd, cond_true, cond_false, Bool.or_false, Bool.false_or, Bool.or_true, Bool.true_or, beq_iff_eq, true_and, and_true, true_or, or_true, forall_const, not_true_eq_false, not_false_eq_true, false_implies, implies_true, Nat.reduceEqDiff, List.length_nil, List.length_cons, ob_66, fv_66_0, fv_66_1, fv_66_2, fv_66_3, fv_66_4, fv_66_5, fs_66_5, fv_66_6, fv_66_7, fv_66_8, fs_66_8, fv_66_9, fs_66_9, fv_66_10, fv_66_11, fv_66_12, fv_66_13, fv_66_14, fv_66_15, fv_66_16, fv_66_17, fv_66_18, fv_66_19, fv_66_20, fv_66_21, fv_66_22, fv_66_23, fs_66_23, fv_66_24, fs_66_24, fv_66_25, fs_66_25, fv_66_26, fs_66_26, fv_66_27, fs_66_27, fv_66_28, fs_66_28, fv_66_29, fv_66_30, fv_66_31, fs_66_31, fv_66_32, fv_66_33, fv_66_34, fs_66_34, kd_68, ln_68, Int.toNat_natCast, Int.toNat_one]
            have tail : ∀ r : Int, r = ed (A 68) (v + 1) → wX9_putsBack.1 [.inr (.inr 66)] g3 (fun x g' => J 9 [some (.inr (.inr 66)), some (.inl r), some (.inl ((v : Int) + 1)), some (.inl (a_cost (m_u (A 68) 2 v))), some (.inl 64)] (m_push x []) g') := by
              intro r hr2
              refine p9_putsBack (fun g' hO hB => ?_)
              rw [hr2]
              refine ih (v + 1) g' _ _ (by omega) ((hH.trans hG3.H).trans (r_H.only (fun j h1 _ => hO j h1))) ?_ (fun k hk => by rw [hO 71 (by decide), hG3.1 71 (by decide)]; exact h71 k hk)
              funext k
              rw [hB k]
              by_cases e : k < 64
              · rw [if_pos e, hG3.1 71 (by decide), h71 k e]
              · rw [if_neg e, hG3.s, h68 k, if_neg (by omega), m_un (by omega)]
            simp only [ed] at tail
            rw [if_neg c] at tail
            rw [m_w2 (x := (v : Int) + 1) (by omega) (by omega)]
            refine ⟨fun c2 => ?_, fun c2 => ?_⟩
            · exact tail _ (by rw [if_neg (by omega)])
            · exact tail _ (by rw [if_pos (by omega)])
          | succ m jh =>
            intro i g1 hi h40 hH h68 h71
            have hi1 := h68 i
            rw [if_neg (by omega)] at hi1
            refine m_run_ok hJ (fun pc => pc == 9 || pc == 35) 60 _ _ _ _ ?_
            simp only [e_go, rX9_edge_0, rX9_edge_1, rX9_edge_4, rX9_edge_6, rX9_edge_7, rX9_edge_8, rX9_edge_9, rX9_edge_10, rX9_edge_12, rX9_edge_15, rX9_edge_16, rX9_edge_19, rX9_edge_20, rX9_edge_23, rX9_edge_24, rX9_edge_25, rX9_edge_26, rX9_edge_27, rX9_edge_30, rX9_edge_31, rX9_edge_33, rX9_edge_35, rX9_edge_37, rX9_edge_39, rX9_edge_42, rX9_edge_43, rX9_edge_46, rX9_edge_48, rX9_edge_49, rX9_edge_52, rX9_edge_53, rX9_edge_56, rX9_edge_58, rX9_edge_59, rX9_edge_62, rX9_edge_64, rX9_edge_65, rX9_edge_66, rX9_edge_69, rX9_edge_71, rX9_edge_72, rX9_edge_73, rX9_edge_74, rX9_edge_75, rX9_edge_78, rX9_edge_81, rX9_edge_82, rX9_edge_83, rX9_edge_86, rX9_edge_89, rX9_edge_90, rX9_edge_93, rX9_edge_95, rX9_edge_96, rX9_edge_97, rX9_edge_100, rX9_edge_103, rX9_edge_106, rX9_edge_107, e_ald0, e_bin, e_callV1, e_get, e_goto, e_iald, e_iast, e_icmp, e_if, e_ild1, e_ild2, e_ild3, e_ild4, e_inc2, e_inc4, e_ist1, e_ist2, e_ist3, e_ist4, e_neg, e_nl0, e_nl1, e_nl2, e_push, e_pushn, e_pushs, e_ret, m_b0, m_b01, m_b1, m_em, Classical.not_not, Nat.reduceBEq, Nat.reduceLT, Nat.reduceLeDiff, Nat.reduceAdd, cond_true, cond_false, Bool.or_false, Bool.false_or, Bool.or_true, Bool.true_or, beq_iff_eq, true_and, and_true, true_or, or_true, forall_const, not_true_eq_false, not_false_eq_true, false_implies, implies_true, Nat.reduceEqDiff, List.length_nil, List.length_cons, ob_66, fv_66_0, fv_66_1, fv_66_2, fv_66_3, fv_66_4, fv_66_5, fs_66_5, fv_66_6, fv_66_7, fv_66_8, fs_66_8, fv_66_9, fs_66_9, fv_66_10, fv_66_11, fv_66_12, fv_66_13, fv_66_14, fv_66_15, fv_66_16, fv_66_17, fv_66_18, fv_66_19, fv_66_20, fv_66_21, fv_66_22, fv_66_23, fs_66_23, fv_66_24, fs_66_24, fv_66_25, fs_66_25, fv_66_26, fs_66_26, fv_66_27, fs_66_27, fv_66_28, fs_66_28, fv_66_29, fv_66_30, fv_66_31, fs_66_31, fv_66_32, fv_66_33, fv_66_34, fs_66_34, kd_68, ln_68, Int.toNat_natCast, Int.toNat_one]
            rw [hi1, m_w2 (x := (i : Int) + 1) (by omega) (by omega)]
            refine ⟨fun z => absurd z (by omega), fun _ => ⟨by omega, fun c2 => ?_, fun c2 => ?_⟩⟩
            · refine jh (i + 1) g1 (by omega) (by omega) hH (fun k => ?_) h71
              rw [h68 k]
              by_cases e : k = i
              · subst e
                rw [if_neg (by omega), if_pos (by omega)]
                unfold s_narrow
                rw [if_neg (by omega)]
              · by_cases e2 : 40 ≤ k ∧ k < i
                · rw [if_pos e2, if_pos (by omega)]
                · rw [if_neg e2, if_neg (by omega)]
            · refine ⟨by omega, by omega, by omega, ?_⟩
              refine jh (i + 1) _ (by omega) (by omega) hH.up (fun k => ?_) (fun k hk => by rw [m_up_ne (by decide)]; exact h71 k hk)
              rw [m_up_eq]
              by_cases e : k = i
              · subst e
                rw [m_us, if_pos (by omega)]
                unfold s_narrow
                rw [if_pos (by omega)]
              · rw [m_un e, h68 k]
                by_cases e2 : 40 ≤ k ∧ k < i
                · rw [if_pos e2, if_pos (by omega)]
                · rw [if_neg e2, if_neg (by omega)]
        refine inn 24 40 g2 (by omega) (by omega) (hH.up.trans hG.H) (fun k => by rw [if_neg (by omega), e68]) (fun k hk => by rw [hG.1 71 (by decide), m_up_ne (by decide), h71 k hk])
  refine m_run_ok hJ (fun pc => pc == 9 || pc == 35) 60 _ _ _ _ ?_
  simp only [e_go, rX9_edge_0, rX9_edge_1, rX9_edge_4, rX9_edge_6, rX9_edge_7, rX9_edge_8, rX9_edge_9, rX9_edge_10, rX9_edge_12, rX9_edge_15, rX9_edge_16, rX9_edge_19, rX9_edge_20, rX9_edge_23, rX9_edge_24, rX9_edge_25, rX9_edge_26, rX9_edge_27, rX9_edge_30, rX9_edge_31, rX9_edge_33, rX9_edge_35, rX9_edge_37, rX9_edge_39, rX9_edge_42, rX9_edge_43, rX9_edge_46, rX9_edge_48, rX9_edge_49, rX9_edge_52, rX9_edge_53, rX9_edge_56, rX9_edge_58, rX9_edge_59, rX9_edge_62, rX9_edge_64, rX9_edge_65, rX9_edge_66, rX9_edge_69, rX9_edge_71, rX9_edge_72, rX9_edge_73, rX9_edge_74, rX9_edge_75, rX9_edge_78, rX9_edge_81, rX9_edge_82, rX9_edge_83, rX9_edge_86, rX9_edge_89, rX9_edge_90, rX9_edge_93, rX9_edge_95, rX9_edge_96, rX9_edge_97, rX9_edge_100, rX9_edge_103, rX9_edge_106, rX9_edge_107, e_ald0, e_bin, e_callV1, e_get, e_goto, e_iald, e_iast, e_icmp, e_if, e_ild1, e_ild2, e_ild3, e_ild4, e_inc2, e_inc4, e_ist1, e_ist2, e_ist3, e_ist4, e_neg, e_nl0, e_nl1, e_nl2, e_push, e_pushn, e_pushs, e_ret, m_b0, m_b01, m_b1, m_em, Classical.not_not, Nat.reduceBEq, Nat.reduceLT, Nat.reduceLeDiff, Nat.reduceAdd, cond_true, cond_false, Bool.or_false, Bool.false_or, Bool.or_true, Bool.true_or, beq_iff_eq, true_and, and_true, true_or, or_true, forall_const, not_true_eq_false, not_false_eq_true, false_implies, implies_true, Nat.reduceEqDiff, List.length_nil, List.length_cons, ob_66, fv_66_0, fv_66_1, fv_66_2, fv_66_3, fv_66_4, fv_66_5, fs_66_5, fv_66_6, fv_66_7, fv_66_8, fs_66_8, fv_66_9, fs_66_9, fv_66_10, fv_66_11, fv_66_12, fv_66_13, fv_66_14, fv_66_15, fv_66_16, fv_66_17, fv_66_18, fv_66_19, fv_66_20, fv_66_21, fv_66_22, fv_66_23, fs_66_23, fv_66_24, fs_66_24, fv_66_25, fs_66_25, fv_66_26, fs_66_26, fv_66_27, fs_66_27, fv_66_28, fs_66_28, fv_66_29, fv_66_30, fv_66_31, fs_66_31, fv_66_32, fv_66_33, fv_66_34, fs_66_34, kd_68, ln_68, Int.toNat_natCast, Int.toNat_one]
  refine p9_keeps (fun g' hO hB => ?_)
  simp only [e_go, rX9_edge_0, rX9_edge_1, rX9_edge_4, rX9_edge_6, rX9_edge_7, rX9_edge_8, rX9_edge_9, rX9_edge_10, rX9_edge_12, rX9_edge_15, rX9_edge_16, rX9_edge_19, rX9_edge_20, rX9_edge_23, rX9_edge_24, rX9_edge_25, rX9_edge_26, rX9_edge_27, rX9_edge_30, rX9_edge_31, rX9_edge_33, rX9_edge_35, rX9_edge_37, rX9_edge_39, rX9_edge_42, rX9_edge_43, rX9_edge_46, rX9_edge_48, rX9_edge_49, rX9_edge_52, rX9_edge_53, rX9_edge_56, rX9_edge_58, rX9_edge_59, rX9_edge_62, rX9_edge_64, rX9_edge_65, rX9_edge_66, rX9_edge_69, rX9_edge_71, rX9_edge_72, rX9_edge_73, rX9_edge_74, rX9_edge_75, rX9_edge_78, rX9_edge_81, rX9_edge_82, rX9_edge_83, rX9_edge_86, rX9_edge_89, rX9_edge_90, rX9_edge_93, rX9_edge_95, rX9_edge_96, rX9_edge_97, rX9_edge_100, rX9_edge_103, rX9_edge_106, rX9_edge_107, e_ald0, e_bin, e_callV1, e_get, e_goto, e_iald, e_iast, e_icmp, e_if, e_ild1, e_ild2, e_ild3, e_ild4, e_inc2, e_inc4, e_ist1, e_ist2, e_ist3, e_ist4, e_neg, e_nl0, e_nl1, e_nl2, e_push, e_pushn, e_pushs, e_ret, m_b0, m_b01, m_b1, m_em, Classical.not_not, Nat.reduceBEq, Nat.reduceLT, Nat.reduceLeDiff, Nat.reduceAdd, cond_true, cond_false, Bool.or_false, Bool.false_or, Bool.or_true, Bool.true_or, beq_iff_eq, true_and, and_true, true_or, or_true, forall_const, not_true_eq_false, not_false_eq_true, false_implies, implies_true, Nat.reduceEqDiff, List.length_nil, List.length_cons, ob_66, fv_66_0, fv_66_1, fv_66_2, fv_66_3, fv_66_4, fv_66_5, fs_66_5, fv_66_6, fv_66_7, fv_66_8, fs_66_8, fv_66_9, fs_66_9, fv_66_10, fv_66_11, fv_66_12, fv_66_13, fv_66_14, fv_66_15, fv_66_16, fv_66_17, fv_66_18, fv_66_19, fv_66_20, fv_66_21, fv_66_22, fv_66_23, fs_66_23, fv_66_24, fs_66_24, fv_66_25, fs_66_25, fv_66_26, fs_66_26, fv_66_27, fs_66_27, fv_66_28, fs_66_28, fv_66_29, fv_66_30, fv_66_31, fs_66_31, fv_66_32, fv_66_33, fv_66_34, fs_66_34, kd_68, ln_68, Int.toNat_natCast, Int.toNat_one]
  exact loop 61 0 g' none none (by omega) (r_H.only (fun j _ h2 => hO j h2)) (by rw [hO 68 (by decide), hM.s]) (fun k hk => by rw [hB k hk, hM.s])
