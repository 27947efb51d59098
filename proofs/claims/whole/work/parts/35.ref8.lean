set_option maxRecDepth 20000
set_option maxHeartbeats 2000000
theorem r_R.wt {g : m_G} {Q : Nat → List d_C} {F : m_G} (h : r_R g (Q, F)) {T : Nat} {v : Int} : r_R (m_up g 81 T (m_wrap (g 81 T + m_wrap v))) (Q, d_wt F T v) := by
  obtain ⟨h1, h2, h3, h4, h5⟩ := h
  unfold r_R d_wt
  rw [Int.toNat_natCast]
  simp only [m_up_ne, m_up_eq, ne_eq, Nat.reduceEqDiff, not_false_eq_true, not_true_eq_false]
  refine ⟨h1, fun t ht => ?_, h3, h4, h5⟩
  obtain ⟨b1, b2, b3, b4⟩ := h2 t ht
  simp only at b1
  by_cases e : t = T
  · subst e; rw [m_us, m_us, b1]; exact ⟨rfl, b2, b3, b4⟩
  · rw [m_un e, m_un e]; exact ⟨b1, b2, b3, b4⟩
theorem r_F.wt {g g' : m_G} (h : r_F g g') {T : Nat} {v : Int} : r_F g (m_up g' 81 T v) := h.trans ⟨fun j hj => m_up_ne (by omega), fun k _ _ _ => by rw [m_up_ne (by decide)]⟩
theorem d_wt_ne {F : m_G} {t v : Int} {j : Nat} (h : j ≠ 4) : d_wt F t v j = F j := m_up_ne h
theorem d_rest_ne {j : Nat} (h : j ≠ 4) : ∀ (L : List d_C) (F : m_G), d_rest L F j = F j
  | [], _ => rfl
  | c :: r, F => by simp only [d_rest]; rw [d_rest_ne h r, d_wt_ne h]
theorem d_endl_Q (l : Nat) (σ : d_S) : (d_endl l σ).1 = σ.1 := by unfold d_endl; split <;> rfl
theorem d_end_Q : ∀ (n : Nat) (σ : d_S), (d_end n σ).1 = σ.1
  | 0, _ => rfl
  | n + 1, σ => by simp only [d_end]; rw [d_endl_Q, d_end_Q n]
theorem d_endl_ne {l j : Nat} (h : j ≠ 4) (σ : d_S) : (d_endl l σ).2 j = σ.2 j := by
  unfold d_endl
  split
  · rfl
  · simp only
    rw [d_rest_ne h]
    split
    · split
      · rw [d_wt_ne h]
      · rfl
    · rw [d_wt_ne h]
theorem d_end_ne {j : Nat} (h : j ≠ 4) : ∀ (n : Nat) (σ : d_S), (d_end n σ).2 j = σ.2 j
  | 0, _ => rfl
  | n + 1, σ => by simp only [d_end]; rw [d_endl_ne h, d_end_ne h n]
theorem d_I.keep {s : Nat → Int} {n : Nat} {σ σ' : d_S} (h : d_I s n σ) (hQ : σ'.1 = σ.1) (hF : ∀ j, j ≠ 4 → σ'.2 j = σ.2 j) : d_I s n σ' := by
  unfold d_I
  rw [hQ, hF 0 (by decide), hF 1 (by decide), hF 2 (by decide), hF 8 (by decide)]
  exact h
theorem p9_ends {s : Nat → Int} {σ : d_S} {g : m_G} {q : m_Post} (hs : g 68 = s) (hW : h_W s) (hR : r_R g σ) (hI : d_I s 7200 σ)
    (h : ∀ g', r_R g' (d_end (s 1).toNat σ) → r_F g g' → q none g') : wX9_ends.1 [.inr (.inr 66)] g q := by
  have hz := hW.1
  refine m_wp_of (by simp [m_fit]) (fun J hJ => ?_)
  simp only [m_ini, Nat.reduceSub, List.replicate]
  have loop : ∀ (m l : Nat) (g1 : m_G) (x2 x3 : Option m_V), l + m = (s 1).toNat → r_R g1 (d_end l σ) → r_F g g1 → J 2 [some (.inr (.inr 66)), some (.inl l), x2, x3] [] g1 := by
    intro m
    induction m with
    | zero =>
      intro l g1 x2 x3 hl hR1 hF1
      refine m_run_ok hJ (fun pc => pc == 2 || pc == 14 || pc == 113) 80 _ _ _ _ ?_
      simp only [e_go, rX9_ends_0, rX9_ends_1, rX9_ends_2, rX9_ends_3, rX9_ends_4, rX9_ends_7, rX9_ends_8, rX9_ends_9, rX9_ends_12, rX9_ends_13, rX9_ends_14, rX9_ends_15, rX9_ends_16, rX9_ends_19, rX9_ends_20, rX9_ends_21, rX9_ends_24, rX9_ends_25, rX9_ends_28, rX9_ends_30, rX9_ends_31, rX9_ends_32, rX9_ends_33, rX9_ends_34, rX9_ends_35, rX9_ends_36, rX9_ends_37, rX9_ends_40, rX9_ends_41, rX9_ends_44, rX9_ends_45, rX9_ends_46, rX9_ends_49, rX9_ends_50, rX9_ends_53, rX9_ends_54, rX9_ends_55, rX9_ends_56, rX9_ends_59, rX9_ends_60, rX9_ends_63, rX9_ends_65, rX9_ends_66, rX9_ends_67, rX9_ends_68, rX9_ends_69, rX9_ends_70, rX9_ends_71, rX9_ends_72, rX9_ends_73, rX9_ends_76, rX9_ends_77, rX9_ends_80, rX9_ends_81, rX9_ends_82, rX9_ends_85, rX9_ends_88, rX9_ends_89, rX9_ends_92, rX9_ends_93, rX9_ends_94, rX9_ends_95, rX9_ends_98, rX9_ends_99, rX9_ends_102, rX9_ends_103, rX9_ends_104, rX9_ends_105, rX9_ends_106, rX9_ends_107, rX9_ends_110, rX9_ends_113, rX9_ends_116, rX9_ends_119, e_ald0, e_bin, e_dup2, e_get, e_goto, e_iald, e_iast, e_icmp, e_if, e_ild1, e_ild2, e_ild3, e_inc1, e_inc2, e_ist1, e_ist2, e_ist3, e_nl0, e_nl1, e_nl2, e_push, e_retv, m_b0, m_b01, m_b1, m_em, Classical.not_not, Nat.reduceBEq, Nat.reduceLT, Nat.reduceLeDiff, Nat.reduceAdd, cond_true, cond_false, Bool.or_false, Bool.false_or, Bool.or_true, Bool.true_or, beq_iff_eq, true_and, and_true, true_or, or_true, forall_const, not_true_eq_false, not_false_eq_true, false_implies, implies_true, Nat.reduceEqDiff, List.length_nil, List.length_cons, ob_66, fv_66_0, fv_66_1, fv_66_2, fv_66_3, fv_66_4, fv_66_5, fs_66_5, fv_66_6, fv_66_7, fv_66_8, fs_66_8, fv_66_9, fs_66_9, fv_66_10, fv_66_11, fv_66_12, fv_66_13, fv_66_14, fv_66_15, fv_66_16, fv_66_17, fv_66_18, fv_66_19, fv_66_20, fv_66_21, fv_66_22, fv_66_23, fs_66_23, fv_66_24, fs_66_24, fv_66_25, fs_66_25, fv_66_26, fs_66_26, fv_66_27, fs_66_27, fv_66_28, fs_66_28, fv_66_29, fv_66_30, fv_66_31, fs_66_31, fv_66_32, fv_66_33, fv_66_34, fs_66_34, kd_68, ln_68, kd_74, ln_74, kd_75, ln_75, kd_78, ln_78, kd_79, ln_79, kd_81, ln_81, Int.toNat_natCast, Int.toNat_one]
      rw [hF1.s, hs]
      refine ⟨by omega, fun _ => ?_, fun c => absurd c (by omega)⟩
      rw [show l = (s 1).toNat by omega] at hR1
      exact h g1 hR1 hF1
    | succ m ih =>
      intro l g1 x2 x3 hl hR1 hF1
      have hl6 : l < 6 := by omega
      have hs1 : g1 68 = s := hF1.s.trans hs
      have hI1 : d_I s 7200 (d_end l σ) := hI.keep (d_end_Q l σ) (fun j hj => d_end_ne hj l σ)
      have s113 : ∀ (g2 : m_G) (x2 x3 : Option m_V), r_R g2 (d_endl l (d_end l σ)) → r_F g g2 → J 113 [some (.inr (.inr 66)), some (.inl l), x2, x3] [] g2 := by
        intro g2 x2 x3 hR2 hF2
        refine m_run_ok hJ (fun pc => pc == 2 || pc == 14) 80 _ _ _ _ ?_
        simp only [e_go, rX9_ends_0, rX9_ends_1, rX9_ends_2, rX9_ends_3, rX9_ends_4, rX9_ends_7, rX9_ends_8, rX9_ends_9, rX9_ends_12, rX9_ends_13, rX9_ends_14, rX9_ends_15, rX9_ends_16, rX9_ends_19, rX9_ends_20, rX9_ends_21, rX9_ends_24, rX9_ends_25, rX9_ends_28, rX9_ends_30, rX9_ends_31, rX9_ends_32, rX9_ends_33, rX9_ends_34, rX9_ends_35, rX9_ends_36, rX9_ends_37, rX9_ends_40, rX9_ends_41, rX9_ends_44, rX9_ends_45, rX9_ends_46, rX9_ends_49, rX9_ends_50, rX9_ends_53, rX9_ends_54, rX9_ends_55, rX9_ends_56, rX9_ends_59, rX9_ends_60, rX9_ends_63, rX9_ends_65, rX9_ends_66, rX9_ends_67, rX9_ends_68, rX9_ends_69, rX9_ends_70, rX9_ends_71, rX9_ends_72, rX9_ends_73, rX9_ends_76, rX9_ends_77, rX9_ends_80, rX9_ends_81, rX9_ends_82, rX9_ends_85, rX9_ends_88, rX9_ends_89, rX9_ends_92, rX9_ends_93, rX9_ends_94, rX9_ends_95, rX9_ends_98, rX9_ends_99, rX9_ends_102, rX9_ends_103, rX9_ends_104, rX9_ends_105, rX9_ends_106, rX9_ends_107, rX9_ends_110, rX9_ends_113, rX9_ends_116, rX9_ends_119, e_ald0, e_bin, e_dup2, e_get, e_goto, e_iald, e_iast, e_icmp, e_if, e_ild1, e_ild2, e_ild3, e_inc1, e_inc2, e_ist1, e_ist2, e_ist3, e_nl0, e_nl1, e_nl2, e_push, e_retv, m_b0, m_b01, m_b1, m_em, Classical.not_not, Nat.reduceBEq, Nat.reduceLT, Nat.reduceLeDiff, Nat.reduceAdd, cond_true, cond_false, Bool.or_false, Bool.false_or, Bool.or_true, Bool.true_or, beq_iff_eq, true_and, and_true, true_or, or_true, forall_const, not_true_eq_false, not_false_eq_true, false_implies, implies_true, Nat.reduceEqDiff, List.length_nil, List.length_cons, ob_66, fv_66_0, fv_66_1, fv_66_2, fv_66_3, fv_66_4, fv_66_5, fs_66_5, fv_66_6, fv_66_7, fv_66_8, fs_66_8, fv_66_9, fs_66_9, fv_66_10, fv_66_11, fv_66_12, fv_66_13, fv_66_14, fv_66_15, fv_66_16, fv_66_17, fv_66_18, fv_66_19, fv_66_20, fv_66_21, fv_66_22, fv_66_23, fs_66_23, fv_66_24, fs_66_24, fv_66_25, fs_66_25, fv_66_26, fs_66_26, fv_66_27, fs_66_27, fv_66_28, fs_66_28, fv_66_29, fv_66_30, fv_66_31, fs_66_31, fv_66_32, fv_66_33, fv_66_34, fs_66_34, kd_68, ln_68, kd_74, ln_74, kd_75, ln_75, kd_78, ln_78, kd_79, ln_79, kd_81, ln_81, Int.toNat_natCast, Int.toNat_one]
        rw [m_w2 (x := (l : Int) + 1) (by omega) (by omega)]
        exact ih (l + 1) g2 x2 x3 (by omega) hR2 hF2
      generalize d_end l σ = σ1 at hR1 hI1 s113
      obtain ⟨Q, F⟩ := σ1
      have hlen := d_len hW hI1 l hl6
      obtain ⟨⟨r1, r2, -⟩, r6⟩ := hR1.1 l hl6
      have i2 := (hI1.1 l hl6).2.1
      unfold d_endl at s113
      simp only at r1 r2 r6 i2 hlen s113
      have ixx : ∀ i : Nat, i < 60 → m_wrap (m_wrap (60 * (l : Int)) + (i : Int)) = ((60 * l + i : Nat) : Int) := by
        intro i hi
        rw [m_w2 (x := 60 * (l : Int)) (by omega) (by omega), m_w2 (by omega) (by omega)]; omega
      -- cars behind the first
      have rest : ∀ (Ff : m_G), (∀ (g2 : m_G) (x2 x3 : Option m_V), r_R g2 (Q, Ff) → r_F g g2 → J 113 [some (.inr (.inr 66)), some (.inl l), x2, x3] [] g2) → ∀ (m i : Nat) (g2 : m_G) (F2 : m_G) (x3 : Option m_V), i + m = (Q l).length → 1 ≤ i → r_R g2 (Q, F2) → r_F g g2 → d_rest ((Q l).drop i) F2 = Ff → J 14 [some (.inr (.inr 66)), some (.inl l), some (.inl i), x3] [] g2 := by
        intro Ff hend m
        induction m with
        | zero =>
          intro i g2 F2 x3 hi h1 hR2 hF2 hd
          refine m_run_ok hJ (fun pc => pc == 2 || pc == 14 || pc == 113) 80 _ _ _ _ ?_
          simp only [e_go, rX9_ends_0, rX9_ends_1, rX9_ends_2, rX9_ends_3, rX9_ends_4, rX9_ends_7, rX9_ends_8, rX9_ends_9, rX9_ends_12, rX9_ends_13, rX9_ends_14, rX9_ends_15, rX9_ends_16, rX9_ends_19, rX9_ends_20, rX9_ends_21, rX9_ends_24, rX9_ends_25, rX9_ends_28, rX9_ends_30, rX9_ends_31, rX9_ends_32, rX9_ends_33, rX9_ends_34, rX9_ends_35, rX9_ends_36, rX9_ends_37, rX9_ends_40, rX9_ends_41, rX9_ends_44, rX9_ends_45, rX9_ends_46, rX9_ends_49, rX9_ends_50, rX9_ends_53, rX9_ends_54, rX9_ends_55, rX9_ends_56, rX9_ends_59, rX9_ends_60, rX9_ends_63, rX9_ends_65, rX9_ends_66, rX9_ends_67, rX9_ends_68, rX9_ends_69, rX9_ends_70, rX9_ends_71, rX9_ends_72, rX9_ends_73, rX9_ends_76, rX9_ends_77, rX9_ends_80, rX9_ends_81, rX9_ends_82, rX9_ends_85, rX9_ends_88, rX9_ends_89, rX9_ends_92, rX9_ends_93, rX9_ends_94, rX9_ends_95, rX9_ends_98, rX9_ends_99, rX9_ends_102, rX9_ends_103, rX9_ends_104, rX9_ends_105, rX9_ends_106, rX9_ends_107, rX9_ends_110, rX9_ends_113, rX9_ends_116, rX9_ends_119, e_ald0, e_bin, e_dup2, e_get, e_goto, e_iald, e_iast, e_icmp, e_if, e_ild1, e_ild2, e_ild3, e_inc1, e_inc2, e_ist1, e_ist2, e_ist3, e_nl0, e_nl1, e_nl2, e_push, e_retv, m_b0, m_b01, m_b1, m_em, Classical.not_not, Nat.reduceBEq, Nat.reduceLT, Nat.reduceLeDiff, Nat.reduceAdd, cond_true, cond_false, Bool.or_false, Bool.false_or, Bool.or_true, Bool.true_or, beq_iff_eq, true_and, and_true, true_or, or_true, forall_const, not_true_eq_false, not_false_eq_true, false_implies, implies_true, Nat.reduceEqDiff, List.length_nil, List.length_cons, ob_66, fv_66_0, fv_66_1, fv_66_2, fv_66_3, fv_66_4, fv_66_5, fs_66_5, fv_66_6, fv_66_7, fv_66_8, fs_66_8, fv_66_9, fs_66_9, fv_66_10, fv_66_11, fv_66_12, fv_66_13, fv_66_14, fv_66_15, fv_66_16, fv_66_17, fv_66_18, fv_66_19, fv_66_20, fv_66_21, fv_66_22, fv_66_23, fs_66_23, fv_66_24, fs_66_24, fv_66_25, fs_66_25, fv_66_26, fs_66_26, fv_66_27, fs_66_27, fv_66_28, fs_66_28, fv_66_29, fv_66_30, fv_66_31, fs_66_31, fv_66_32, fv_66_33, fv_66_34, fs_66_34, kd_68, ln_68, kd_74, ln_74, kd_75, ln_75, kd_78, ln_78, kd_79, ln_79, kd_81, ln_81, Int.toNat_natCast, Int.toNat_one]
          obtain ⟨⟨b1, b2, -⟩, b6⟩ := hR2.1 l hl6
          simp only at b1
          rw [b1]
          refine ⟨by omega, fun _ => ?_, fun c => absurd c (by omega)⟩
          rw [List.drop_eq_nil_of_le (by omega)] at hd
          simp only [d_rest] at hd
          rw [hd] at hR2
          exact hend g2 _ _ hR2 hF2
        | succ m jh =>
          intro i g2 F2 x3 hi h1 hR2 hF2 hd
          have hlt : i < (Q l).length := by omega
          obtain ⟨⟨b1, b2, -⟩, b6⟩ := hR2.1 l hl6
          simp only at b1 b6
          have hc := b6 i _ (List.getElem?_eq_getElem hlt)
          have hci := i2 _ (List.getElem_mem hlt)
          obtain ⟨T, hT⟩ : ∃ T : Nat, ((Q l)[i]).1 = (T : Int) := ⟨((Q l)[i]).1.toNat, by have := hci.1; omega⟩
          have ix := ixx i (by omega)
          rw [List.drop_eq_getElem_cons hlt] at hd
          simp only [d_rest] at hd
          refine m_run_ok hJ (fun pc => pc == 2 || pc == 14 || pc == 113) 80 _ _ _ _ ?_
          simp only [e_go, rX9_ends_0, rX9_ends_1, rX9_ends_2, rX9_ends_3, rX9_ends_4, rX9_ends_7, rX9_ends_8, rX9_ends_9, rX9_ends_12, rX9_ends_13, rX9_ends_14, rX9_ends_15, rX9_ends_16, rX9_ends_19, rX9_ends_20, rX9_ends_21, rX9_ends_24, rX9_ends_25, rX9_ends_28, rX9_ends_30, rX9_ends_31, rX9_ends_32, rX9_ends_33, rX9_ends_34, rX9_ends_35, rX9_ends_36, rX9_ends_37, rX9_ends_40, rX9_ends_41, rX9_ends_44, rX9_ends_45, rX9_ends_46, rX9_ends_49, rX9_ends_50, rX9_ends_53, rX9_ends_54, rX9_ends_55, rX9_ends_56, rX9_ends_59, rX9_ends_60, rX9_ends_63, rX9_ends_65, rX9_ends_66, rX9_ends_67, rX9_ends_68, rX9_ends_69, rX9_ends_70, rX9_ends_71, rX9_ends_72, rX9_ends_73, rX9_ends_76, rX9_ends_77, rX9_ends_80, rX9_ends_81, rX9_ends_82, rX9_ends_85, rX9_ends_88, rX9_ends_89, rX9_ends_92, rX9_ends_93, rX9_ends_94, rX9_ends_95, rX9_ends_98, rX9_ends_99, rX9_ends_102, rX9_ends_103, rX9_ends_104, rX9_ends_105, rX9_ends_106, rX9_ends_107, rX9_ends_110, rX9_ends_113, rX9_ends_116, rX9_ends_119, e_ald0, e_bin, e_dup2, e_get, e_goto, e_iald, e_iast, e_icmp, e_if, e_ild1, e_ild2, e_ild3, e_inc1, e_inc2, e_ist1, e_ist2, e_ist3, e_nl0, e_nl1, e_nl2, e_push, e_retv, m_b0, m_b01, m_b1, m_em, Classical.not_not, Nat.reduceBEq, Nat.reduceLT, Nat.reduceLeDiff, Nat.reduceAdd, cond_true, cond_false, Bool.or_false, Bool.false_or, Bool.or_true, Bool.true_or, beq_iff_eq, true_and, and_true, true_or, or_true, forall_const, not_true_eq_false, not_false_eq_true, false_implies, implies_true, Nat.reduceEqDiff, List.length_nil, List.length_cons, ob_66, fv_66_0, fv_66_1, fv_66_2, fv_66_3, fv_66_4, fv_66_5, fs_66_5, fv_66_6, fv_66_7, fv_66_8, fs_66_8, fv_66_9, fs_66_9, fv_66_10, fv_66_11, fv_66_12, fv_66_13, fv_66_14, fv_66_15, fv_66_16, fv_66_17, fv_66_18, fv_66_19, fv_66_20, fv_66_21, fv_66_22, fv_66_23, fs_66_23, fv_66_24, fs_66_24, fv_66_25, fs_66_25, fv_66_26, fs_66_26, fv_66_27, fs_66_27, fv_66_28, fs_66_28, fv_66_29, fv_66_30, fv_66_31, fs_66_31, fv_66_32, fv_66_33, fv_66_34, fs_66_34, kd_68, ln_68, kd_74, ln_74, kd_75, ln_75, kd_78, ln_78, kd_79, ln_79, kd_81, ln_81, Int.toNat_natCast, Int.toNat_one]
          rw [b1, ix, Int.toNat_natCast, hc.1, hT, Int.toNat_natCast, hc.2.1, m_w2 (x := (i : Int) + 1) (by omega) (by omega)]
          refine ⟨by omega, fun c => absurd c (by omega), fun _ => ⟨by omega, fun _ => ⟨by omega, by omega, by omega, ?_⟩, fun c => absurd c (by omega)⟩⟩
          rw [hT] at hd
          exact jh (i + 1) _ _ _ (by omega) (by omega) hR2.wt hF2.wt hd
      refine m_run_ok hJ (fun pc => pc == 2 || pc == 14) 80 _ _ _ _ ?_
      simp only [e_go, rX9_ends_0, rX9_ends_1, rX9_ends_2, rX9_ends_3, rX9_ends_4, rX9_ends_7, rX9_ends_8, rX9_ends_9, rX9_ends_12, rX9_ends_13, rX9_ends_14, rX9_ends_15, rX9_ends_16, rX9_ends_19, rX9_ends_20, rX9_ends_21, rX9_ends_24, rX9_ends_25, rX9_ends_28, rX9_ends_30, rX9_ends_31, rX9_ends_32, rX9_ends_33, rX9_ends_34, rX9_ends_35, rX9_ends_36, rX9_ends_37, rX9_ends_40, rX9_ends_41, rX9_ends_44, rX9_ends_45, rX9_ends_46, rX9_ends_49, rX9_ends_50, rX9_ends_53, rX9_ends_54, rX9_ends_55, rX9_ends_56, rX9_ends_59, rX9_ends_60, rX9_ends_63, rX9_ends_65, rX9_ends_66, rX9_ends_67, rX9_ends_68, rX9_ends_69, rX9_ends_70, rX9_ends_71, rX9_ends_72, rX9_ends_73, rX9_ends_76, rX9_ends_77, rX9_ends_80, rX9_ends_81, rX9_ends_82, rX9_ends_85, rX9_ends_88, rX9_ends_89, rX9_ends_92, rX9_ends_93, rX9_ends_94, rX9_ends_95, rX9_ends_98, rX9_ends_99, rX9_ends_102, rX9_ends_103, rX9_ends_104, rX9_ends_105, rX9_ends_106, rX9_ends_107, rX9_ends_110, rX9_ends_113, rX9_ends_116, rX9_ends_119, e_ald0, e_bin, e_dup2, e_get, e_goto, e_iald, e_iast, e_icmp, e_if, e_ild1, e_ild2, e_ild3, e_inc1, e_inc2, e_ist1, e_ist2, e_ist3, e_nl0, e_nl1, e_nl2, e_push, e_retv, m_b0, m_b01, m_b1, m_em, Classical.not_not, Nat.reduceBEq, Nat.reduceLT, Nat.reduceLeDiff, Nat.reduceAdd, cond_true, cond_false, Bool.or_false, Bool.false_or, Bool.or_true, Bool.true_or, beq_iff_eq, true_and, and_true, true_or, or_true, forall_const, not_true_eq_false, not_false_eq_true, false_implies, implies_true, Nat.reduceEqDiff, List.length_nil, List.length_cons, ob_66, fv_66_0, fv_66_1, fv_66_2, fv_66_3, fv_66_4, fv_66_5, fs_66_5, fv_66_6, fv_66_7, fv_66_8, fs_66_8, fv_66_9, fs_66_9, fv_66_10, fv_66_11, fv_66_12, fv_66_13, fv_66_14, fv_66_15, fv_66_16, fv_66_17, fv_66_18, fv_66_19, fv_66_20, fv_66_21, fv_66_22, fv_66_23, fs_66_23, fv_66_24, fs_66_24, fv_66_25, fs_66_25, fv_66_26, fs_66_26, fv_66_27, fs_66_27, fv_66_28, fs_66_28, fv_66_29, fv_66_30, fv_66_31, fs_66_31, fv_66_32, fv_66_33, fv_66_34, fs_66_34, kd_68, ln_68, kd_74, ln_74, kd_75, ln_75, kd_78, ln_78, kd_79, ln_79, kd_81, ln_81, Int.toNat_natCast, Int.toNat_one]
      rw [hs1]
      refine ⟨by omega, fun c => absurd c (by omega), fun _ => ?_⟩
      cases hq : Q l with
      | nil =>
        rw [hq] at r1
        rw [hq] at s113
        simp only at s113
        refine m_run_ok hJ (fun pc => pc == 2 || pc == 14 || pc == 113) 80 _ _ _ _ ?_
        simp only [e_go, rX9_ends_0, rX9_ends_1, rX9_ends_2, rX9_ends_3, rX9_ends_4, rX9_ends_7, rX9_ends_8, rX9_ends_9, rX9_ends_12, rX9_ends_13, rX9_ends_14, rX9_ends_15, rX9_ends_16, rX9_ends_19, rX9_ends_20, rX9_ends_21, rX9_ends_24, rX9_ends_25, rX9_ends_28, rX9_ends_30, rX9_ends_31, rX9_ends_32, rX9_ends_33, rX9_ends_34, rX9_ends_35, rX9_ends_36, rX9_ends_37, rX9_ends_40, rX9_ends_41, rX9_ends_44, rX9_ends_45, rX9_ends_46, rX9_ends_49, rX9_ends_50, rX9_ends_53, rX9_ends_54, rX9_ends_55, rX9_ends_56, rX9_ends_59, rX9_ends_60, rX9_ends_63, rX9_ends_65, rX9_ends_66, rX9_ends_67, rX9_ends_68, rX9_ends_69, rX9_ends_70, rX9_ends_71, rX9_ends_72, rX9_ends_73, rX9_ends_76, rX9_ends_77, rX9_ends_80, rX9_ends_81, rX9_ends_82, rX9_ends_85, rX9_ends_88, rX9_ends_89, rX9_ends_92, rX9_ends_93, rX9_ends_94, rX9_ends_95, rX9_ends_98, rX9_ends_99, rX9_ends_102, rX9_ends_103, rX9_ends_104, rX9_ends_105, rX9_ends_106, rX9_ends_107, rX9_ends_110, rX9_ends_113, rX9_ends_116, rX9_ends_119, e_ald0, e_bin, e_dup2, e_get, e_goto, e_iald, e_iast, e_icmp, e_if, e_ild1, e_ild2, e_ild3, e_inc1, e_inc2, e_ist1, e_ist2, e_ist3, e_nl0, e_nl1, e_nl2, e_push, e_retv, m_b0, m_b01, m_b1, m_em, Classical.not_not, Nat.reduceBEq, Nat.reduceLT, Nat.reduceLeDiff, Nat.reduceAdd, cond_true, cond_false, Bool.or_false, Bool.false_or, Bool.or_true, Bool.true_or, beq_iff_eq, true_and, and_true, true_or, or_true, forall_const, not_true_eq_false, not_false_eq_true, false_implies, implies_true, Nat.reduceEqDiff, List.length_nil, List.length_cons, ob_66, fv_66_0, fv_66_1, fv_66_2, fv_66_3, fv_66_4, fv_66_5, fs_66_5, fv_66_6, fv_66_7, fv_66_8, fs_66_8, fv_66_9, fs_66_9, fv_66_10, fv_66_11, fv_66_12, fv_66_13, fv_66_14, fv_66_15, fv_66_16, fv_66_17, fv_66_18, fv_66_19, fv_66_20, fv_66_21, fv_66_22, fv_66_23, fs_66_23, fv_66_24, fs_66_24, fv_66_25, fs_66_25, fv_66_26, fs_66_26, fv_66_27, fs_66_27, fv_66_28, fs_66_28, fv_66_29, fv_66_30, fv_66_31, fs_66_31, fv_66_32, fv_66_33, fv_66_34, fs_66_34, kd_68, ln_68, kd_74, ln_74, kd_75, ln_75, kd_78, ln_78, kd_79, ln_79, kd_81, ln_81, Int.toNat_natCast, Int.toNat_one]
        rw [r1]
        exact ⟨by omega, fun _ => s113 g1 _ _ hR1 hF1, fun c => absurd c (by simp)⟩
      | cons c r =>
        rw [hq] at r1 r6 i2 s113
        simp only at s113
        have hc := r6 0 c rfl
        rw [Nat.add_zero] at hc
        have hci := i2 c List.mem_cons_self
        obtain ⟨T, hT⟩ : ∃ T : Nat, c.1 = (T : Int) := ⟨c.1.toNat, by have := hci.1; omega⟩
        have ix : m_wrap (m_wrap (60 * (l : Int)) + 0) = ((60 * l : Nat) : Int) := ixx 0 (by omega)
        have k1 : m_wrap (0 + 1) = 1 := m_w2 (by decide) (by decide)
        have go : ∀ g2 F2 x3, r_R g2 (Q, F2) → r_F g g2 → d_rest r F2 = _ → J 14 [some (.inr (.inr 66)), some (.inl l), some (.inl (1 : Nat)), x3] [] g2 := fun g2 F2 x3 e1 e2 e3 => rest _ s113 r.length 1 g2 F2 x3 (by rw [hq]; simp; omega) (Nat.le_refl 1) e1 e2 (by rw [hq]; exact e3)
        refine m_run_ok hJ (fun pc => pc == 2 || pc == 14 || pc == 113) 80 _ _ _ _ ?_
        simp only [e_go, rX9_ends_0, rX9_ends_1, rX9_ends_2, rX9_ends_3, rX9_ends_4, rX9_ends_7, rX9_ends_8, rX9_ends_9, rX9_ends_12, rX9_ends_13, rX9_ends_14, rX9_ends_15, rX9_ends_16, rX9_ends_19, rX9_ends_20, rX9_ends_21, rX9_ends_24, rX9_ends_25, rX9_ends_28, rX9_ends_30, rX9_ends_31, rX9_ends_32, rX9_ends_33, rX9_ends_34, rX9_ends_35, rX9_ends_36, rX9_ends_37, rX9_ends_40, rX9_ends_41, rX9_ends_44, rX9_ends_45, rX9_ends_46, rX9_ends_49, rX9_ends_50, rX9_ends_53, rX9_ends_54, rX9_ends_55, rX9_ends_56, rX9_ends_59, rX9_ends_60, rX9_ends_63, rX9_ends_65, rX9_ends_66, rX9_ends_67, rX9_ends_68, rX9_ends_69, rX9_ends_70, rX9_ends_71, rX9_ends_72, rX9_ends_73, rX9_ends_76, rX9_ends_77, rX9_ends_80, rX9_ends_81, rX9_ends_82, rX9_ends_85, rX9_ends_88, rX9_ends_89, rX9_ends_92, rX9_ends_93, rX9_ends_94, rX9_ends_95, rX9_ends_98, rX9_ends_99, rX9_ends_102, rX9_ends_103, rX9_ends_104, rX9_ends_105, rX9_ends_106, rX9_ends_107, rX9_ends_110, rX9_ends_113, rX9_ends_116, rX9_ends_119, e_ald0, e_bin, e_dup2, e_get, e_goto, e_iald, e_iast, e_icmp, e_if, e_ild1, e_ild2, e_ild3, e_inc1, e_inc2, e_ist1, e_ist2, e_ist3, e_nl0, e_nl1, e_nl2, e_push, e_retv, m_b0, m_b01, m_b1, m_em, Classical.not_not, Nat.reduceBEq, Nat.reduceLT, Nat.reduceLeDiff, Nat.reduceAdd, cond_true, cond_false, Bool.or_false, Bool.false_or, Bool.or_true, Bool.true_or, beq_iff_eq, true_and, and_true, true_or, or_true, forall_const, not_true_eq_false, not_false_eq_true, false_implies, implies_true, Nat.reduceEqDiff, List.length_nil, List.length_cons, ob_66, fv_66_0, fv_66_1, fv_66_2, fv_66_3, fv_66_4, fv_66_5, fs_66_5, fv_66_6, fv_66_7, fv_66_8, fs_66_8, fv_66_9, fs_66_9, fv_66_10, fv_66_11, fv_66_12, fv_66_13, fv_66_14, fv_66_15, fv_66_16, fv_66_17, fv_66_18, fv_66_19, fv_66_20, fv_66_21, fv_66_22, fv_66_23, fs_66_23, fv_66_24, fs_66_24, fv_66_25, fs_66_25, fv_66_26, fs_66_26, fv_66_27, fs_66_27, fv_66_28, fs_66_28, fv_66_29, fv_66_30, fv_66_31, fs_66_31, fv_66_32, fv_66_33, fv_66_34, fs_66_34, kd_68, ln_68, kd_74, ln_74, kd_75, ln_75, kd_78, ln_78, kd_79, ln_79, kd_81, ln_81, Int.toNat_natCast, Int.toNat_one]
        rw [r1, ix, Int.toNat_natCast, hc.1, hT, Int.toNat_natCast, hc.2.1, r2, k1]
        simp only [List.length_cons]
        rw [hT] at go
        refine ⟨by omega, fun z => absurd z (by omega), fun _ => ⟨by omega, fun z => absurd z (by omega), fun _ => ⟨by omega, fun c1 => ?_, fun c1 => ⟨by omega, by omega, by omega, ?_⟩⟩⟩⟩
        · rw [if_pos c1] at go
          refine ⟨by omega, fun c2 => ?_, fun c2 => ⟨by omega, by omega, by omega, ?_⟩⟩
          · rw [if_neg (by omega)] at go
            exact go g1 F _ hR1 hF1 rfl
          · rw [if_pos (by omega)] at go
            exact go _ _ _ hR1.wt hF1.wt rfl
        · rw [if_neg c1] at go
          exact go _ _ _ hR1.wt hF1.wt rfl
  refine m_run_ok hJ (fun pc => pc == 2) 80 _ _ _ _ ?_
  simp only [e_go, rX9_ends_0, rX9_ends_1, rX9_ends_2, rX9_ends_3, rX9_ends_4, rX9_ends_7, rX9_ends_8, rX9_ends_9, rX9_ends_12, rX9_ends_13, rX9_ends_14, rX9_ends_15, rX9_ends_16, rX9_ends_19, rX9_ends_20, rX9_ends_21, rX9_ends_24, rX9_ends_25, rX9_ends_28, rX9_ends_30, rX9_ends_31, rX9_ends_32, rX9_ends_33, rX9_ends_34, rX9_ends_35, rX9_ends_36, rX9_ends_37, rX9_ends_40, rX9_ends_41, rX9_ends_44, rX9_ends_45, rX9_ends_46, rX9_ends_49, rX9_ends_50, rX9_ends_53, rX9_ends_54, rX9_ends_55, rX9_ends_56, rX9_ends_59, rX9_ends_60, rX9_ends_63, rX9_ends_65, rX9_ends_66, rX9_ends_67, rX9_ends_68, rX9_ends_69, rX9_ends_70, rX9_ends_71, rX9_ends_72, rX9_ends_73, rX9_ends_76, rX9_ends_77, rX9_ends_80, rX9_ends_81, rX9_ends_82, rX9_ends_85, rX9_ends_88, rX9_ends_89, rX9_ends_92, rX9_ends_93, rX9_ends_94, rX9_ends_95, rX9_ends_98, rX9_ends_99, rX9_ends_102, rX9_ends_103, rX9_ends_104, rX9_ends_105, rX9_ends_106, rX9_ends_107, rX9_ends_110, rX9_ends_113, rX9_ends_116, rX9_ends_119, e_ald0, e_bin, e_dup2, e_get, e_goto, e_iald, e_iast, e_icmp, e_if, e_ild1, e_ild2, e_ild3, e_inc1, e_inc2, e_ist1, e_ist2, e_ist3, e_nl0, e_nl1, e_nl2, e_push, e_retv, m_b0, m_b01, m_b1, m_em, Classical.not_not, Nat.reduceBEq, Nat.reduceLT, Nat.reduceLeDiff, Nat.reduceAdd, cond_true, cond_false, Bool.or_false, Bool.false_or, Bool.or_true, Bool.true_or, beq_iff_eq, true_and, and_true, true_or, or_true, forall_const, not_true_eq_false, not_false_eq_true, false_implies, implies_true, Nat.reduceEqDiff, List.length_nil, List.length_cons, ob_66, fv_66_0, fv_66_1, fv_66_2, fv_66_3, fv_66_4, fv_66_5, fs_66_5, fv_66_6, fv_66_7, fv_66_8, fs_66_8, fv_66_9, fs_66_9, fv_66_10, fv_66_11, fv_66_12, fv_66_13, fv_66_14, fv_66_15, fv_66_16, fv_66_17, fv_66_18, fv_66_19, fv_66_20, fv_66_21, fv_66_22, fv_66_23, fs_66_23, fv_66_24, fs_66_24, fv_66_25, fs_66_25, fv_66_26, fs_66_26, fv_66_27, fs_66_27, fv_66_28, fs_66_28, fv_66_29, fv_66_30, fv_66_31, fs_66_31, fv_66_32, fv_66_33, fv_66_34, fs_66_34, kd_68, ln_68, kd_74, ln_74, kd_75, ln_75, kd_78, ln_78, kd_79, ln_79, kd_81, ln_81, Int.toNat_natCast, Int.toNat_one]
  exact loop (s 1).toNat 0 g none none (by omega) hR r_F.rfl'
