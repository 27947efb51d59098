theorem p_wordOf {b : Nat} (hb : m_hs b) {l k : Int} {g : m_G} {s : Nat → Int} {q : m_Post} (hR : h_R g b s) (h : q (some (.inl (if (0 ≤ l ∧ l < s 1) ∧ 0 ≤ k ∧ k < 4 then wd s l.toNat k.toNat else 0))) g) : wX2_wordOf.1 [.inr (.inr b), .inl l, .inl k] g q := by
  have hz := hR.2.1
  refine m_wp_of (by simp [m_fit]) (fun J hJ => ?_)
  simp only [m_ini, Nat.reduceSub, List.replicate]
  refine m_run_ok hJ (fun pc => pc == 29) 60 _ _ _ _ ?_
  simp only [e_go, rX2_wordOf_0, rX2_wordOf_1, rX2_wordOf_2, rX2_wordOf_5, rX2_wordOf_8, rX2_wordOf_9, rX2_wordOf_12, rX2_wordOf_15, rX2_wordOf_16, rX2_wordOf_17, rX2_wordOf_18, rX2_wordOf_21, rX2_wordOf_22, rX2_wordOf_23, rX2_wordOf_24, rX2_wordOf_25, rX2_wordOf_26, rX2_wordOf_27, rX2_wordOf_29, rX2_wordOf_31, rX2_wordOf_32, rX2_wordOf_35, rX2_wordOf_36, rX2_wordOf_39, rX2_wordOf_40, rX2_wordOf_41, rX2_wordOf_42, rX2_wordOf_44, rX2_wordOf_45, rX2_wordOf_46, rX2_wordOf_48, rX2_wordOf_50, rX2_wordOf_51, rX2_wordOf_54, rX2_wordOf_55, rX2_wordOf_58, rX2_wordOf_60, rX2_wordOf_61, rX2_wordOf_64, rX2_wordOf_67, rX2_wordOf_68, e_ald0, e_bin, e_callS1, e_callV2, e_get, e_goto, e_iald, e_icmp, e_if, e_ild1, e_ild2, e_ild3, e_ild4, e_ild5, e_inc4, e_ist3, e_ist4, e_ist5, e_nl0, e_nl1, e_nl2, e_push, e_pushn, e_pushs, e_ret, m_b0, m_b01, m_b1, m_em, Classical.not_not, Nat.reduceBEq, Nat.reduceLT, Nat.reduceLeDiff, Nat.reduceAdd, cond_true, cond_false, Bool.or_false, Bool.false_or, Bool.or_true, Bool.true_or, beq_iff_eq, true_and, and_true, true_or, or_true, forall_const, not_true_eq_false, not_false_eq_true, false_implies, implies_true, Nat.reduceEqDiff, List.length_nil, List.length_cons, obH hb, fvH0 hb, fsH0 hb, fvH1 hb, fsH1 hb, fvH2 hb, fvH3 hb, fvH4 hb, fvH5 hb, fvH6 hb, fvH7 hb, kdH1 hb, lnH1 hb, ltH1 hb, kdH2 hb, lnH2 hb, ltH2 hb, kdH3 hb, lnH3 hb, ltH3 hb, kdH4 hb, lnH4 hb, ltH4 hb, kdH5 hb, lnH5 hb, ltH5 hb, kdH6 hb, lnH6 hb, ltH6 hb]
  refine p_hasLane hb hR ?_
  simp only [e_go, rX2_wordOf_0, rX2_wordOf_1, rX2_wordOf_2, rX2_wordOf_5, rX2_wordOf_8, rX2_wordOf_9, rX2_wordOf_12, rX2_wordOf_15, rX2_wordOf_16, rX2_wordOf_17, rX2_wordOf_18, rX2_wordOf_21, rX2_wordOf_22, rX2_wordOf_23, rX2_wordOf_24, rX2_wordOf_25, rX2_wordOf_26, rX2_wordOf_27, rX2_wordOf_29, rX2_wordOf_31, rX2_wordOf_32, rX2_wordOf_35, rX2_wordOf_36, rX2_wordOf_39, rX2_wordOf_40, rX2_wordOf_41, rX2_wordOf_42, rX2_wordOf_44, rX2_wordOf_45, rX2_wordOf_46, rX2_wordOf_48, rX2_wordOf_50, rX2_wordOf_51, rX2_wordOf_54, rX2_wordOf_55, rX2_wordOf_58, rX2_wordOf_60, rX2_wordOf_61, rX2_wordOf_64, rX2_wordOf_67, rX2_wordOf_68, e_ald0, e_bin, e_callS1, e_callV2, e_get, e_goto, e_iald, e_icmp, e_if, e_ild1, e_ild2, e_ild3, e_ild4, e_ild5, e_inc4, e_ist3, e_ist4, e_ist5, e_nl0, e_nl1, e_nl2, e_push, e_pushn, e_pushs, e_ret, m_b0, m_b01, m_b1, m_em, Classical.not_not, Nat.reduceBEq, Nat.reduceLT, Nat.reduceLeDiff, Nat.reduceAdd, cond_true, cond_false, Bool.or_false, Bool.false_or, Bool.or_true, Bool.true_or, beq_iff_eq, true_and, and_true, true_or, or_true, forall_const, not_true_eq_false, not_false_eq_true, false_implies, implies_true, Nat.reduceEqDiff, List.length_nil, List.length_cons, obH hb, fvH0 hb, fsH0 hb, fvH1 hb, fsH1 hb, fvH2 hb, fvH3 hb, fvH4 hb, fvH5 hb, fvH6 hb, fvH7 hb, kdH1 hb, lnH1 hb, ltH1 hb, kdH2 hb, lnH2 hb, ltH2 hb, kdH3 hb, lnH3 hb, ltH3 hb, kdH4 hb, lnH4 hb, ltH4 hb, kdH5 hb, lnH5 hb, ltH5 hb, kdH6 hb, lnH6 hb, ltH6 hb]
  refine ⟨fun c1 => ?_, fun c1 => ?_⟩
  · rw [if_neg (fun z => c1 z.1)] at h; exact h
  · refine p_isQuarter ?_
    simp only [e_go, rX2_wordOf_0, rX2_wordOf_1, rX2_wordOf_2, rX2_wordOf_5, rX2_wordOf_8, rX2_wordOf_9, rX2_wordOf_12, rX2_wordOf_15, rX2_wordOf_16, rX2_wordOf_17, rX2_wordOf_18, rX2_wordOf_21, rX2_wordOf_22, rX2_wordOf_23, rX2_wordOf_24, rX2_wordOf_25, rX2_wordOf_26, rX2_wordOf_27, rX2_wordOf_29, rX2_wordOf_31, rX2_wordOf_32, rX2_wordOf_35, rX2_wordOf_36, rX2_wordOf_39, rX2_wordOf_40, rX2_wordOf_41, rX2_wordOf_42, rX2_wordOf_44, rX2_wordOf_45, rX2_wordOf_46, rX2_wordOf_48, rX2_wordOf_50, rX2_wordOf_51, rX2_wordOf_54, rX2_wordOf_55, rX2_wordOf_58, rX2_wordOf_60, rX2_wordOf_61, rX2_wordOf_64, rX2_wordOf_67, rX2_wordOf_68, e_ald0, e_bin, e_callS1, e_callV2, e_get, e_goto, e_iald, e_icmp, e_if, e_ild1, e_ild2, e_ild3, e_ild4, e_ild5, e_inc4, e_ist3, e_ist4, e_ist5, e_nl0, e_nl1, e_nl2, e_push, e_pushn, e_pushs, e_ret, m_b0, m_b01, m_b1, m_em, Classical.not_not, Nat.reduceBEq, Nat.reduceLT, Nat.reduceLeDiff, Nat.reduceAdd, cond_true, cond_false, Bool.or_false, Bool.false_or, Bool.or_true, Bool.true_or, beq_iff_eq, true_and, and_true, true_or, or_true, forall_const, not_true_eq_false, not_false_eq_true, false_implies, implies_true, Nat.reduceEqDiff, List.length_nil, List.length_cons, obH hb, fvH0 hb, fsH0 hb, fvH1 hb, fsH1 hb, fvH2 hb, fvH3 hb, fvH4 hb, fvH5 hb, fvH6 hb, fvH7 hb, kdH1 hb, lnH1 hb, ltH1 hb, kdH2 hb, lnH2 hb, ltH2 hb, kdH3 hb, lnH3 hb, ltH3 hb, kdH4 hb, lnH4 hb, ltH4 hb, kdH5 hb, lnH5 hb, ltH5 hb, kdH6 hb, lnH6 hb, ltH6 hb]
    refine ⟨fun c2 => ?_, fun c2 => ?_⟩
    rotate_left
    · rw [if_neg (fun z => c2 z.2)] at h; exact h
    · rw [if_pos ⟨c1, c2⟩] at h
      have hw := hR.2.2.2.2 l.toNat (by omega)
      have loop : ∀ (n i : Nat) (x5 : Option m_V), i + n = k.toNat + 1 → 1 ≤ i → J 29 [some (.inr (.inr b)), some (.inl l), some (.inl k), some (.inl (wd s l.toNat (i - 1))), some (.inl (i : Int)), x5] [] g := by
        intro n
        induction n with
        | zero =>
          intro i x5 hi h1
          refine m_run_ok hJ (fun pc => pc == 29) 60 _ _ _ _ ?_
          simp only [e_go, rX2_wordOf_0, rX2_wordOf_1, rX2_wordOf_2, rX2_wordOf_5, rX2_wordOf_8, rX2_wordOf_9, rX2_wordOf_12, rX2_wordOf_15, rX2_wordOf_16, rX2_wordOf_17, rX2_wordOf_18, rX2_wordOf_21, rX2_wordOf_22, rX2_wordOf_23, rX2_wordOf_24, rX2_wordOf_25, rX2_wordOf_26, rX2_wordOf_27, rX2_wordOf_29, rX2_wordOf_31, rX2_wordOf_32, rX2_wordOf_35, rX2_wordOf_36, rX2_wordOf_39, rX2_wordOf_40, rX2_wordOf_41, rX2_wordOf_42, rX2_wordOf_44, rX2_wordOf_45, rX2_wordOf_46, rX2_wordOf_48, rX2_wordOf_50, rX2_wordOf_51, rX2_wordOf_54, rX2_wordOf_55, rX2_wordOf_58, rX2_wordOf_60, rX2_wordOf_61, rX2_wordOf_64, rX2_wordOf_67, rX2_wordOf_68, e_ald0, e_bin, e_callS1, e_callV2, e_get, e_goto, e_iald, e_icmp, e_if, e_ild1, e_ild2, e_ild3, e_ild4, e_ild5, e_inc4, e_ist3, e_ist4, e_ist5, e_nl0, e_nl1, e_nl2, e_push, e_pushn, e_pushs, e_ret, m_b0, m_b01, m_b1, m_em, Classical.not_not, Nat.reduceBEq, Nat.reduceLT, Nat.reduceLeDiff, Nat.reduceAdd, cond_true, cond_false, Bool.or_false, Bool.false_or, Bool.or_true, Bool.true_or, beq_iff_eq, true_and, and_true, true_or, or_true, forall_const, not_true_eq_false, not_false_eq_true, false_implies, implies_true, Nat.reduceEqDiff, List.length_nil, List.length_cons, obH hb, fvH0 hb, fsH0 hb, fvH1 hb, fsH1 hb, fvH2 hb, fvH3 hb, fvH4 hb, fvH5 hb, fvH6 hb, fvH7 hb, kdH1 hb, lnH1 hb, ltH1 hb, kdH2 hb, lnH2 hb, ltH2 hb, kdH3 hb, lnH3 hb, ltH3 hb, kdH4 hb, lnH4 hb, ltH4 hb, kdH5 hb, lnH5 hb, ltH5 hb, kdH6 hb, lnH6 hb, ltH6 hb]
          refine ⟨fun c3 => ?_, fun c3 => absurd c3 (by omega)⟩
          rw [show i - 1 = k.toNat by omega]; exact h
        | succ n ih =>
          intro i x5 hi h1
          refine m_run_ok hJ (fun pc => pc == 29) 60 _ _ _ _ ?_
          simp only [e_go, rX2_wordOf_0, rX2_wordOf_1, rX2_wordOf_2, rX2_wordOf_5, rX2_wordOf_8, rX2_wordOf_9, rX2_wordOf_12, rX2_wordOf_15, rX2_wordOf_16, rX2_wordOf_17, rX2_wordOf_18, rX2_wordOf_21, rX2_wordOf_22, rX2_wordOf_23, rX2_wordOf_24, rX2_wordOf_25, rX2_wordOf_26, rX2_wordOf_27, rX2_wordOf_29, rX2_wordOf_31, rX2_wordOf_32, rX2_wordOf_35, rX2_wordOf_36, rX2_wordOf_39, rX2_wordOf_40, rX2_wordOf_41, rX2_wordOf_42, rX2_wordOf_44, rX2_wordOf_45, rX2_wordOf_46, rX2_wordOf_48, rX2_wordOf_50, rX2_wordOf_51, rX2_wordOf_54, rX2_wordOf_55, rX2_wordOf_58, rX2_wordOf_60, rX2_wordOf_61, rX2_wordOf_64, rX2_wordOf_67, rX2_wordOf_68, e_ald0, e_bin, e_callS1, e_callV2, e_get, e_goto, e_iald, e_icmp, e_if, e_ild1, e_ild2, e_ild3, e_ild4, e_ild5, e_inc4, e_ist3, e_ist4, e_ist5, e_nl0, e_nl1, e_nl2, e_push, e_pushn, e_pushs, e_ret, m_b0, m_b01, m_b1, m_em, Classical.not_not, Nat.reduceBEq, Nat.reduceLT, Nat.reduceLeDiff, Nat.reduceAdd, cond_true, cond_false, Bool.or_false, Bool.false_or, Bool.or_true, Bool.true_or, beq_iff_eq, true_and, and_true, true_or, or_true, forall_const, not_true_eq_false, not_false_eq_true, false_implies, implies_true, Nat.reduceEqDiff, List.length_nil, List.length_cons, obH hb, fvH0 hb, fsH0 hb, fvH1 hb, fsH1 hb, fvH2 hb, fvH3 hb, fvH4 hb, fvH5 hb, fvH6 hb, fvH7 hb, kdH1 hb, lnH1 hb, ltH1 hb, kdH2 hb, lnH2 hb, ltH2 hb, kdH3 hb, lnH3 hb, ltH3 hb, kdH4 hb, lnH4 hb, ltH4 hb, kdH5 hb, lnH5 hb, ltH5 hb, kdH6 hb, lnH6 hb, ltH6 hb]
          refine ⟨fun c3 => absurd c3 (by omega), fun c3 => ?_⟩
          have e1 : m_wrap (m_wrap (l * 4) + i) = 4 * l + i := m_ix c1.1 (by omega) (by omega) (by omega)
          have e2 : (4 * l + (i : Int)).toNat = 4 * l.toNat + i := by omega
          have e3 : m_wrap ((i : Int) + 1) = ((i + 1 : Nat) : Int) := by simp only [m_wrap_eq]; omega
          have hwi := hw.1 i (by omega)
          have ih' := ih (i + 1) (some (.inl (g (b + 5) (4 * l.toNat + i)))) (by omega) (by omega)
          rw [e1, e2, e3]
          obtain ⟨j, rfl⟩ : ∃ j, i = j + 1 := ⟨i - 1, by omega⟩
          rw [show j + 1 + 1 - 1 = j + 1 by omega] at ih'
          rw [show j + 1 - 1 = j by omega]
          have ed : wd s l.toNat (j + 1) = if s (40 + 4 * l.toNat + (j + 1)) < 0 then wd s l.toNat j else s (40 + 4 * l.toNat + (j + 1)) := rfl
          refine ⟨by omega, fun c4 => ?_, fun c4 => ?_⟩
          · rcases hwi with ⟨w1, w2⟩ | ⟨w1, w2, w3⟩
            · exact absurd w1 c4
            · rw [ed, if_neg (by omega), ← w1] at ih'; exact ih'
          · rcases hwi with ⟨w1, w2⟩ | ⟨w1, w2, w3⟩
            · rw [ed, if_pos (by omega)] at ih'; exact ih'
            · omega
      have e0 : m_wrap (l * 4) = 4 * l := by simp only [m_wrap_eq]; omega
      have e00 : (4 * l).toNat = 4 * l.toNat := by omega
      have hw0 := hw.1 0 (by omega)
      have hwd : wd s l.toNat (1 - 1) = g (b + 5) (4 * l.toNat) := by
        show s (40 + 4 * l.toNat) = _
        rcases hw0 with ⟨w1, w2⟩ | ⟨w1, w2, w3⟩
        · have := hw.2; have w2' : s (40 + 4 * l.toNat) = -9 := w2; omega
        · exact w1.symm
      rw [e0, e00]
      have h1 := loop k.toNat 1 none (by omega) (by omega)
      rw [hwd] at h1
      exact ⟨by omega, h1⟩
