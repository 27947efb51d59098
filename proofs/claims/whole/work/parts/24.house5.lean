set_option maxRecDepth 20000
set_option maxHeartbeats 2000000
/-- no need is told -/
def h_Z (g : m_G) (b : Nat) : Prop := ∀ k, k < 20 → g (b + 4) k = 0
def h_out (g g' : m_G) (b : Nat) : Prop := ∀ j, (j < b ∨ b + 7 ≤ j) → g' j = g j
def s_sort (s : Nat → Int) (a c : Int) : Nat → Int := fun j => if j = 0 then s 0 + 1 else if j = 10 + 6 * (s 0).toNat then a else if j = 11 + 6 * (s 0).toNat then c else if 12 + 6 * (s 0).toNat ≤ j ∧ j < 16 + 6 * (s 0).toNat then 0 else s j
def s_lane (s : Nat → Int) (a : Int) : Nat → Int := fun j => if j = 1 then s 1 + 1 else if j = 40 + 4 * (s 1).toNat then a else if 40 + 4 * (s 1).toNat < j ∧ j < 44 + 4 * (s 1).toNat then -9 else s j
theorem p_addSort_no {b : Nat} (hb : m_hs b) {a c : Int} {g : m_G} {s : Nat → Int} {q : m_Post} (hR : h_R g b s) (hno : 5 ≤ s 0 ∨ a < 1 ∨ 60 < a ∨ c < 1 ∨ 99 < c) (h : q (some (.inl 0)) g) : wX2_addSort.1 [.inr (.inr b), .inl a, .inl c] g q := by
  have e0 := hR.1.1
  clear hR
  refine m_wp_of (by simp [m_fit]) (fun J hJ => ?_)
  simp only [m_ini, Nat.reduceSub, List.replicate]
  refine m_run_ok hJ (fun pc => pc == 32) 40 _ _ _ _ ?_
  simp only [e_go, rX2_addSort_0, rX2_addSort_1, rX2_addSort_4, rX2_addSort_5, rX2_addSort_8, rX2_addSort_9, rX2_addSort_10, rX2_addSort_13, rX2_addSort_14, rX2_addSort_16, rX2_addSort_19, rX2_addSort_20, rX2_addSort_21, rX2_addSort_24, rX2_addSort_25, rX2_addSort_27, rX2_addSort_30, rX2_addSort_31, rX2_addSort_32, rX2_addSort_33, rX2_addSort_36, rX2_addSort_37, rX2_addSort_40, rX2_addSort_41, rX2_addSort_42, rX2_addSort_43, rX2_addSort_46, rX2_addSort_47, rX2_addSort_50, rX2_addSort_51, rX2_addSort_52, rX2_addSort_53, rX2_addSort_54, rX2_addSort_55, rX2_addSort_56, rX2_addSort_59, rX2_addSort_60, rX2_addSort_63, rX2_addSort_64, rX2_addSort_67, rX2_addSort_68, rX2_addSort_69, rX2_addSort_70, rX2_addSort_71, rX2_addSort_72, rX2_addSort_73, rX2_addSort_74, rX2_addSort_77, rX2_addSort_78, rX2_addSort_81, rX2_addSort_82, rX2_addSort_83, rX2_addSort_84, rX2_addSort_85, rX2_addSort_86, rX2_addSort_87, rX2_addSort_90, rX2_addSort_93, rX2_addSort_94, rX2_addSort_95, rX2_addSort_98, rX2_addSort_99, rX2_addSort_100, rX2_addSort_103, rX2_addSort_104, e_ald0, e_bin, e_dupi, e_dupr, e_get, e_goto, e_iast, e_icmp, e_ild1, e_ild2, e_ild3, e_inc3, e_ist3, e_nl0, e_nl1, e_nl2, e_push, e_put, e_retz, m_b0, m_b01, m_b1, m_em, Classical.not_not, Nat.reduceBEq, Nat.reduceLT, Nat.reduceLeDiff, Nat.reduceAdd, cond_true, cond_false, Bool.or_false, Bool.false_or, Bool.or_true, Bool.true_or, beq_iff_eq, true_and, and_true, true_or, or_true, forall_const, not_true_eq_false, not_false_eq_true, false_implies, implies_true, Nat.reduceEqDiff, List.length_nil, List.length_cons, obH hb, fvH0 hb, fsH0 hb, fvH1 hb, fsH1 hb, fvH2 hb, fvH3 hb, fvH4 hb, fvH5 hb, fvH6 hb, fvH7 hb, kdH1 hb, lnH1 hb, ltH1 hb, kdH2 hb, lnH2 hb, ltH2 hb, kdH3 hb, lnH3 hb, ltH3 hb, kdH4 hb, lnH4 hb, ltH4 hb, kdH5 hb, lnH5 hb, ltH5 hb, kdH6 hb, lnH6 hb, ltH6 hb, e0]
  refine ⟨fun _ => h, fun c1 => ⟨fun _ => h, fun c2 => ⟨fun _ => h, fun c3 => ⟨fun _ => h, fun c4 => ⟨fun c5 => absurd hno (by omega), fun _ => h⟩⟩⟩⟩⟩
theorem p_addSort {b : Nat} (hb : m_hs b) {a c : Int} {g : m_G} {s : Nat → Int} {q : m_Post} (hR : h_R g b s) (hyes : s 0 < 5 ∧ 1 ≤ a ∧ a ≤ 60 ∧ 1 ≤ c ∧ c ≤ 99)
    (h : ∀ g' : m_G, h_R g' b (s_sort s a c) → (h_Z g b → h_Z g' b) → h_out g g' b → q (some (.inl 1)) g') : wX2_addSort.1 [.inr (.inr b), .inl a, .inl c] g q := by
  have e0 := hR.1.1
  have hz := hR.2.1
  obtain ⟨S, hS⟩ : ∃ S : Nat, s 0 = (S : Int) := ⟨(s 0).toNat, by omega⟩
  have hS5 : S < 5 := by omega
  rw [hS] at e0
  refine m_wp_of (by simp [m_fit]) (fun J hJ => ?_)
  simp only [m_ini, Nat.reduceSub, List.replicate]
  have loop : ∀ (n i : Nat) (g' : m_G), i + n = 4 → (∀ j, j ≠ b + 1 → j ≠ b + 2 → j ≠ b + 3 → j ≠ b + 4 → g' j = g j) → g' (b + 1) = m_u (g (b + 1)) S a → g' (b + 2) = m_u (g (b + 2)) S c →
      (∀ n, g' (b + 3) n = if 4 * S ≤ n ∧ n < 4 * S + i then 0 else g (b + 3) n) → (∀ n, g' (b + 4) n = if 4 * S ≤ n ∧ n < 4 * S + i then 0 else g (b + 4) n) → J 54 [some (.inr (.inr b)), some (.inl a), some (.inl c), some (.inl (i : Int))] [] g' := by
    intro n
    induction n with
    | zero =>
      intro i g' hi h0 h1 h2 h3 h4
      refine m_run_ok hJ (fun pc => pc == 54) 40 _ _ _ _ ?_
      simp only [e_go, rX2_addSort_0, rX2_addSort_1, rX2_addSort_4, rX2_addSort_5, rX2_addSort_8, rX2_addSort_9, rX2_addSort_10, rX2_addSort_13, rX2_addSort_14, rX2_addSort_16, rX2_addSort_19, rX2_addSort_20, rX2_addSort_21, rX2_addSort_24, rX2_addSort_25, rX2_addSort_27, rX2_addSort_30, rX2_addSort_31, rX2_addSort_32, rX2_addSort_33, rX2_addSort_36, rX2_addSort_37, rX2_addSort_40, rX2_addSort_41, rX2_addSort_42, rX2_addSort_43, rX2_addSort_46, rX2_addSort_47, rX2_addSort_50, rX2_addSort_51, rX2_addSort_52, rX2_addSort_53, rX2_addSort_54, rX2_addSort_55, rX2_addSort_56, rX2_addSort_59, rX2_addSort_60, rX2_addSort_63, rX2_addSort_64, rX2_addSort_67, rX2_addSort_68, rX2_addSort_69, rX2_addSort_70, rX2_addSort_71, rX2_addSort_72, rX2_addSort_73, rX2_addSort_74, rX2_addSort_77, rX2_addSort_78, rX2_addSort_81, rX2_addSort_82, rX2_addSort_83, rX2_addSort_84, rX2_addSort_85, rX2_addSort_86, rX2_addSort_87, rX2_addSort_90, rX2_addSort_93, rX2_addSort_94, rX2_addSort_95, rX2_addSort_98, rX2_addSort_99, rX2_addSort_100, rX2_addSort_103, rX2_addSort_104, e_ald0, e_bin, e_dupi, e_dupr, e_get, e_goto, e_iast, e_icmp, e_ild1, e_ild2, e_ild3, e_inc3, e_ist3, e_nl0, e_nl1, e_nl2, e_push, e_put, e_retz, m_b0, m_b01, m_b1, m_em, Classical.not_not, Nat.reduceBEq, Nat.reduceLT, Nat.reduceLeDiff, Nat.reduceAdd, cond_true, cond_false, Bool.or_false, Bool.false_or, Bool.or_true, Bool.true_or, beq_iff_eq, true_and, and_true, true_or, or_true, forall_const, not_true_eq_false, not_false_eq_true, false_implies, implies_true, Nat.reduceEqDiff, List.length_nil, List.length_cons, obH hb, fvH0 hb, fsH0 hb, fvH1 hb, fsH1 hb, fvH2 hb, fvH3 hb, fvH4 hb, fvH5 hb, fvH6 hb, fvH7 hb, kdH1 hb, lnH1 hb, ltH1 hb, kdH2 hb, lnH2 hb, ltH2 hb, kdH3 hb, lnH3 hb, ltH3 hb, kdH4 hb, lnH4 hb, ltH4 hb, kdH5 hb, lnH5 hb, ltH5 hb, kdH6 hb, lnH6 hb, ltH6 hb]
      refine ⟨fun _ => ?_, fun z => absurd z (by omega)⟩
      rw [show i = 4 by omega] at h3 h4
      rw [h0 b (by omega) (by omega) (by omega) (by omega), e0, m_w2 (x := (S : Int) + 1) (by omega) (by omega)]
      refine h _ ?_ (fun hZ k hk => ?_) (fun j hj => ?_)
      · obtain ⟨⟨a1, a2⟩, a3, a4, a5, a6⟩ := hR
        have hT : (s 0).toNat = S := by omega
        have us : ∀ j, j ≠ 0 → (j < 10 + 6 * S ∨ 16 + 6 * S ≤ j) → s_sort s a c j = s j := fun j h1 h2 => by
          unfold s_sort; rw [hT, if_neg h1, if_neg (by omega), if_neg (by omega), if_neg (by omega)]
        have u0 : s_sort s a c 0 = (S : Int) + 1 := by unfold s_sort; rw [if_pos rfl, hS]
        have ne : ∀ j, j ≠ b → m_up g' b 0 ((S : Int) + 1) j = g' j := fun j hj => m_up_ne hj
        unfold h_R
        rw [m_up_eq, m_us, m_un (by omega), u0, us 1 (by omega) (by omega), h0 b (by omega) (by omega) (by omega) (by omega)]
        refine ⟨⟨rfl, a2⟩, ⟨by omega, a3.2⟩, fun k hk => ?_, fun t ht => ?_, fun l hl => ⟨fun k hk => ?_, ?_⟩⟩
        · rw [ne _ (by omega), us _ (by omega) (by omega), h0 _ (by omega) (by omega) (by omega) (by omega)]; exact a4 k hk
        · rw [ne _ (by omega), ne _ (by omega), ne _ (by omega), h1, h2]
          by_cases e : t = S
          · subst e
            refine ⟨?_, ?_, fun k hk => ?_⟩
            · rw [m_us]; unfold s_sort; rw [hT, if_neg (by omega), if_pos rfl]
            · rw [m_us]; unfold s_sort; rw [hT, if_neg (by omega), if_neg (by omega), if_pos rfl]
            · rw [h3, if_pos (by omega)]; unfold s_sort; rw [hT, if_neg (by omega), if_neg (by omega), if_neg (by omega), if_pos (by omega)]
          · obtain ⟨d1, d2, d3⟩ := a5 t (by omega)
            refine ⟨?_, ?_, fun k hk => ?_⟩
            · rw [m_un e, us _ (by omega) (by omega)]; exact d1
            · rw [m_un e, us _ (by omega) (by omega)]; exact d2
            · rw [h3, if_neg (by omega), us _ (by omega) (by omega)]; exact d3 k hk
        · rw [ne _ (by omega), us _ (by omega) (by omega), h0 _ (by omega) (by omega) (by omega) (by omega)]; exact (a6 l hl).1 k hk
        · rw [us _ (by omega) (by omega)]; exact (a6 l hl).2
      · rw [m_up_ne (by omega), h4]; split
        · rfl
        · exact hZ k hk
      · rw [m_up_ne (by omega)]; exact h0 j (by omega) (by omega) (by omega) (by omega)
    | succ n ih =>
      intro i g' hi h0 h1 h2 h3 h4
      refine m_run_ok hJ (fun pc => pc == 54) 60 _ _ _ _ ?_
      simp only [e_go, rX2_addSort_0, rX2_addSort_1, rX2_addSort_4, rX2_addSort_5, rX2_addSort_8, rX2_addSort_9, rX2_addSort_10, rX2_addSort_13, rX2_addSort_14, rX2_addSort_16, rX2_addSort_19, rX2_addSort_20, rX2_addSort_21, rX2_addSort_24, rX2_addSort_25, rX2_addSort_27, rX2_addSort_30, rX2_addSort_31, rX2_addSort_32, rX2_addSort_33, rX2_addSort_36, rX2_addSort_37, rX2_addSort_40, rX2_addSort_41, rX2_addSort_42, rX2_addSort_43, rX2_addSort_46, rX2_addSort_47, rX2_addSort_50, rX2_addSort_51, rX2_addSort_52, rX2_addSort_53, rX2_addSort_54, rX2_addSort_55, rX2_addSort_56, rX2_addSort_59, rX2_addSort_60, rX2_addSort_63, rX2_addSort_64, rX2_addSort_67, rX2_addSort_68, rX2_addSort_69, rX2_addSort_70, rX2_addSort_71, rX2_addSort_72, rX2_addSort_73, rX2_addSort_74, rX2_addSort_77, rX2_addSort_78, rX2_addSort_81, rX2_addSort_82, rX2_addSort_83, rX2_addSort_84, rX2_addSort_85, rX2_addSort_86, rX2_addSort_87, rX2_addSort_90, rX2_addSort_93, rX2_addSort_94, rX2_addSort_95, rX2_addSort_98, rX2_addSort_99, rX2_addSort_100, rX2_addSort_103, rX2_addSort_104, e_ald0, e_bin, e_dupi, e_dupr, e_get, e_goto, e_iast, e_icmp, e_ild1, e_ild2, e_ild3, e_inc3, e_ist3, e_nl0, e_nl1, e_nl2, e_push, e_put, e_retz, m_b0, m_b01, m_b1, m_em, Classical.not_not, Nat.reduceBEq, Nat.reduceLT, Nat.reduceLeDiff, Nat.reduceAdd, cond_true, cond_false, Bool.or_false, Bool.false_or, Bool.or_true, Bool.true_or, beq_iff_eq, true_and, and_true, true_or, or_true, forall_const, not_true_eq_false, not_false_eq_true, false_implies, implies_true, Nat.reduceEqDiff, List.length_nil, List.length_cons, obH hb, fvH0 hb, fsH0 hb, fvH1 hb, fsH1 hb, fvH2 hb, fvH3 hb, fvH4 hb, fvH5 hb, fvH6 hb, fvH7 hb, kdH1 hb, lnH1 hb, ltH1 hb, kdH2 hb, lnH2 hb, ltH2 hb, kdH3 hb, lnH3 hb, ltH3 hb, kdH4 hb, lnH4 hb, ltH4 hb, kdH5 hb, lnH5 hb, ltH5 hb, kdH6 hb, lnH6 hb, ltH6 hb]
      refine ⟨fun z => absurd z (by omega), fun _ => ?_⟩
      rw [m_up_ne (by omega), h0 b (by omega) (by omega) (by omega) (by omega), e0, m_ixW (by omega) (by omega), Int.toNat_natCast, m_w2 (x := (i : Int) + 1) (by omega) (by omega)]
      refine ⟨by omega, by omega, ?_⟩
      refine ih (i + 1) _ (by omega) (fun j g1 g2 g3 g4 => ?_) ?_ ?_ (fun n => ?_) (fun n => ?_)
      · rw [m_up_ne g4, m_up_ne g3]; exact h0 j g1 g2 g3 g4
      · rw [m_up_ne (by omega), m_up_ne (by omega)]; exact h1
      · rw [m_up_ne (by omega), m_up_ne (by omega)]; exact h2
      · rw [m_up_ne (by omega), m_up_eq]
        by_cases e : n = 4 * S + i
        · rw [e, m_us, if_pos (by omega)]
        · rw [m_un e, h3]
          by_cases e2 : 4 * S ≤ n ∧ n < 4 * S + i
          · rw [if_pos e2, if_pos (by omega)]
          · rw [if_neg e2, if_neg (by omega)]
      · rw [m_up_eq]
        by_cases e : n = 4 * S + i
        · rw [e, m_us, if_pos (by omega)]
        · rw [m_un e, m_up_ne (by omega), h4]
          by_cases e2 : 4 * S ≤ n ∧ n < 4 * S + i
          · rw [if_pos e2, if_pos (by omega)]
          · rw [if_neg e2, if_neg (by omega)]
  refine m_run_ok hJ (fun pc => pc == 54) 60 _ _ _ _ ?_
  simp only [e_go, rX2_addSort_0, rX2_addSort_1, rX2_addSort_4, rX2_addSort_5, rX2_addSort_8, rX2_addSort_9, rX2_addSort_10, rX2_addSort_13, rX2_addSort_14, rX2_addSort_16, rX2_addSort_19, rX2_addSort_20, rX2_addSort_21, rX2_addSort_24, rX2_addSort_25, rX2_addSort_27, rX2_addSort_30, rX2_addSort_31, rX2_addSort_32, rX2_addSort_33, rX2_addSort_36, rX2_addSort_37, rX2_addSort_40, rX2_addSort_41, rX2_addSort_42, rX2_addSort_43, rX2_addSort_46, rX2_addSort_47, rX2_addSort_50, rX2_addSort_51, rX2_addSort_52, rX2_addSort_53, rX2_addSort_54, rX2_addSort_55, rX2_addSort_56, rX2_addSort_59, rX2_addSort_60, rX2_addSort_63, rX2_addSort_64, rX2_addSort_67, rX2_addSort_68, rX2_addSort_69, rX2_addSort_70, rX2_addSort_71, rX2_addSort_72, rX2_addSort_73, rX2_addSort_74, rX2_addSort_77, rX2_addSort_78, rX2_addSort_81, rX2_addSort_82, rX2_addSort_83, rX2_addSort_84, rX2_addSort_85, rX2_addSort_86, rX2_addSort_87, rX2_addSort_90, rX2_addSort_93, rX2_addSort_94, rX2_addSort_95, rX2_addSort_98, rX2_addSort_99, rX2_addSort_100, rX2_addSort_103, rX2_addSort_104, e_ald0, e_bin, e_dupi, e_dupr, e_get, e_goto, e_iast, e_icmp, e_ild1, e_ild2, e_ild3, e_inc3, e_ist3, e_nl0, e_nl1, e_nl2, e_push, e_put, e_retz, m_b0, m_b01, m_b1, m_em, Classical.not_not, Nat.reduceBEq, Nat.reduceLT, Nat.reduceLeDiff, Nat.reduceAdd, cond_true, cond_false, Bool.or_false, Bool.false_or, Bool.or_true, Bool.true_or, beq_iff_eq, true_and, and_true, true_or, or_true, forall_const, not_true_eq_false, not_false_eq_true, false_implies, implies_true, Nat.reduceEqDiff, List.length_nil, List.length_cons, obH hb, fvH0 hb, fsH0 hb, fvH1 hb, fsH1 hb, fvH2 hb, fvH3 hb, fvH4 hb, fvH5 hb, fvH6 hb, fvH7 hb, kdH1 hb, lnH1 hb, ltH1 hb, kdH2 hb, lnH2 hb, ltH2 hb, kdH3 hb, lnH3 hb, ltH3 hb, kdH4 hb, lnH4 hb, ltH4 hb, kdH5 hb, lnH5 hb, ltH5 hb, kdH6 hb, lnH6 hb, ltH6 hb]
  rw [m_up_ne (by omega), e0, Int.toNat_natCast]
  refine ⟨fun z => absurd z (by omega), fun _ => ⟨fun z => absurd z (by omega), fun _ => ⟨fun z => absurd z (by omega), fun _ => ⟨fun z => absurd z (by omega), fun _ => ⟨fun _ => ⟨by omega, by omega, ?_⟩, fun z => absurd z (by omega)⟩⟩⟩⟩⟩
  refine loop 4 0 _ (by omega) (fun j g1 g2 g3 g4 => ?_) ?_ ?_ (fun n => ?_) (fun n => ?_)
  · rw [m_up_ne g2, m_up_ne g1]
  · rw [m_up_ne (by omega), m_up_eq]
  · rw [m_up_eq, m_up_ne (by omega)]
  · rw [m_up_ne (by omega), m_up_ne (by omega), if_neg (by omega)]
  · rw [m_up_ne (by omega), m_up_ne (by omega), if_neg (by omega)]
