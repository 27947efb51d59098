set_option maxRecDepth 20000
set_option maxHeartbeats 2000000
/-- a house behind a copy of another -/
def h_cp (g g' : m_G) (a b : Nat) : Prop := (∀ j, (j < b ∨ b + 7 ≤ j) → g' j = g j) ∧ (g' b 0 = g a 0 ∧ g' b 1 = g a 1) ∧ (∀ k, k < 5 → g' (b + 1) k = g (a + 1) k) ∧ (∀ k, k < 5 → g' (b + 2) k = g (a + 2) k) ∧ (∀ k, k < 20 → g' (b + 3) k = g (a + 3) k) ∧ (∀ k, k < 20 → g' (b + 4) k = g (a + 4) k) ∧ (∀ k, k < 24 → g' (b + 5) k = g (a + 5) k) ∧ ∀ k, k < 8 → g' (b + 6) k = g (a + 6) k
theorem m_cp0 {f g : Nat → Int} {n k : Nat} (h : k < n) : m_cp f g 0 0 n k = f k := by unfold m_cp; rw [if_pos (by omega), Nat.sub_zero, Nat.zero_add]
theorem m_hs_apart {a b : Nat} (ha : m_hs a) (hb : m_hs b) (hab : a ≠ b) : a + 7 ≤ b ∨ b + 7 ≤ a := by unfold m_hs at ha hb; omega
def m_hl (i : Nat) : Nat := ([0, 5, 5, 20, 20, 24, 8] : List Nat).getD i 0
/-- the first K rows are copied -/
def h_cpK (g g' : m_G) (a b K : Nat) : Prop := (∀ j, (j < b ∨ b + 7 ≤ j) → g' j = g j) ∧ (g' b 0 = g a 0 ∧ g' b 1 = g a 1) ∧ ∀ i, 1 ≤ i → i ≤ K → ∀ k, k < m_hl i → g' (b + i) k = g (a + i) k
theorem h_cpK.step {g g' : m_G} {a b K : Nat} (hd : a + 7 ≤ b ∨ b + 7 ≤ a) (h : h_cpK g g' a b K) (hK : K < 6) {n : Nat} (hn : n = m_hl (K + 1)) : h_cpK g (fun j => if j = b + (K + 1) then m_cp (g' (a + (K + 1))) (g' (b + (K + 1))) 0 0 n else g' j) a b (K + 1) := by
  obtain ⟨h1, ⟨h2, h3⟩, h4⟩ := h
  refine ⟨fun j hj => ?_, ⟨?_, ?_⟩, fun i hi hi2 k hk => ?_⟩
  · show (if j = b + (K + 1) then _ else g' j) = g j
    rw [if_neg (by omega)]; exact h1 j hj
  · show (if b = b + (K + 1) then _ else g' b) 0 = _
    rw [if_neg (by omega)]; exact h2
  · show (if b = b + (K + 1) then _ else g' b) 1 = _
    rw [if_neg (by omega)]; exact h3
  · show (if b + i = b + (K + 1) then _ else g' (b + i)) k = _
    by_cases e : i = K + 1
    · subst e
      rw [if_pos rfl, m_cp0 (by rw [hn]; exact hk), h1 _ (by omega)]
    · rw [if_neg (by omega)]; exact h4 i hi (by omega) k hk
theorem p_copy {a b : Nat} (hb : m_hs b) (ha : m_hs a) (hab : a ≠ b) {g : m_G} {q : m_Post} (h : ∀ g', h_cp g g' a b → q none g') : wX2_copy.1 [.inr (.inr b), .inr (.inr a)] g q := by
  have hd := m_hs_apart ha hb hab
  refine m_wp_of (by simp [m_fit]) (fun J hJ => ?_)
  simp only [m_ini, Nat.reduceSub, List.replicate]
  have s6 : ∀ g', h_cpK g g' a b 6 → J 104 [some (.inr (.inr b)), some (.inr (.inr a))] [] g' := by
    intro g' hg
    refine m_run_ok hJ (fun _ => false) 5 _ _ _ _ ?_
    simp only [e_go, rX2_copy_0, rX2_copy_1, rX2_copy_2, rX2_copy_5, rX2_copy_8, rX2_copy_9, rX2_copy_10, rX2_copy_13, rX2_copy_16, rX2_copy_17, rX2_copy_20, rX2_copy_21, rX2_copy_22, rX2_copy_25, rX2_copy_26, rX2_copy_27, rX2_copy_30, rX2_copy_31, rX2_copy_34, rX2_copy_35, rX2_copy_36, rX2_copy_39, rX2_copy_40, rX2_copy_41, rX2_copy_44, rX2_copy_45, rX2_copy_48, rX2_copy_49, rX2_copy_50, rX2_copy_53, rX2_copy_54, rX2_copy_56, rX2_copy_59, rX2_copy_60, rX2_copy_63, rX2_copy_64, rX2_copy_65, rX2_copy_68, rX2_copy_69, rX2_copy_71, rX2_copy_74, rX2_copy_75, rX2_copy_78, rX2_copy_79, rX2_copy_80, rX2_copy_83, rX2_copy_84, rX2_copy_86, rX2_copy_89, rX2_copy_90, rX2_copy_93, rX2_copy_94, rX2_copy_95, rX2_copy_98, rX2_copy_99, rX2_copy_101, rX2_copy_104, e_ald0, e_ald1, e_copy, e_get, e_push, e_put, e_retv, m_b0, m_b01, m_b1, m_em, Classical.not_not, Nat.reduceBEq, Nat.reduceLT, Nat.reduceLeDiff, Nat.reduceAdd, cond_true, cond_false, Bool.or_false, Bool.false_or, Bool.or_true, Bool.true_or, beq_iff_eq, true_and, and_true, true_or, or_true, forall_const, not_true_eq_false, not_false_eq_true, false_implies, implies_true, Nat.reduceEqDiff, List.length_nil, List.length_cons, obH hb, fvH0 hb, fsH0 hb, fvH1 hb, fsH1 hb, fvH2 hb, fvH3 hb, fvH4 hb, fvH5 hb, fvH6 hb, fvH7 hb, kdH1 hb, lnH1 hb, ltH1 hb, kdH2 hb, lnH2 hb, ltH2 hb, kdH3 hb, lnH3 hb, ltH3 hb, kdH4 hb, lnH4 hb, ltH4 hb, kdH5 hb, lnH5 hb, ltH5 hb, kdH6 hb, lnH6 hb, ltH6 hb, obH ha, fvH0 ha, fsH0 ha, fvH1 ha, fsH1 ha, fvH2 ha, fvH3 ha, fvH4 ha, fvH5 ha, fvH6 ha, fvH7 ha, kdH1 ha, lnH1 ha, ltH1 ha, kdH2 ha, lnH2 ha, ltH2 ha, kdH3 ha, lnH3 ha, ltH3 ha, kdH4 ha, lnH4 ha, ltH4 ha, kdH5 ha, lnH5 ha, ltH5 ha, kdH6 ha, lnH6 ha, ltH6 ha, Int.toNat_zero, Int.reduceToNat]
    refine h g' ⟨hg.1, hg.2.1, fun k hk => hg.2.2 1 (by omega) (by omega) k hk, fun k hk => hg.2.2 2 (by omega) (by omega) k hk, fun k hk => hg.2.2 3 (by omega) (by omega) k hk, fun k hk => hg.2.2 4 (by omega) (by omega) k hk, fun k hk => hg.2.2 5 (by omega) (by omega) k hk, fun k hk => hg.2.2 6 (by omega) (by omega) k hk⟩
  have s5 : ∀ g', h_cpK g g' a b 5 → J 89 [some (.inr (.inr b)), some (.inr (.inr a))] [] g' := by
    intro g' hg
    refine m_run_ok hJ (fun pc => pc == 104) 20 _ _ _ _ ?_
    simp only [e_go, rX2_copy_0, rX2_copy_1, rX2_copy_2, rX2_copy_5, rX2_copy_8, rX2_copy_9, rX2_copy_10, rX2_copy_13, rX2_copy_16, rX2_copy_17, rX2_copy_20, rX2_copy_21, rX2_copy_22, rX2_copy_25, rX2_copy_26, rX2_copy_27, rX2_copy_30, rX2_copy_31, rX2_copy_34, rX2_copy_35, rX2_copy_36, rX2_copy_39, rX2_copy_40, rX2_copy_41, rX2_copy_44, rX2_copy_45, rX2_copy_48, rX2_copy_49, rX2_copy_50, rX2_copy_53, rX2_copy_54, rX2_copy_56, rX2_copy_59, rX2_copy_60, rX2_copy_63, rX2_copy_64, rX2_copy_65, rX2_copy_68, rX2_copy_69, rX2_copy_71, rX2_copy_74, rX2_copy_75, rX2_copy_78, rX2_copy_79, rX2_copy_80, rX2_copy_83, rX2_copy_84, rX2_copy_86, rX2_copy_89, rX2_copy_90, rX2_copy_93, rX2_copy_94, rX2_copy_95, rX2_copy_98, rX2_copy_99, rX2_copy_101, rX2_copy_104, e_ald0, e_ald1, e_copy, e_get, e_push, e_put, e_retv, m_b0, m_b01, m_b1, m_em, Classical.not_not, Nat.reduceBEq, Nat.reduceLT, Nat.reduceLeDiff, Nat.reduceAdd, cond_true, cond_false, Bool.or_false, Bool.false_or, Bool.or_true, Bool.true_or, beq_iff_eq, true_and, and_true, true_or, or_true, forall_const, not_true_eq_false, not_false_eq_true, false_implies, implies_true, Nat.reduceEqDiff, List.length_nil, List.length_cons, obH hb, fvH0 hb, fsH0 hb, fvH1 hb, fsH1 hb, fvH2 hb, fvH3 hb, fvH4 hb, fvH5 hb, fvH6 hb, fvH7 hb, kdH1 hb, lnH1 hb, ltH1 hb, kdH2 hb, lnH2 hb, ltH2 hb, kdH3 hb, lnH3 hb, ltH3 hb, kdH4 hb, lnH4 hb, ltH4 hb, kdH5 hb, lnH5 hb, ltH5 hb, kdH6 hb, lnH6 hb, ltH6 hb, obH ha, fvH0 ha, fsH0 ha, fvH1 ha, fsH1 ha, fvH2 ha, fvH3 ha, fvH4 ha, fvH5 ha, fvH6 ha, fvH7 ha, kdH1 ha, lnH1 ha, ltH1 ha, kdH2 ha, lnH2 ha, ltH2 ha, kdH3 ha, lnH3 ha, ltH3 ha, kdH4 ha, lnH4 ha, ltH4 ha, kdH5 ha, lnH5 ha, ltH5 ha, kdH6 ha, lnH6 ha, ltH6 ha, Int.toNat_zero, Int.reduceToNat]
    exact ⟨by omega, s6 _ (hg.step hd (by omega) rfl)⟩
  have s4 : ∀ g', h_cpK g g' a b 4 → J 74 [some (.inr (.inr b)), some (.inr (.inr a))] [] g' := by
    intro g' hg
    refine m_run_ok hJ (fun pc => pc == 89) 20 _ _ _ _ ?_
    simp only [e_go, rX2_copy_0, rX2_copy_1, rX2_copy_2, rX2_copy_5, rX2_copy_8, rX2_copy_9, rX2_copy_10, rX2_copy_13, rX2_copy_16, rX2_copy_17, rX2_copy_20, rX2_copy_21, rX2_copy_22, rX2_copy_25, rX2_copy_26, rX2_copy_27, rX2_copy_30, rX2_copy_31, rX2_copy_34, rX2_copy_35, rX2_copy_36, rX2_copy_39, rX2_copy_40, rX2_copy_41, rX2_copy_44, rX2_copy_45, rX2_copy_48, rX2_copy_49, rX2_copy_50, rX2_copy_53, rX2_copy_54, rX2_copy_56, rX2_copy_59, rX2_copy_60, rX2_copy_63, rX2_copy_64, rX2_copy_65, rX2_copy_68, rX2_copy_69, rX2_copy_71, rX2_copy_74, rX2_copy_75, rX2_copy_78, rX2_copy_79, rX2_copy_80, rX2_copy_83, rX2_copy_84, rX2_copy_86, rX2_copy_89, rX2_copy_90, rX2_copy_93, rX2_copy_94, rX2_copy_95, rX2_copy_98, rX2_copy_99, rX2_copy_101, rX2_copy_104, e_ald0, e_ald1, e_copy, e_get, e_push, e_put, e_retv, m_b0, m_b01, m_b1, m_em, Classical.not_not, Nat.reduceBEq, Nat.reduceLT, Nat.reduceLeDiff, Nat.reduceAdd, cond_true, cond_false, Bool.or_false, Bool.false_or, Bool.or_true, Bool.true_or, beq_iff_eq, true_and, and_true, true_or, or_true, forall_const, not_true_eq_false, not_false_eq_true, false_implies, implies_true, Nat.reduceEqDiff, List.length_nil, List.length_cons, obH hb, fvH0 hb, fsH0 hb, fvH1 hb, fsH1 hb, fvH2 hb, fvH3 hb, fvH4 hb, fvH5 hb, fvH6 hb, fvH7 hb, kdH1 hb, lnH1 hb, ltH1 hb, kdH2 hb, lnH2 hb, ltH2 hb, kdH3 hb, lnH3 hb, ltH3 hb, kdH4 hb, lnH4 hb, ltH4 hb, kdH5 hb, lnH5 hb, ltH5 hb, kdH6 hb, lnH6 hb, ltH6 hb, obH ha, fvH0 ha, fsH0 ha, fvH1 ha, fsH1 ha, fvH2 ha, fvH3 ha, fvH4 ha, fvH5 ha, fvH6 ha, fvH7 ha, kdH1 ha, lnH1 ha, ltH1 ha, kdH2 ha, lnH2 ha, ltH2 ha, kdH3 ha, lnH3 ha, ltH3 ha, kdH4 ha, lnH4 ha, ltH4 ha, kdH5 ha, lnH5 ha, ltH5 ha, kdH6 ha, lnH6 ha, ltH6 ha, Int.toNat_zero, Int.reduceToNat]
    exact ⟨by omega, s5 _ (hg.step hd (by omega) rfl)⟩
  have s3 : ∀ g', h_cpK g g' a b 3 → J 59 [some (.inr (.inr b)), some (.inr (.inr a))] [] g' := by
    intro g' hg
    refine m_run_ok hJ (fun pc => pc == 74) 20 _ _ _ _ ?_
    simp only [e_go, rX2_copy_0, rX2_copy_1, rX2_copy_2, rX2_copy_5, rX2_copy_8, rX2_copy_9, rX2_copy_10, rX2_copy_13, rX2_copy_16, rX2_copy_17, rX2_copy_20, rX2_copy_21, rX2_copy_22, rX2_copy_25, rX2_copy_26, rX2_copy_27, rX2_copy_30, rX2_copy_31, rX2_copy_34, rX2_copy_35, rX2_copy_36, rX2_copy_39, rX2_copy_40, rX2_copy_41, rX2_copy_44, rX2_copy_45, rX2_copy_48, rX2_copy_49, rX2_copy_50, rX2_copy_53, rX2_copy_54, rX2_copy_56, rX2_copy_59, rX2_copy_60, rX2_copy_63, rX2_copy_64, rX2_copy_65, rX2_copy_68, rX2_copy_69, rX2_copy_71, rX2_copy_74, rX2_copy_75, rX2_copy_78, rX2_copy_79, rX2_copy_80, rX2_copy_83, rX2_copy_84, rX2_copy_86, rX2_copy_89, rX2_copy_90, rX2_copy_93, rX2_copy_94, rX2_copy_95, rX2_copy_98, rX2_copy_99, rX2_copy_101, rX2_copy_104, e_ald0, e_ald1, e_copy, e_get, e_push, e_put, e_retv, m_b0, m_b01, m_b1, m_em, Classical.not_not, Nat.reduceBEq, Nat.reduceLT, Nat.reduceLeDiff, Nat.reduceAdd, cond_true, cond_false, Bool.or_false, Bool.false_or, Bool.or_true, Bool.true_or, beq_iff_eq, true_and, and_true, true_or, or_true, forall_const, not_true_eq_false, not_false_eq_true, false_implies, implies_true, Nat.reduceEqDiff, List.length_nil, List.length_cons, obH hb, fvH0 hb, fsH0 hb, fvH1 hb, fsH1 hb, fvH2 hb, fvH3 hb, fvH4 hb, fvH5 hb, fvH6 hb, fvH7 hb, kdH1 hb, lnH1 hb, ltH1 hb, kdH2 hb, lnH2 hb, ltH2 hb, kdH3 hb, lnH3 hb, ltH3 hb, kdH4 hb, lnH4 hb, ltH4 hb, kdH5 hb, lnH5 hb, ltH5 hb, kdH6 hb, lnH6 hb, ltH6 hb, obH ha, fvH0 ha, fsH0 ha, fvH1 ha, fsH1 ha, fvH2 ha, fvH3 ha, fvH4 ha, fvH5 ha, fvH6 ha, fvH7 ha, kdH1 ha, lnH1 ha, ltH1 ha, kdH2 ha, lnH2 ha, ltH2 ha, kdH3 ha, lnH3 ha, ltH3 ha, kdH4 ha, lnH4 ha, ltH4 ha, kdH5 ha, lnH5 ha, ltH5 ha, kdH6 ha, lnH6 ha, ltH6 ha, Int.toNat_zero, Int.reduceToNat]
    exact ⟨by omega, s4 _ (hg.step hd (by omega) rfl)⟩
  have s2 : ∀ g', h_cpK g g' a b 2 → J 44 [some (.inr (.inr b)), some (.inr (.inr a))] [] g' := by
    intro g' hg
    refine m_run_ok hJ (fun pc => pc == 59) 20 _ _ _ _ ?_
    simp only [e_go, rX2_copy_0, rX2_copy_1, rX2_copy_2, rX2_copy_5, rX2_copy_8, rX2_copy_9, rX2_copy_10, rX2_copy_13, rX2_copy_16, rX2_copy_17, rX2_copy_20, rX2_copy_21, rX2_copy_22, rX2_copy_25, rX2_copy_26, rX2_copy_27, rX2_copy_30, rX2_copy_31, rX2_copy_34, rX2_copy_35, rX2_copy_36, rX2_copy_39, rX2_copy_40, rX2_copy_41, rX2_copy_44, rX2_copy_45, rX2_copy_48, rX2_copy_49, rX2_copy_50, rX2_copy_53, rX2_copy_54, rX2_copy_56, rX2_copy_59, rX2_copy_60, rX2_copy_63, rX2_copy_64, rX2_copy_65, rX2_copy_68, rX2_copy_69, rX2_copy_71, rX2_copy_74, rX2_copy_75, rX2_copy_78, rX2_copy_79, rX2_copy_80, rX2_copy_83, rX2_copy_84, rX2_copy_86, rX2_copy_89, rX2_copy_90, rX2_copy_93, rX2_copy_94, rX2_copy_95, rX2_copy_98, rX2_copy_99, rX2_copy_101, rX2_copy_104, e_ald0, e_ald1, e_copy, e_get, e_push, e_put, e_retv, m_b0, m_b01, m_b1, m_em, Classical.not_not, Nat.reduceBEq, Nat.reduceLT, Nat.reduceLeDiff, Nat.reduceAdd, cond_true, cond_false, Bool.or_false, Bool.false_or, Bool.or_true, Bool.true_or, beq_iff_eq, true_and, and_true, true_or, or_true, forall_const, not_true_eq_false, not_false_eq_true, false_implies, implies_true, Nat.reduceEqDiff, List.length_nil, List.length_cons, obH hb, fvH0 hb, fsH0 hb, fvH1 hb, fsH1 hb, fvH2 hb, fvH3 hb, fvH4 hb, fvH5 hb, fvH6 hb, fvH7 hb, kdH1 hb, lnH1 hb, ltH1 hb, kdH2 hb, lnH2 hb, ltH2 hb, kdH3 hb, lnH3 hb, ltH3 hb, kdH4 hb, lnH4 hb, ltH4 hb, kdH5 hb, lnH5 hb, ltH5 hb, kdH6 hb, lnH6 hb, ltH6 hb, obH ha, fvH0 ha, fsH0 ha, fvH1 ha, fsH1 ha, fvH2 ha, fvH3 ha, fvH4 ha, fvH5 ha, fvH6 ha, fvH7 ha, kdH1 ha, lnH1 ha, ltH1 ha, kdH2 ha, lnH2 ha, ltH2 ha, kdH3 ha, lnH3 ha, ltH3 ha, kdH4 ha, lnH4 ha, ltH4 ha, kdH5 ha, lnH5 ha, ltH5 ha, kdH6 ha, lnH6 ha, ltH6 ha, Int.toNat_zero, Int.reduceToNat]
    exact ⟨by omega, s3 _ (hg.step hd (by omega) rfl)⟩
  have s1 : ∀ g', h_cpK g g' a b 1 → J 30 [some (.inr (.inr b)), some (.inr (.inr a))] [] g' := by
    intro g' hg
    refine m_run_ok hJ (fun pc => pc == 44) 20 _ _ _ _ ?_
    simp only [e_go, rX2_copy_0, rX2_copy_1, rX2_copy_2, rX2_copy_5, rX2_copy_8, rX2_copy_9, rX2_copy_10, rX2_copy_13, rX2_copy_16, rX2_copy_17, rX2_copy_20, rX2_copy_21, rX2_copy_22, rX2_copy_25, rX2_copy_26, rX2_copy_27, rX2_copy_30, rX2_copy_31, rX2_copy_34, rX2_copy_35, rX2_copy_36, rX2_copy_39, rX2_copy_40, rX2_copy_41, rX2_copy_44, rX2_copy_45, rX2_copy_48, rX2_copy_49, rX2_copy_50, rX2_copy_53, rX2_copy_54, rX2_copy_56, rX2_copy_59, rX2_copy_60, rX2_copy_63, rX2_copy_64, rX2_copy_65, rX2_copy_68, rX2_copy_69, rX2_copy_71, rX2_copy_74, rX2_copy_75, rX2_copy_78, rX2_copy_79, rX2_copy_80, rX2_copy_83, rX2_copy_84, rX2_copy_86, rX2_copy_89, rX2_copy_90, rX2_copy_93, rX2_copy_94, rX2_copy_95, rX2_copy_98, rX2_copy_99, rX2_copy_101, rX2_copy_104, e_ald0, e_ald1, e_copy, e_get, e_push, e_put, e_retv, m_b0, m_b01, m_b1, m_em, Classical.not_not, Nat.reduceBEq, Nat.reduceLT, Nat.reduceLeDiff, Nat.reduceAdd, cond_true, cond_false, Bool.or_false, Bool.false_or, Bool.or_true, Bool.true_or, beq_iff_eq, true_and, and_true, true_or, or_true, forall_const, not_true_eq_false, not_false_eq_true, false_implies, implies_true, Nat.reduceEqDiff, List.length_nil, List.length_cons, obH hb, fvH0 hb, fsH0 hb, fvH1 hb, fsH1 hb, fvH2 hb, fvH3 hb, fvH4 hb, fvH5 hb, fvH6 hb, fvH7 hb, kdH1 hb, lnH1 hb, ltH1 hb, kdH2 hb, lnH2 hb, ltH2 hb, kdH3 hb, lnH3 hb, ltH3 hb, kdH4 hb, lnH4 hb, ltH4 hb, kdH5 hb, lnH5 hb, ltH5 hb, kdH6 hb, lnH6 hb, ltH6 hb, obH ha, fvH0 ha, fsH0 ha, fvH1 ha, fsH1 ha, fvH2 ha, fvH3 ha, fvH4 ha, fvH5 ha, fvH6 ha, fvH7 ha, kdH1 ha, lnH1 ha, ltH1 ha, kdH2 ha, lnH2 ha, ltH2 ha, kdH3 ha, lnH3 ha, ltH3 ha, kdH4 ha, lnH4 ha, ltH4 ha, kdH5 ha, lnH5 ha, ltH5 ha, kdH6 ha, lnH6 ha, ltH6 ha, Int.toNat_zero, Int.reduceToNat]
    exact ⟨by omega, s2 _ (hg.step hd (by omega) rfl)⟩
  refine m_run_ok hJ (fun pc => pc == 30) 30 _ _ _ _ ?_
  simp only [e_go, rX2_copy_0, rX2_copy_1, rX2_copy_2, rX2_copy_5, rX2_copy_8, rX2_copy_9, rX2_copy_10, rX2_copy_13, rX2_copy_16, rX2_copy_17, rX2_copy_20, rX2_copy_21, rX2_copy_22, rX2_copy_25, rX2_copy_26, rX2_copy_27, rX2_copy_30, rX2_copy_31, rX2_copy_34, rX2_copy_35, rX2_copy_36, rX2_copy_39, rX2_copy_40, rX2_copy_41, rX2_copy_44, rX2_copy_45, rX2_copy_48, rX2_copy_49, rX2_copy_50, rX2_copy_53, rX2_copy_54, rX2_copy_56, rX2_copy_59, rX2_copy_60, rX2_copy_63, rX2_copy_64, rX2_copy_65, rX2_copy_68, rX2_copy_69, rX2_copy_71, rX2_copy_74, rX2_copy_75, rX2_copy_78, rX2_copy_79, rX2_copy_80, rX2_copy_83, rX2_copy_84, rX2_copy_86, rX2_copy_89, rX2_copy_90, rX2_copy_93, rX2_copy_94, rX2_copy_95, rX2_copy_98, rX2_copy_99, rX2_copy_101, rX2_copy_104, e_ald0, e_ald1, e_copy, e_get, e_push, e_put, e_retv, m_b0, m_b01, m_b1, m_em, Classical.not_not, Nat.reduceBEq, Nat.reduceLT, Nat.reduceLeDiff, Nat.reduceAdd, cond_true, cond_false, Bool.or_false, Bool.false_or, Bool.or_true, Bool.true_or, beq_iff_eq, true_and, and_true, true_or, or_true, forall_const, not_true_eq_false, not_false_eq_true, false_implies, implies_true, Nat.reduceEqDiff, List.length_nil, List.length_cons, obH hb, fvH0 hb, fsH0 hb, fvH1 hb, fsH1 hb, fvH2 hb, fvH3 hb, fvH4 hb, fvH5 hb, fvH6 hb, fvH7 hb, kdH1 hb, lnH1 hb, ltH1 hb, kdH2 hb, lnH2 hb, ltH2 hb, kdH3 hb, lnH3 hb, ltH3 hb, kdH4 hb, lnH4 hb, ltH4 hb, kdH5 hb, lnH5 hb, ltH5 hb, kdH6 hb, lnH6 hb, ltH6 hb, obH ha, fvH0 ha, fsH0 ha, fvH1 ha, fsH1 ha, fvH2 ha, fvH3 ha, fvH4 ha, fvH5 ha, fvH6 ha, fvH7 ha, kdH1 ha, lnH1 ha, ltH1 ha, kdH2 ha, lnH2 ha, ltH2 ha, kdH3 ha, lnH3 ha, ltH3 ha, kdH4 ha, lnH4 ha, ltH4 ha, kdH5 ha, lnH5 ha, ltH5 ha, kdH6 ha, lnH6 ha, ltH6 ha, Int.toNat_zero, Int.reduceToNat]
  refine ⟨by omega, s1 _ (h_cpK.step (K := 0) hd ⟨fun j hj => ?_, ⟨?_, ?_⟩, fun i hi hi2 => absurd hi (by omega)⟩ (by omega) rfl)⟩
  · rw [m_up_ne (by omega), m_up_ne (by omega)]
  · rw [m_up_eq, m_un (by omega), m_up_eq, m_us]
  · rw [m_up_eq, m_us, m_up_ne (by omega)]
theorem h_R.copy {g g' : m_G} {a b : Nat} {s : Nat → Int} (h : h_R g a s) (hc : h_cp g g' a b) : h_R g' b s := by
  obtain ⟨⟨a1, a2⟩, a3, a4, a5, a6⟩ := h
  obtain ⟨-, ⟨c0, c00⟩, c1, c2, c3, c4, c5, c6⟩ := hc
  refine ⟨⟨by rw [c0]; exact a1, by rw [c00]; exact a2⟩, a3, fun k hk => by rw [c6 k hk]; exact a4 k hk, fun t ht => ?_, fun l hl => ?_⟩
  · obtain ⟨d1, d2, d3⟩ := a5 t ht
    refine ⟨by rw [c1 t (by omega)]; exact d1, by rw [c2 t (by omega)]; exact d2, fun k hk => by rw [c3 _ (by omega)]; exact d3 k hk⟩
  · obtain ⟨d1, d2⟩ := a6 l hl
    exact ⟨fun k hk => by rw [c5 _ (by omega)]; exact d1 k hk, d2⟩
theorem h_N.copy {g g' : m_G} {a b : Nat} {s : Nat → Int} {nd : Nat → Nat → Int} (hs : s 0 ≤ 5) (h : h_N g a s nd) (hc : h_cp g g' a b) : h_N g' b s nd := by
  intro t k ht hk
  rw [hc.2.2.2.2.2.1 _ (by omega)]
  exact h t k ht hk
/-- a house's cells are what they were -/
def h_same (g g' : m_G) (b : Nat) : Prop := ∀ j, j < 7 → g' (b + j) = g (b + j)
theorem h_R.same {g g' : m_G} {b : Nat} {s : Nat → Int} (h : h_R g b s) (hs : h_same g g' b) : h_R g' b s := by
  unfold h_R at *
  rw [show g' b = g b from hs 0 (by omega), hs 1 (by omega), hs 2 (by omega), hs 3 (by omega), hs 5 (by omega), hs 6 (by omega)]
  exact h
theorem h_N.same {g g' : m_G} {b : Nat} {s : Nat → Int} {nd : Nat → Nat → Int} (h : h_N g b s nd) (hs : h_same g g' b) : h_N g' b s nd := by
  unfold h_N at *
  rw [hs 4 (by omega)]
  exact h
/-- changes of words told -/
def m_chg (x : Int) : Int := if 0 ≤ x then 1 else 0
def sumG (s : Nat → Int) : Nat → Int
  | 0 => 0
  | l + 1 => sumG s l + m_chg (s (41 + 4 * l)) + m_chg (s (42 + 4 * l)) + m_chg (s (43 + 4 * l))
theorem sumG_b (s : Nat → Int) : ∀ l, 0 ≤ sumG s l ∧ sumG s l ≤ 3 * l
  | 0 => by simp [sumG]
  | l + 1 => by
    have := sumG_b s l
    have h : ∀ x, 0 ≤ m_chg x ∧ m_chg x ≤ 1 := fun x => by unfold m_chg; split <;> omega
    have h1 := h (s (41 + 4 * l))
    have h2 := h (s (42 + 4 * l))
    have h3 := h (s (43 + 4 * l))
    simp only [sumG]
    omega
theorem m_chg_b (x : Int) : 0 ≤ m_chg x ∧ m_chg x ≤ 1 := by unfold m_chg; split <;> omega
theorem m_wr_chg {x y : Int} (h : m_wr x y) : (if x = -1 then (0 : Int) else 1) = m_chg y := by
  unfold m_chg
  rcases h with ⟨h1, h2⟩ | ⟨h1, h2, h3⟩
  · rw [if_pos h1, if_neg (by omega)]
  · rw [if_neg (by omega), if_pos h2]
theorem p_changes {b : Nat} (hb : m_hs b) {g : m_G} {s : Nat → Int} {q : m_Post} (hR : h_R g b s) (h : q (some (.inl (sumG s (s 1).toNat))) g) : wX2_changes.1 [.inr (.inr b)] g q := by
  have hz := hR.2.1.2
  have e0 := hR.1.2
  have h6 := hR.2.2.2.2
  clear hR
  refine m_wp_of (by simp [m_fit]) (fun J hJ => ?_)
  simp only [m_ini, Nat.reduceSub, List.replicate]
  have inner : ∀ (i : Nat) (x : Int), (i : Int) < s 1 → 0 ≤ x → x ≤ 100 → (∀ y, y = x + m_chg (s (41 + 4 * i)) + m_chg (s (42 + 4 * i)) + m_chg (s (43 + 4 * i)) → J 47 [some (.inr (.inr b)), some (.inl y), some (.inl (i : Int)), some (.inl 4)] [] g) → ∀ (n k : Nat) (z : Int), k + n = 4 → 1 ≤ k → z = x + (if 1 < k then m_chg (s (41 + 4 * i)) else 0) + (if 2 < k then m_chg (s (42 + 4 * i)) else 0) + (if 3 < k then m_chg (s (43 + 4 * i)) else 0) → J 14 [some (.inr (.inr b)), some (.inl z), some (.inl (i : Int)), some (.inl (k : Int))] [] g := by
    intro i x hi hx hx2 hJ47 n
    have m1 := m_chg_b (s (41 + 4 * i))
    have m2 := m_chg_b (s (42 + 4 * i))
    have m3 := m_chg_b (s (43 + 4 * i))
    have g6 := (h6 i hi).1
    clear h6
    induction n with
    | zero =>
      intro k z hk hk1 hz
      refine m_run_ok hJ (fun pc => pc == 47 || pc == 14) 60 _ _ _ _ ?_
      simp only [e_go, rX2_changes_0, rX2_changes_1, rX2_changes_2, rX2_changes_3, rX2_changes_4, rX2_changes_5, rX2_changes_6, rX2_changes_9, rX2_changes_12, rX2_changes_13, rX2_changes_14, rX2_changes_15, rX2_changes_16, rX2_changes_19, rX2_changes_20, rX2_changes_21, rX2_changes_24, rX2_changes_25, rX2_changes_26, rX2_changes_27, rX2_changes_28, rX2_changes_29, rX2_changes_30, rX2_changes_31, rX2_changes_34, rX2_changes_35, rX2_changes_38, rX2_changes_39, rX2_changes_40, rX2_changes_41, rX2_changes_44, rX2_changes_47, rX2_changes_50, rX2_changes_53, rX2_changes_54, e_ald0, e_bin, e_get, e_goto, e_iald, e_icmp, e_ild1, e_ild2, e_ild3, e_inc2, e_inc3, e_ist1, e_ist2, e_ist3, e_nl0, e_nl1, e_nl2, e_push, e_ret, m_b0, m_b01, m_b1, m_em, Classical.not_not, Nat.reduceBEq, Nat.reduceLT, Nat.reduceLeDiff, Nat.reduceAdd, cond_true, cond_false, Bool.or_false, Bool.false_or, Bool.or_true, Bool.true_or, beq_iff_eq, true_and, and_true, true_or, or_true, forall_const, not_true_eq_false, not_false_eq_true, false_implies, implies_true, Nat.reduceEqDiff, List.length_nil, List.length_cons, obH hb, fvH0 hb, fsH0 hb, fvH1 hb, fsH1 hb, fvH2 hb, fvH3 hb, fvH4 hb, fvH5 hb, fvH6 hb, fvH7 hb, kdH1 hb, lnH1 hb, ltH1 hb, kdH2 hb, lnH2 hb, ltH2 hb, kdH3 hb, lnH3 hb, ltH3 hb, kdH4 hb, lnH4 hb, ltH4 hb, kdH5 hb, lnH5 hb, ltH5 hb, kdH6 hb, lnH6 hb, ltH6 hb]
      have e : k = 4 := by omega
      subst e
      refine ⟨fun _ => hJ47 z (by rw [hz]; simp), fun c => absurd c (by omega)⟩
    | succ n ih =>
      intro k z hk hk1 hz
      refine m_run_ok hJ (fun pc => pc == 47 || pc == 14) 60 _ _ _ _ ?_
      simp only [e_go, rX2_changes_0, rX2_changes_1, rX2_changes_2, rX2_changes_3, rX2_changes_4, rX2_changes_5, rX2_changes_6, rX2_changes_9, rX2_changes_12, rX2_changes_13, rX2_changes_14, rX2_changes_15, rX2_changes_16, rX2_changes_19, rX2_changes_20, rX2_changes_21, rX2_changes_24, rX2_changes_25, rX2_changes_26, rX2_changes_27, rX2_changes_28, rX2_changes_29, rX2_changes_30, rX2_changes_31, rX2_changes_34, rX2_changes_35, rX2_changes_38, rX2_changes_39, rX2_changes_40, rX2_changes_41, rX2_changes_44, rX2_changes_47, rX2_changes_50, rX2_changes_53, rX2_changes_54, e_ald0, e_bin, e_get, e_goto, e_iald, e_icmp, e_ild1, e_ild2, e_ild3, e_inc2, e_inc3, e_ist1, e_ist2, e_ist3, e_nl0, e_nl1, e_nl2, e_push, e_ret, m_b0, m_b01, m_b1, m_em, Classical.not_not, Nat.reduceBEq, Nat.reduceLT, Nat.reduceLeDiff, Nat.reduceAdd, cond_true, cond_false, Bool.or_false, Bool.false_or, Bool.or_true, Bool.true_or, beq_iff_eq, true_and, and_true, true_or, or_true, forall_const, not_true_eq_false, not_false_eq_true, false_implies, implies_true, Nat.reduceEqDiff, List.length_nil, List.length_cons, obH hb, fvH0 hb, fsH0 hb, fvH1 hb, fsH1 hb, fvH2 hb, fvH3 hb, fvH4 hb, fvH5 hb, fvH6 hb, fvH7 hb, kdH1 hb, lnH1 hb, ltH1 hb, kdH2 hb, lnH2 hb, ltH2 hb, kdH3 hb, lnH3 hb, ltH3 hb, kdH4 hb, lnH4 hb, ltH4 hb, kdH5 hb, lnH5 hb, ltH5 hb, kdH6 hb, lnH6 hb, ltH6 hb]
      refine ⟨fun c => absurd c (by omega), fun _ => ?_⟩
      rw [m_ixW (by omega) (by omega), Int.toNat_natCast, m_w2 (x := (k : Int) + 1) (by omega) (by omega)]
      have hw := m_wr_chg (g6 k (by omega))
      have hzb : 0 ≤ z ∧ z ≤ 103 := by
        rw [hz]; split <;> split <;> split <;> omega
      have hzz : m_wrap (z + 1) = z + 1 := m_w2 (by omega) (by omega)
      have hz0 : m_wrap (z + 0) = z := by rw [Int.add_zero]; exact m_w2 (by omega) (by omega)
      rw [hzz, hz0]
      have nx : ∀ y : Int, y = z + m_chg (s (40 + 4 * i + k)) → J 14 [some (.inr (.inr b)), some (.inl y), some (.inl (i : Int)), some (.inl ((k : Int) + 1))] [] g := by
        intro y hy
        refine ih (k + 1) y (by omega) (by omega) ?_
        rw [hy, hz]
        have : k = 1 ∨ k = 2 ∨ k = 3 := by omega
        rcases this with rfl | rfl | rfl
        · rw [show 40 + 4 * i + 1 = 41 + 4 * i by omega]; simp
        · rw [show 40 + 4 * i + 2 = 42 + 4 * i by omega]; simp
        · rw [show 40 + 4 * i + 3 = 43 + 4 * i by omega]; simp
      refine ⟨by omega, fun c => ?_, fun c => ?_⟩
      · rw [if_neg c] at hw
        exact nx _ (by rw [← hw])
      · rw [if_pos c] at hw
        exact nx _ (by rw [← hw]; omega)
  have loop : ∀ (n i : Nat) (x3 : Option m_V), i + n = (s 1).toNat → J 4 [some (.inr (.inr b)), some (.inl (sumG s i)), some (.inl (i : Int)), x3] [] g := by
    intro n
    induction n with
    | zero =>
      intro i x3 hi
      refine m_run_ok hJ (fun pc => pc == 4 || pc == 14 || pc == 47) 60 _ _ _ _ ?_
      simp only [e_go, rX2_changes_0, rX2_changes_1, rX2_changes_2, rX2_changes_3, rX2_changes_4, rX2_changes_5, rX2_changes_6, rX2_changes_9, rX2_changes_12, rX2_changes_13, rX2_changes_14, rX2_changes_15, rX2_changes_16, rX2_changes_19, rX2_changes_20, rX2_changes_21, rX2_changes_24, rX2_changes_25, rX2_changes_26, rX2_changes_27, rX2_changes_28, rX2_changes_29, rX2_changes_30, rX2_changes_31, rX2_changes_34, rX2_changes_35, rX2_changes_38, rX2_changes_39, rX2_changes_40, rX2_changes_41, rX2_changes_44, rX2_changes_47, rX2_changes_50, rX2_changes_53, rX2_changes_54, e_ald0, e_bin, e_get, e_goto, e_iald, e_icmp, e_ild1, e_ild2, e_ild3, e_inc2, e_inc3, e_ist1, e_ist2, e_ist3, e_nl0, e_nl1, e_nl2, e_push, e_ret, m_b0, m_b01, m_b1, m_em, Classical.not_not, Nat.reduceBEq, Nat.reduceLT, Nat.reduceLeDiff, Nat.reduceAdd, cond_true, cond_false, Bool.or_false, Bool.false_or, Bool.or_true, Bool.true_or, beq_iff_eq, true_and, and_true, true_or, or_true, forall_const, not_true_eq_false, not_false_eq_true, false_implies, implies_true, Nat.reduceEqDiff, List.length_nil, List.length_cons, obH hb, fvH0 hb, fsH0 hb, fvH1 hb, fsH1 hb, fvH2 hb, fvH3 hb, fvH4 hb, fvH5 hb, fvH6 hb, fvH7 hb, kdH1 hb, lnH1 hb, ltH1 hb, kdH2 hb, lnH2 hb, ltH2 hb, kdH3 hb, lnH3 hb, ltH3 hb, kdH4 hb, lnH4 hb, ltH4 hb, kdH5 hb, lnH5 hb, ltH5 hb, kdH6 hb, lnH6 hb, ltH6 hb]
      rw [e0]
      refine ⟨fun _ => ?_, fun c => absurd c (by omega)⟩
      rw [show i = (s 1).toNat by omega]; exact h
    | succ n ih =>
      intro i x3 hi
      refine m_run_ok hJ (fun pc => pc == 4 || pc == 14 || pc == 47) 60 _ _ _ _ ?_
      simp only [e_go, rX2_changes_0, rX2_changes_1, rX2_changes_2, rX2_changes_3, rX2_changes_4, rX2_changes_5, rX2_changes_6, rX2_changes_9, rX2_changes_12, rX2_changes_13, rX2_changes_14, rX2_changes_15, rX2_changes_16, rX2_changes_19, rX2_changes_20, rX2_changes_21, rX2_changes_24, rX2_changes_25, rX2_changes_26, rX2_changes_27, rX2_changes_28, rX2_changes_29, rX2_changes_30, rX2_changes_31, rX2_changes_34, rX2_changes_35, rX2_changes_38, rX2_changes_39, rX2_changes_40, rX2_changes_41, rX2_changes_44, rX2_changes_47, rX2_changes_50, rX2_changes_53, rX2_changes_54, e_ald0, e_bin, e_get, e_goto, e_iald, e_icmp, e_ild1, e_ild2, e_ild3, e_inc2, e_inc3, e_ist1, e_ist2, e_ist3, e_nl0, e_nl1, e_nl2, e_push, e_ret, m_b0, m_b01, m_b1, m_em, Classical.not_not, Nat.reduceBEq, Nat.reduceLT, Nat.reduceLeDiff, Nat.reduceAdd, cond_true, cond_false, Bool.or_false, Bool.false_or, Bool.or_true, Bool.true_or, beq_iff_eq, true_and, and_true, true_or, or_true, forall_const, not_true_eq_false, not_false_eq_true, false_implies, implies_true, Nat.reduceEqDiff, List.length_nil, List.length_cons, obH hb, fvH0 hb, fsH0 hb, fvH1 hb, fsH1 hb, fvH2 hb, fvH3 hb, fvH4 hb, fvH5 hb, fvH6 hb, fvH7 hb, kdH1 hb, lnH1 hb, ltH1 hb, kdH2 hb, lnH2 hb, ltH2 hb, kdH3 hb, lnH3 hb, ltH3 hb, kdH4 hb, lnH4 hb, ltH4 hb, kdH5 hb, lnH5 hb, ltH5 hb, kdH6 hb, lnH6 hb, ltH6 hb]
      rw [e0]
      refine ⟨fun c => absurd c (by omega), fun _ => ?_⟩
      have hb2 := sumG_b s i
      refine inner i (sumG s i) (by omega) (by omega) (by omega) (fun y hy => ?_) 3 1 _ (by omega) (by omega) (by simp)
      refine m_run_ok hJ (fun pc => pc == 4 || pc == 14) 60 _ _ _ _ ?_
      simp only [e_go, rX2_changes_0, rX2_changes_1, rX2_changes_2, rX2_changes_3, rX2_changes_4, rX2_changes_5, rX2_changes_6, rX2_changes_9, rX2_changes_12, rX2_changes_13, rX2_changes_14, rX2_changes_15, rX2_changes_16, rX2_changes_19, rX2_changes_20, rX2_changes_21, rX2_changes_24, rX2_changes_25, rX2_changes_26, rX2_changes_27, rX2_changes_28, rX2_changes_29, rX2_changes_30, rX2_changes_31, rX2_changes_34, rX2_changes_35, rX2_changes_38, rX2_changes_39, rX2_changes_40, rX2_changes_41, rX2_changes_44, rX2_changes_47, rX2_changes_50, rX2_changes_53, rX2_changes_54, e_ald0, e_bin, e_get, e_goto, e_iald, e_icmp, e_ild1, e_ild2, e_ild3, e_inc2, e_inc3, e_ist1, e_ist2, e_ist3, e_nl0, e_nl1, e_nl2, e_push, e_ret, m_b0, m_b01, m_b1, m_em, Classical.not_not, Nat.reduceBEq, Nat.reduceLT, Nat.reduceLeDiff, Nat.reduceAdd, cond_true, cond_false, Bool.or_false, Bool.false_or, Bool.or_true, Bool.true_or, beq_iff_eq, true_and, and_true, true_or, or_true, forall_const, not_true_eq_false, not_false_eq_true, false_implies, implies_true, Nat.reduceEqDiff, List.length_nil, List.length_cons, obH hb, fvH0 hb, fsH0 hb, fvH1 hb, fsH1 hb, fvH2 hb, fvH3 hb, fvH4 hb, fvH5 hb, fvH6 hb, fvH7 hb, kdH1 hb, lnH1 hb, ltH1 hb, kdH2 hb, lnH2 hb, ltH2 hb, kdH3 hb, lnH3 hb, ltH3 hb, kdH4 hb, lnH4 hb, ltH4 hb, kdH5 hb, lnH5 hb, ltH5 hb, kdH6 hb, lnH6 hb, ltH6 hb]
      rw [m_w2 (x := (i : Int) + 1) (by omega) (by omega)]
      have := ih (i + 1) (some (.inl 4)) (by omega)
      simp only [sumG] at this
      rw [hy]; exact this
  refine m_run_ok hJ (fun pc => pc == 4) 60 _ _ _ _ ?_
  simp only [e_go, rX2_changes_0, rX2_changes_1, rX2_changes_2, rX2_changes_3, rX2_changes_4, rX2_changes_5, rX2_changes_6, rX2_changes_9, rX2_changes_12, rX2_changes_13, rX2_changes_14, rX2_changes_15, rX2_changes_16, rX2_changes_19, rX2_changes_20, rX2_changes_21, rX2_changes_24, rX2_changes_25, rX2_changes_26, rX2_changes_27, rX2_changes_28, rX2_changes_29, rX2_changes_30, rX2_changes_31, rX2_changes_34, rX2_changes_35, rX2_changes_38, rX2_changes_39, rX2_changes_40, rX2_changes_41, rX2_changes_44, rX2_changes_47, rX2_changes_50, rX2_changes_53, rX2_changes_54, e_ald0, e_bin, e_get, e_goto, e_iald, e_icmp, e_ild1, e_ild2, e_ild3, e_inc2, e_inc3, e_ist1, e_ist2, e_ist3, e_nl0, e_nl1, e_nl2, e_push, e_ret, m_b0, m_b01, m_b1, m_em, Classical.not_not, Nat.reduceBEq, Nat.reduceLT, Nat.reduceLeDiff, Nat.reduceAdd, cond_true, cond_false, Bool.or_false, Bool.false_or, Bool.or_true, Bool.true_or, beq_iff_eq, true_and, and_true, true_or, or_true, forall_const, not_true_eq_false, not_false_eq_true, false_implies, implies_true, Nat.reduceEqDiff, List.length_nil, List.length_cons, obH hb, fvH0 hb, fsH0 hb, fvH1 hb, fsH1 hb, fvH2 hb, fvH3 hb, fvH4 hb, fvH5 hb, fvH6 hb, fvH7 hb, kdH1 hb, lnH1 hb, ltH1 hb, kdH2 hb, lnH2 hb, ltH2 hb, kdH3 hb, lnH3 hb, ltH3 hb, kdH4 hb, lnH4 hb, ltH4 hb, kdH5 hb, lnH5 hb, ltH5 hb, kdH6 hb, lnH6 hb, ltH6 hb]
  exact loop (s 1).toNat 0 none (by omega)
