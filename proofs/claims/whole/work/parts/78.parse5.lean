set_option maxRecDepth 20000
set_option maxHeartbeats 2000000
theorem m_iand255 : ∀ n : Nat, n < 128 → m_iand n 255 = n := by decide +kernel
/-- texts: their signs -/
def ps_tx (X : Nat) : List Int := if X = 201 then [110, 44, 110, 59] else if X = 202 then [110, 59] else if X = 203 then [100, 100, 44, 110, 59] else []
theorem ps_tx_l : ∀ X : Nat, 200 ≤ X → X < 204 → m_tl (10 + X) = ((ps_tx X).length : Int) ∧ ∀ i, i < (ps_tx X).length → m_ty (10 + X) i = (ps_tx X).getD i 0 ∧ 0 ≤ (ps_tx X).getD i 0 ∧ (ps_tx X).getD i 0 < 128 := by
  intro X h1 h2
  obtain e | e | e | e : X = 200 ∨ X = 201 ∨ X = 202 ∨ X = 203 := by omega
  · subst e; decide +kernel
  · subst e; decide +kernel
  · subst e; decide +kernel
  · subst e; decide +kernel
theorem pJ_isLatin1 {X : Nat} {g : m_G} {q : m_Post} (h1 : 200 ≤ X ∧ X < 204) (h : q (some (.inl 1)) g) : wJ0_isLatin1_aae02.1 [.inr (.inr X)] g q := by
  refine m_wp_of (by simp [m_fit]) (fun J hJ => ?_)
  simp only [m_ini, Nat.reduceSub, List.replicate]
  refine m_run_ok hJ (fun _ => false) 40 _ _ _ _ ?_
  simp only [e_go, rJ0_isLatin1_aae02_0, rJ0_isLatin1_aae02_3, rJ0_isLatin1_aae02_6, rJ0_isLatin1_aae02_7, rJ0_isLatin1_aae02_10, rJ0_isLatin1_aae02_13, rJ0_isLatin1_aae02_14, rJ0_isLatin1_aae02_17, rJ0_isLatin1_aae02_18, e_ald0, e_goto, e_if, e_push, e_retz, e_scod, m_b0, m_b01, m_b1, m_em, Classical.not_not, Nat.reduceBEq, Nat.reduceLT, Nat.reduceLeDiff, Nat.reduceAdd, cond_true, cond_false, Bool.or_false, Bool.false_or, Bool.or_true, Bool.true_or, beq_iff_eq, true_and, and_true, true_or, or_true, forall_const, not_true_eq_false, not_false_eq_true, false_implies, implies_true, Nat.reduceEqDiff, List.length_nil, List.length_cons]
  exact ⟨fun z => absurd z (by decide), fun _ => ⟨h1, h⟩⟩
theorem pJ_coder {X : Nat} {g : m_G} {q : m_Post} (h1 : 200 ≤ X ∧ X < 204) (h : q (some (.inl 0)) g) : wJ0_coder_7d493.1 [.inr (.inr X)] g q := by
  refine m_wp_of (by simp [m_fit]) (fun J hJ => ?_)
  simp only [m_ini, Nat.reduceSub, List.replicate]
  refine m_run_ok hJ (fun _ => false) 40 _ _ _ _ ?_
  simp only [e_go, rJ0_coder_7d493_0, rJ0_coder_7d493_3, rJ0_coder_7d493_6, rJ0_coder_7d493_7, rJ0_coder_7d493_10, rJ0_coder_7d493_13, rJ0_coder_7d493_14, e_ald0, e_goto, e_if, e_push, e_retb, e_scod, m_b0, m_b01, m_b1, m_em, Classical.not_not, Nat.reduceBEq, Nat.reduceLT, Nat.reduceLeDiff, Nat.reduceAdd, cond_true, cond_false, Bool.or_false, Bool.false_or, Bool.or_true, Bool.true_or, beq_iff_eq, true_and, and_true, true_or, or_true, forall_const, not_true_eq_false, not_false_eq_true, false_implies, implies_true, Nat.reduceEqDiff, List.length_nil, List.length_cons]
  first
    | exact ⟨fun z => absurd z (by decide), fun _ => ⟨h1, h⟩⟩
    | exact ⟨fun z => absurd z (by decide), fun _ => ⟨h1, rfl, h⟩⟩
theorem pJ_length {X : Nat} {g : m_G} {q : m_Post} (h1 : 200 ≤ X ∧ X < 204) (h : q (some (.inl ((ps_tx X).length : Int))) g) : wJ0_length_8abf5.1 [.inr (.inr X)] g q := by
  have hl := (ps_tx_l X h1.1 h1.2).1
  refine m_wp_of (by simp [m_fit]) (fun J hJ => ?_)
  simp only [m_ini, Nat.reduceSub, List.replicate]
  refine m_run_ok hJ (fun _ => false) 40 _ _ _ _ ?_
  simp only [e_go, rJ0_length_8abf5_0, rJ0_length_8abf5_1, rJ0_length_8abf5_4, rJ0_length_8abf5_5, rJ0_length_8abf5_6, rJ0_length_8abf5_9, rJ0_length_8abf5_10, e_ald0, e_bin, e_blen, e_callT1, e_pushn, e_pushs, e_ret, e_sval, m_b0, m_b01, m_b1, m_em, Classical.not_not, Nat.reduceBEq, Nat.reduceLT, Nat.reduceLeDiff, Nat.reduceAdd, cond_true, cond_false, Bool.or_false, Bool.false_or, Bool.or_true, Bool.true_or, beq_iff_eq, true_and, and_true, true_or, or_true, forall_const, not_true_eq_false, not_false_eq_true, false_implies, implies_true, Nat.reduceEqDiff, List.length_nil, List.length_cons]
  have e0 : ∀ n : Nat, n < 6 → m_ishr n 0 = n := by decide +kernel
  have hb : (ps_tx X).length < 6 := by unfold ps_tx; split; decide; split; decide; split; decide; decide
  refine ⟨by omega, by omega, by omega, ?_⟩
  refine pJ_coder h1 ?_
  simp only [e_go, rJ0_length_8abf5_0, rJ0_length_8abf5_1, rJ0_length_8abf5_4, rJ0_length_8abf5_5, rJ0_length_8abf5_6, rJ0_length_8abf5_9, rJ0_length_8abf5_10, e_ald0, e_bin, e_blen, e_callT1, e_pushn, e_pushs, e_ret, e_sval, m_b0, m_b01, m_b1, m_em, Classical.not_not, Nat.reduceBEq, Nat.reduceLT, Nat.reduceLeDiff, Nat.reduceAdd, cond_true, cond_false, Bool.or_false, Bool.false_or, Bool.or_true, Bool.true_or, beq_iff_eq, true_and, and_true, true_or, or_true, forall_const, not_true_eq_false, not_false_eq_true, false_implies, implies_true, Nat.reduceEqDiff, List.length_nil, List.length_cons]
  rw [hl, e0 _ hb]
  exact h
theorem pJ_isEmpty {X : Nat} {g : m_G} {q : m_Post} (h1 : 200 ≤ X ∧ X < 204) (h : q (some (.inl (if ps_tx X = [] then 1 else 0))) g) : wJ0_isEmpty_aae02.1 [.inr (.inr X)] g q := by
  have hl := (ps_tx_l X h1.1 h1.2).1
  refine m_wp_of (by simp [m_fit]) (fun J hJ => ?_)
  simp only [m_ini, Nat.reduceSub, List.replicate]
  refine m_run_ok hJ (fun _ => false) 40 _ _ _ _ ?_
  simp only [e_go, rJ0_isEmpty_aae02_0, rJ0_isEmpty_aae02_1, rJ0_isEmpty_aae02_4, rJ0_isEmpty_aae02_5, rJ0_isEmpty_aae02_8, rJ0_isEmpty_aae02_9, rJ0_isEmpty_aae02_12, rJ0_isEmpty_aae02_13, e_ald0, e_blen, e_goto, e_if, e_push, e_retz, e_sval, m_b0, m_b01, m_b1, m_em, Classical.not_not, Nat.reduceBEq, Nat.reduceLT, Nat.reduceLeDiff, Nat.reduceAdd, cond_true, cond_false, Bool.or_false, Bool.false_or, Bool.or_true, Bool.true_or, beq_iff_eq, true_and, and_true, true_or, or_true, forall_const, not_true_eq_false, not_false_eq_true, false_implies, implies_true, Nat.reduceEqDiff, List.length_nil, List.length_cons]
  rw [hl]
  refine ⟨by omega, by omega, fun c => ?_, fun c => ?_⟩
  · rw [if_neg (fun z => by rw [z] at c; exact c rfl)] at h; exact h
  · rw [if_pos (List.length_eq_zero_iff.mp (by omega))] at h; exact h
theorem pJ_checkIndex {x y : Int} {g : m_G} {q : m_Post} (h1 : 0 ≤ x ∧ x < y) (h : q none g) : wJ0_checkIndex_df160.1 [.inl x, .inl y] g q := by
  refine m_wp_of (by simp [m_fit]) (fun J hJ => ?_)
  simp only [m_ini, Nat.reduceSub, List.replicate]
  refine m_run_ok hJ (fun _ => false) 40 _ _ _ _ ?_
  simp only [e_go, rJ0_checkIndex_df160_0, rJ0_checkIndex_df160_1, rJ0_checkIndex_df160_2, rJ0_checkIndex_df160_9, e_ci, e_ild0, e_ild1, e_retv, m_b0, m_b01, m_b1, m_em, Classical.not_not, Nat.reduceBEq, Nat.reduceLT, Nat.reduceLeDiff, Nat.reduceAdd, cond_true, cond_false, Bool.or_false, Bool.false_or, Bool.or_true, Bool.true_or, beq_iff_eq, true_and, and_true, true_or, or_true, forall_const, not_true_eq_false, not_false_eq_true, false_implies, implies_true, Nat.reduceEqDiff, List.length_nil, List.length_cons]
  exact ⟨h1, h⟩
theorem pJ1_charAt {X i : Nat} {g : m_G} {q : m_Post} (h1 : 200 ≤ X ∧ X < 204) (hi : i < (ps_tx X).length) (h : q (some (.inl ((ps_tx X).getD i 0))) g) : wJ1_charAt_3b067.1 [.inr (.inr (10 + X)), .inl i] g q := by
  have hl := ps_tx_l X h1.1 h1.2
  have hv := hl.2 i hi
  refine m_wp_of (by simp [m_fit]) (fun J hJ => ?_)
  simp only [m_ini, Nat.reduceSub, List.replicate]
  refine m_run_ok hJ (fun _ => false) 40 _ _ _ _ ?_
  simp only [e_go, rJ1_charAt_3b067_0, rJ1_charAt_3b067_1, rJ1_charAt_3b067_2, rJ1_charAt_3b067_3, rJ1_charAt_3b067_6, rJ1_charAt_3b067_7, rJ1_charAt_3b067_8, rJ1_charAt_3b067_9, rJ1_charAt_3b067_12, rJ1_charAt_3b067_13, rJ1_charAt_3b067_14, e_ald0, e_bald, e_bin, e_blen, e_callS2, e_i2c, e_ild1, e_push, e_pushn, e_pushs, e_retc, m_b0, m_b01, m_b1, m_em, Classical.not_not, Nat.reduceBEq, Nat.reduceLT, Nat.reduceLeDiff, Nat.reduceAdd, cond_true, cond_false, Bool.or_false, Bool.false_or, Bool.or_true, Bool.true_or, beq_iff_eq, true_and, and_true, true_or, or_true, forall_const, not_true_eq_false, not_false_eq_true, false_implies, implies_true, Nat.reduceEqDiff, List.length_nil, List.length_cons, Int.toNat_natCast]
  rw [hl.1]
  refine ⟨by omega, ?_⟩
  refine pJ_checkIndex (by omega) ?_
  simp only [e_go, rJ1_charAt_3b067_0, rJ1_charAt_3b067_1, rJ1_charAt_3b067_2, rJ1_charAt_3b067_3, rJ1_charAt_3b067_6, rJ1_charAt_3b067_7, rJ1_charAt_3b067_8, rJ1_charAt_3b067_9, rJ1_charAt_3b067_12, rJ1_charAt_3b067_13, rJ1_charAt_3b067_14, e_ald0, e_bald, e_bin, e_blen, e_callS2, e_i2c, e_ild1, e_push, e_pushn, e_pushs, e_retc, m_b0, m_b01, m_b1, m_em, Classical.not_not, Nat.reduceBEq, Nat.reduceLT, Nat.reduceLeDiff, Nat.reduceAdd, cond_true, cond_false, Bool.or_false, Bool.false_or, Bool.or_true, Bool.true_or, beq_iff_eq, true_and, and_true, true_or, or_true, forall_const, not_true_eq_false, not_false_eq_true, false_implies, implies_true, Nat.reduceEqDiff, List.length_nil, List.length_cons, Int.toNat_natCast]
  have e := m_iand255 ((ps_tx X).getD i 0).toNat (by omega)
  rw [Int.toNat_of_nonneg hv.2.1] at e
  rw [hv.1, e]
  exact ⟨by omega, by omega, by omega, h⟩
theorem pJ_charAt {X i : Nat} {g : m_G} {q : m_Post} (h1 : 200 ≤ X ∧ X < 204) (hi : i < (ps_tx X).length) (h : q (some (.inl ((ps_tx X).getD i 0))) g) : wJ0_charAt_5068e.1 [.inr (.inr X), .inl i] g q := by
  have hl := ps_tx_l X h1.1 h1.2
  have hv := hl.2 i hi
  refine m_wp_of (by simp [m_fit]) (fun J hJ => ?_)
  simp only [m_ini, Nat.reduceSub, List.replicate]
  refine m_run_ok hJ (fun _ => false) 40 _ _ _ _ ?_
  simp only [e_go, rJ0_charAt_5068e_0, rJ0_charAt_5068e_1, rJ0_charAt_5068e_4, rJ0_charAt_5068e_7, rJ0_charAt_5068e_8, rJ0_charAt_5068e_11, rJ0_charAt_5068e_12, rJ0_charAt_5068e_15, e_ald0, e_callS2, e_callT1, e_if, e_ild1, e_pushn, e_pushs, e_retc, e_sval, m_b0, m_b01, m_b1, m_em, Classical.not_not, Nat.reduceBEq, Nat.reduceLT, Nat.reduceLeDiff, Nat.reduceAdd, cond_true, cond_false, Bool.or_false, Bool.false_or, Bool.or_true, Bool.true_or, beq_iff_eq, true_and, and_true, true_or, or_true, forall_const, not_true_eq_false, not_false_eq_true, false_implies, implies_true, Nat.reduceEqDiff, List.length_nil, List.length_cons]
  refine ⟨h1, ?_⟩
  refine pJ_isLatin1 h1 ?_
  simp only [e_go, rJ0_charAt_5068e_0, rJ0_charAt_5068e_1, rJ0_charAt_5068e_4, rJ0_charAt_5068e_7, rJ0_charAt_5068e_8, rJ0_charAt_5068e_11, rJ0_charAt_5068e_12, rJ0_charAt_5068e_15, e_ald0, e_callS2, e_callT1, e_if, e_ild1, e_pushn, e_pushs, e_retc, e_sval, m_b0, m_b01, m_b1, m_em, Classical.not_not, Nat.reduceBEq, Nat.reduceLT, Nat.reduceLeDiff, Nat.reduceAdd, cond_true, cond_false, Bool.or_false, Bool.false_or, Bool.or_true, Bool.true_or, beq_iff_eq, true_and, and_true, true_or, or_true, forall_const, not_true_eq_false, not_false_eq_true, false_implies, implies_true, Nat.reduceEqDiff, List.length_nil, List.length_cons]
  refine ⟨fun z => absurd z (by decide), fun _ => ⟨h1, ?_⟩⟩
  refine pJ1_charAt h1 hi ?_
  simp only [e_go, rJ0_charAt_5068e_0, rJ0_charAt_5068e_1, rJ0_charAt_5068e_4, rJ0_charAt_5068e_7, rJ0_charAt_5068e_8, rJ0_charAt_5068e_11, rJ0_charAt_5068e_12, rJ0_charAt_5068e_15, e_ald0, e_callS2, e_callT1, e_if, e_ild1, e_pushn, e_pushs, e_retc, e_sval, m_b0, m_b01, m_b1, m_em, Classical.not_not, Nat.reduceBEq, Nat.reduceLT, Nat.reduceLeDiff, Nat.reduceAdd, cond_true, cond_false, Bool.or_false, Bool.false_or, Bool.or_true, Bool.true_or, beq_iff_eq, true_and, and_true, true_or, or_true, forall_const, not_true_eq_false, not_false_eq_true, false_implies, implies_true, Nat.reduceEqDiff, List.length_nil, List.length_cons]
  exact ⟨by omega, h⟩
theorem p6_formOf {c : Int} {g : m_G} {q : m_Post} (h : ∀ X : Nat, (200 ≤ X ∧ X < 204) → ps_tx X = ps_form c → q (some (.inr (.inr X))) g) : wX6_formOf.1 [.inl c] g q := by
  refine m_wp_of (by simp [m_fit]) (fun J hJ => ?_)
  simp only [m_ini, Nat.reduceSub, List.replicate]
  refine m_run_ok hJ (fun _ => false) 40 _ _ _ _ ?_
  simp only [e_go, rX6_formOf_0, rX6_formOf_1, rX6_formOf_44, rX6_formOf_46, rX6_formOf_47, rX6_formOf_49, rX6_formOf_50, rX6_formOf_52, rX6_formOf_53, rX6_formOf_55, e_ild0, e_push, e_reta, e_sw, e_swc, e_swn, m_b0, m_b01, m_b1, m_em, Classical.not_not, Nat.reduceBEq, Nat.reduceLT, Nat.reduceLeDiff, Nat.reduceAdd, cond_true, cond_false, Bool.or_false, Bool.false_or, Bool.or_true, Bool.true_or, beq_iff_eq, true_and, and_true, true_or, or_true, forall_const, not_true_eq_false, not_false_eq_true, false_implies, implies_true, Nat.reduceEqDiff, List.length_nil, List.length_cons]
  refine ⟨fun e => h 203 (by decide) (by rw [e]; decide), fun n1 => ⟨fun e => h 202 (by decide) (by rw [e]; decide), fun n2 => ⟨fun e => h 203 (by decide) (by rw [e]; decide), fun n3 => ⟨fun e => h 201 (by decide) (by rw [e]; decide), fun n4 => h 200 (by decide) ?_⟩⟩⟩⟩
  unfold ps_form
  rw [if_neg n4, if_neg n2, if_neg (by omega)]
  decide
/-- the class's tape: its bytes, where it reads -/
def p6_T (g : m_G) (T : Nat → Int) (n : Nat) : Prop := g 36 0 = (n : Int) ∧ n ≤ 64 ∧ ∀ k, k < n → g 37 k = T k
def p6_F (g g' : m_G) : Prop := (∀ j, j ≠ 36 → j ≠ 38 → g' j = g j) ∧ ∀ k, k ≠ 4 → k ≠ 5 → g' 36 k = g 36 k
theorem p6_F.rfl' {g : m_G} : p6_F g g := ⟨fun _ _ _ => rfl, fun _ _ _ => rfl⟩
theorem p6_F.trans {a b c : m_G} (h : p6_F a b) (h2 : p6_F b c) : p6_F a c := ⟨fun j h3 h4 => (h2.1 j h3 h4).trans (h.1 j h3 h4), fun k hk h5 => (h2.2 k hk h5).trans (h.2 k hk h5)⟩
theorem p6_T.keep {g g' : m_G} {T : Nat → Int} {n : Nat} (h : p6_T g T n) (hF : p6_F g g') : p6_T g' T n := ⟨(hF.2 0 (by decide) (by decide)).trans h.1, h.2.1, fun k hk => by rw [hF.1 37 (by decide) (by decide)]; exact h.2.2 k hk⟩
theorem p6_at {g : m_G} {T : Nat → Int} {n p : Nat} {q : m_Post} (hT : p6_T g T n) (h : q (some (.inl (ps_s T n p))) g) : wX6_at.1 [.inr (.inr 36), .inl p] g q := by
  have hn := hT.2.1
  refine m_wp_of (by simp [m_fit]) (fun J hJ => ?_)
  simp only [m_ini, Nat.reduceSub, List.replicate]
  refine m_run_ok hJ (fun _ => false) 40 _ _ _ _ ?_
  simp only [e_go, rX6_at_0, rX6_at_1, rX6_at_4, rX6_at_5, rX6_at_6, rX6_at_9, rX6_at_12, rX6_at_13, rX6_at_15, rX6_at_18, rX6_at_19, rX6_at_22, rX6_at_23, rX6_at_24, rX6_at_27, rX6_at_28, e_ald0, e_get, e_goto, e_iald, e_icmp, e_if, e_ild1, e_push, e_ret, m_b0, m_b01, m_b1, m_em, Classical.not_not, Nat.reduceBEq, Nat.reduceLT, Nat.reduceLeDiff, Nat.reduceAdd, cond_true, cond_false, Bool.or_false, Bool.false_or, Bool.or_true, Bool.true_or, beq_iff_eq, true_and, and_true, true_or, or_true, forall_const, not_true_eq_false, not_false_eq_true, false_implies, implies_true, Nat.reduceEqDiff, List.length_nil, List.length_cons, ob_36, fv_36_0, fs_36_0, fv_36_1, fv_36_2, fv_36_3, fv_36_4, fs_36_4, fv_36_5, fs_36_5, kd_37, ln_37, Int.toNat_natCast]
  rw [hT.1]
  unfold ps_s at h
  refine ⟨fun c => absurd c (by omega), fun _ => ⟨fun c => ?_, fun c => ⟨fun c2 => absurd c2 (by omega), fun _ => ⟨by omega, ?_⟩⟩⟩⟩
  · rw [if_neg (by omega)] at h; exact h
  · rw [if_pos (by omega), ← hT.2.2 p (by omega)] at h; exact h
theorem p6_isDigit {x : Int} {g : m_G} {q : m_Post} (h : q (some (.inl (if ps_d x then 1 else 0))) g) : wX6_isDigit.1 [.inl x] g q := by
  refine m_wp_of (by simp [m_fit]) (fun J hJ => ?_)
  simp only [m_ini, Nat.reduceSub, List.replicate]
  refine m_run_ok hJ (fun _ => false) 40 _ _ _ _ ?_
  simp only [e_go, rX6_isDigit_0, rX6_isDigit_1, rX6_isDigit_3, rX6_isDigit_6, rX6_isDigit_7, rX6_isDigit_9, rX6_isDigit_12, rX6_isDigit_13, rX6_isDigit_16, rX6_isDigit_17, e_goto, e_icmp, e_ild0, e_push, e_retz, m_b0, m_b01, m_b1, m_em, Classical.not_not, Nat.reduceBEq, Nat.reduceLT, Nat.reduceLeDiff, Nat.reduceAdd, cond_true, cond_false, Bool.or_false, Bool.false_or, Bool.or_true, Bool.true_or, beq_iff_eq, true_and, and_true, true_or, or_true, forall_const, not_true_eq_false, not_false_eq_true, false_implies, implies_true, Nat.reduceEqDiff, List.length_nil, List.length_cons]
  refine ⟨fun c => ?_, fun c => ⟨fun c2 => ?_, fun c2 => ?_⟩⟩
  · rw [if_neg (fun z => by have := z.1; omega)] at h; exact h
  · rw [if_neg (fun z => by have := z.2; omega)] at h; exact h
  · rw [if_pos ⟨by omega, by omega⟩] at h; exact h
theorem p6_readNumber {g : m_G} {T : Nat → Int} {n p m t : Nat} {q : m_Post} (hT : p6_T g T n) (hp : g 36 4 = (p : Int)) (hpn : p ≤ n) (ht : g 36 5 = (t : Int)) (ht3 : t < 3) (hm : m = 1 ∨ m = 2) (h0 : ¬ ps_d (ps_s T n p) → q (some (.inl 0)) g)
    (h1 : ∀ g', ps_d (ps_s T n p) → p6_F g g' → g' 36 4 = ((ps_l T n m 0 p).2 : Int) → g' 36 5 = ((t + 1 : Nat) : Int) → g' 38 t = (ps_l T n m 0 p).1 → (∀ i, i ≠ t → g' 38 i = g 38 i) → q (some (.inl 1)) g') : wX6_readNumber.1 [.inr (.inr 36), .inl m] g q := by
  have hn := hT.2.1
  refine m_wp_of (by simp [m_fit]) (fun J hJ => ?_)
  simp only [m_ini, Nat.reduceSub, List.replicate]
  have loop : ∀ (r i : Nat) (v : Int) (x : Nat) (g1 : m_G), i + r = m → x ≤ n → 0 ≤ v → (r = 2 → v = 0) → (r = 1 → v ≤ 9) → (r = 0 → v ≤ 99) → ps_d (ps_s T n p) → p6_F g g1 → g1 36 4 = (x : Int) → g1 36 5 = (t : Int) → g1 38 = g 38 → ps_l T n r v x = ps_l T n m 0 p → J 28 [some (.inr (.inr 36)), some (.inl m), some (.inl v), some (.inl i)] [] g1 := by
    intro r
    have fin : ∀ (i : Nat) (v : Int) (x : Nat) (g1 : m_G), ps_d (ps_s T n p) → p6_F g g1 → g1 36 4 = (x : Int) → g1 36 5 = (t : Int) → g1 38 = g 38 → (v, x) = ps_l T n m 0 p → J 80 [some (.inr (.inr 36)), some (.inl m), some (.inl v), some (.inl i)] [] g1 := by
      intro i v x g1 hd hF h4 h5 h38 he
      refine m_run_ok hJ (fun pc => pc == 28 || pc == 80) 60 _ _ _ _ ?_
      simp only [e_go, rX6_readNumber_0, rX6_readNumber_1, rX6_readNumber_2, rX6_readNumber_5, rX6_readNumber_8, rX6_readNumber_11, rX6_readNumber_14, rX6_readNumber_15, rX6_readNumber_18, rX6_readNumber_19, rX6_readNumber_22, rX6_readNumber_23, rX6_readNumber_24, rX6_readNumber_25, rX6_readNumber_26, rX6_readNumber_27, rX6_readNumber_28, rX6_readNumber_29, rX6_readNumber_30, rX6_readNumber_33, rX6_readNumber_34, rX6_readNumber_35, rX6_readNumber_38, rX6_readNumber_41, rX6_readNumber_44, rX6_readNumber_47, rX6_readNumber_48, rX6_readNumber_50, rX6_readNumber_51, rX6_readNumber_52, rX6_readNumber_53, rX6_readNumber_56, rX6_readNumber_59, rX6_readNumber_60, rX6_readNumber_62, rX6_readNumber_63, rX6_readNumber_64, rX6_readNumber_65, rX6_readNumber_66, rX6_readNumber_69, rX6_readNumber_70, rX6_readNumber_71, rX6_readNumber_74, rX6_readNumber_77, rX6_readNumber_80, rX6_readNumber_81, rX6_readNumber_84, rX6_readNumber_85, rX6_readNumber_88, rX6_readNumber_89, rX6_readNumber_90, rX6_readNumber_91, rX6_readNumber_92, rX6_readNumber_95, rX6_readNumber_96, rX6_readNumber_97, rX6_readNumber_100, rX6_readNumber_101, e_ald0, e_bin, e_callS1, e_callV2, e_dupi, e_dupr, e_get, e_goto, e_iast, e_icmp, e_if, e_ild1, e_ild2, e_ild3, e_inc3, e_ist2, e_ist3, e_nl0, e_nl1, e_nl2, e_push, e_pushn, e_pushs, e_put, e_retz, m_b0, m_b01, m_b1, m_em, Classical.not_not, Nat.reduceBEq, Nat.reduceLT, Nat.reduceLeDiff, Nat.reduceAdd, cond_true, cond_false, Bool.or_false, Bool.false_or, Bool.or_true, Bool.true_or, beq_iff_eq, true_and, and_true, true_or, or_true, forall_const, not_true_eq_false, not_false_eq_true, false_implies, implies_true, Nat.reduceEqDiff, List.length_nil, List.length_cons, ob_36, fv_36_0, fs_36_0, fv_36_1, fv_36_2, fv_36_3, fv_36_4, fs_36_4, fv_36_5, fs_36_5, kd_37, ln_37, kd_38, ln_38, Int.toNat_natCast]
      rw [h5, m_up_ne (by decide), h5, m_w2 (x := (t : Int) + 1) (by omega) (by omega), show (t : Int) + 1 = ((t + 1 : Nat) : Int) by omega, Int.toNat_natCast]
      refine ⟨by omega, ?_⟩
      refine h1 _ hd (hF.trans ⟨fun j a1 a2 => by rw [m_up_ne a1, m_up_ne a2], fun k k4 k5 => by rw [m_up_eq, m_un k5, m_up_ne (by decide)]⟩) ?_ ?_ ?_ ?_
      · rw [m_up_eq, m_un (by decide), m_up_ne (by decide), h4, ← he]
      · rw [m_up_eq, m_us]
      · rw [m_up_ne (by decide), m_up_eq, m_us, ← he]
      · intro i hi; rw [m_up_ne (by decide), m_up_eq, m_un hi, h38]
    induction r with
    | zero =>
      intro i v x g1 hi hx hv a2 a1 a0 hd hF h4 h5 h38 he
      simp only [ps_l] at he
      refine m_run_ok hJ (fun pc => pc == 28 || pc == 80) 60 _ _ _ _ ?_
      simp only [e_go, rX6_readNumber_0, rX6_readNumber_1, rX6_readNumber_2, rX6_readNumber_5, rX6_readNumber_8, rX6_readNumber_11, rX6_readNumber_14, rX6_readNumber_15, rX6_readNumber_18, rX6_readNumber_19, rX6_readNumber_22, rX6_readNumber_23, rX6_readNumber_24, rX6_readNumber_25, rX6_readNumber_26, rX6_readNumber_27, rX6_readNumber_28, rX6_readNumber_29, rX6_readNumber_30, rX6_readNumber_33, rX6_readNumber_34, rX6_readNumber_35, rX6_readNumber_38, rX6_readNumber_41, rX6_readNumber_44, rX6_readNumber_47, rX6_readNumber_48, rX6_readNumber_50, rX6_readNumber_51, rX6_readNumber_52, rX6_readNumber_53, rX6_readNumber_56, rX6_readNumber_59, rX6_readNumber_60, rX6_readNumber_62, rX6_readNumber_63, rX6_readNumber_64, rX6_readNumber_65, rX6_readNumber_66, rX6_readNumber_69, rX6_readNumber_70, rX6_readNumber_71, rX6_readNumber_74, rX6_readNumber_77, rX6_readNumber_80, rX6_readNumber_81, rX6_readNumber_84, rX6_readNumber_85, rX6_readNumber_88, rX6_readNumber_89, rX6_readNumber_90, rX6_readNumber_91, rX6_readNumber_92, rX6_readNumber_95, rX6_readNumber_96, rX6_readNumber_97, rX6_readNumber_100, rX6_readNumber_101, e_ald0, e_bin, e_callS1, e_callV2, e_dupi, e_dupr, e_get, e_goto, e_iast, e_icmp, e_if, e_ild1, e_ild2, e_ild3, e_inc3, e_ist2, e_ist3, e_nl0, e_nl1, e_nl2, e_push, e_pushn, e_pushs, e_put, e_retz, m_b0, m_b01, m_b1, m_em, Classical.not_not, Nat.reduceBEq, Nat.reduceLT, Nat.reduceLeDiff, Nat.reduceAdd, cond_true, cond_false, Bool.or_false, Bool.false_or, Bool.or_true, Bool.true_or, beq_iff_eq, true_and, and_true, true_or, or_true, forall_const, not_true_eq_false, not_false_eq_true, false_implies, implies_true, Nat.reduceEqDiff, List.length_nil, List.length_cons, ob_36, fv_36_0, fs_36_0, fv_36_1, fv_36_2, fv_36_3, fv_36_4, fs_36_4, fv_36_5, fs_36_5, kd_37, ln_37, kd_38, ln_38, Int.toNat_natCast]
      exact ⟨fun _ => fin i v x g1 hd hF h4 h5 h38 he, fun z => absurd z (by omega)⟩
    | succ r ih =>
      intro i v x g1 hi hx hv a2 a1 a0 hd hF h4 h5 h38 he
      have hT1 := hT.keep hF
      simp only [ps_l] at he
      refine m_run_ok hJ (fun pc => pc == 28 || pc == 80) 60 _ _ _ _ ?_
      simp only [e_go, rX6_readNumber_0, rX6_readNumber_1, rX6_readNumber_2, rX6_readNumber_5, rX6_readNumber_8, rX6_readNumber_11, rX6_readNumber_14, rX6_readNumber_15, rX6_readNumber_18, rX6_readNumber_19, rX6_readNumber_22, rX6_readNumber_23, rX6_readNumber_24, rX6_readNumber_25, rX6_readNumber_26, rX6_readNumber_27, rX6_readNumber_28, rX6_readNumber_29, rX6_readNumber_30, rX6_readNumber_33, rX6_readNumber_34, rX6_readNumber_35, rX6_readNumber_38, rX6_readNumber_41, rX6_readNumber_44, rX6_readNumber_47, rX6_readNumber_48, rX6_readNumber_50, rX6_readNumber_51, rX6_readNumber_52, rX6_readNumber_53, rX6_readNumber_56, rX6_readNumber_59, rX6_readNumber_60, rX6_readNumber_62, rX6_readNumber_63, rX6_readNumber_64, rX6_readNumber_65, rX6_readNumber_66, rX6_readNumber_69, rX6_readNumber_70, rX6_readNumber_71, rX6_readNumber_74, rX6_readNumber_77, rX6_readNumber_80, rX6_readNumber_81, rX6_readNumber_84, rX6_readNumber_85, rX6_readNumber_88, rX6_readNumber_89, rX6_readNumber_90, rX6_readNumber_91, rX6_readNumber_92, rX6_readNumber_95, rX6_readNumber_96, rX6_readNumber_97, rX6_readNumber_100, rX6_readNumber_101, e_ald0, e_bin, e_callS1, e_callV2, e_dupi, e_dupr, e_get, e_goto, e_iast, e_icmp, e_if, e_ild1, e_ild2, e_ild3, e_inc3, e_ist2, e_ist3, e_nl0, e_nl1, e_nl2, e_push, e_pushn, e_pushs, e_put, e_retz, m_b0, m_b01, m_b1, m_em, Classical.not_not, Nat.reduceBEq, Nat.reduceLT, Nat.reduceLeDiff, Nat.reduceAdd, cond_true, cond_false, Bool.or_false, Bool.false_or, Bool.or_true, Bool.true_or, beq_iff_eq, true_and, and_true, true_or, or_true, forall_const, not_true_eq_false, not_false_eq_true, false_implies, implies_true, Nat.reduceEqDiff, List.length_nil, List.length_cons, ob_36, fv_36_0, fs_36_0, fv_36_1, fv_36_2, fv_36_3, fv_36_4, fs_36_4, fv_36_5, fs_36_5, kd_37, ln_37, kd_38, ln_38, Int.toNat_natCast]
      rw [h4]
      refine ⟨fun z => absurd z (by omega), fun _ => ?_⟩
      refine p6_at hT1 ?_
      simp only [e_go, rX6_readNumber_0, rX6_readNumber_1, rX6_readNumber_2, rX6_readNumber_5, rX6_readNumber_8, rX6_readNumber_11, rX6_readNumber_14, rX6_readNumber_15, rX6_readNumber_18, rX6_readNumber_19, rX6_readNumber_22, rX6_readNumber_23, rX6_readNumber_24, rX6_readNumber_25, rX6_readNumber_26, rX6_readNumber_27, rX6_readNumber_28, rX6_readNumber_29, rX6_readNumber_30, rX6_readNumber_33, rX6_readNumber_34, rX6_readNumber_35, rX6_readNumber_38, rX6_readNumber_41, rX6_readNumber_44, rX6_readNumber_47, rX6_readNumber_48, rX6_readNumber_50, rX6_readNumber_51, rX6_readNumber_52, rX6_readNumber_53, rX6_readNumber_56, rX6_readNumber_59, rX6_readNumber_60, rX6_readNumber_62, rX6_readNumber_63, rX6_readNumber_64, rX6_readNumber_65, rX6_readNumber_66, rX6_readNumber_69, rX6_readNumber_70, rX6_readNumber_71, rX6_readNumber_74, rX6_readNumber_77, rX6_readNumber_80, rX6_readNumber_81, rX6_readNumber_84, rX6_readNumber_85, rX6_readNumber_88, rX6_readNumber_89, rX6_readNumber_90, rX6_readNumber_91, rX6_readNumber_92, rX6_readNumber_95, rX6_readNumber_96, rX6_readNumber_97, rX6_readNumber_100, rX6_readNumber_101, e_ald0, e_bin, e_callS1, e_callV2, e_dupi, e_dupr, e_get, e_goto, e_iast, e_icmp, e_if, e_ild1, e_ild2, e_ild3, e_inc3, e_ist2, e_ist3, e_nl0, e_nl1, e_nl2, e_push, e_pushn, e_pushs, e_put, e_retz, m_b0, m_b01, m_b1, m_em, Classical.not_not, Nat.reduceBEq, Nat.reduceLT, Nat.reduceLeDiff, Nat.reduceAdd, cond_true, cond_false, Bool.or_false, Bool.false_or, Bool.or_true, Bool.true_or, beq_iff_eq, true_and, and_true, true_or, or_true, forall_const, not_true_eq_false, not_false_eq_true, false_implies, implies_true, Nat.reduceEqDiff, List.length_nil, List.length_cons, ob_36, fv_36_0, fs_36_0, fv_36_1, fv_36_2, fv_36_3, fv_36_4, fs_36_4, fv_36_5, fs_36_5, kd_37, ln_37, kd_38, ln_38, Int.toNat_natCast]
      refine p6_isDigit ?_
      simp only [e_go, rX6_readNumber_0, rX6_readNumber_1, rX6_readNumber_2, rX6_readNumber_5, rX6_readNumber_8, rX6_readNumber_11, rX6_readNumber_14, rX6_readNumber_15, rX6_readNumber_18, rX6_readNumber_19, rX6_readNumber_22, rX6_readNumber_23, rX6_readNumber_24, rX6_readNumber_25, rX6_readNumber_26, rX6_readNumber_27, rX6_readNumber_28, rX6_readNumber_29, rX6_readNumber_30, rX6_readNumber_33, rX6_readNumber_34, rX6_readNumber_35, rX6_readNumber_38, rX6_readNumber_41, rX6_readNumber_44, rX6_readNumber_47, rX6_readNumber_48, rX6_readNumber_50, rX6_readNumber_51, rX6_readNumber_52, rX6_readNumber_53, rX6_readNumber_56, rX6_readNumber_59, rX6_readNumber_60, rX6_readNumber_62, rX6_readNumber_63, rX6_readNumber_64, rX6_readNumber_65, rX6_readNumber_66, rX6_readNumber_69, rX6_readNumber_70, rX6_readNumber_71, rX6_readNumber_74, rX6_readNumber_77, rX6_readNumber_80, rX6_readNumber_81, rX6_readNumber_84, rX6_readNumber_85, rX6_readNumber_88, rX6_readNumber_89, rX6_readNumber_90, rX6_readNumber_91, rX6_readNumber_92, rX6_readNumber_95, rX6_readNumber_96, rX6_readNumber_97, rX6_readNumber_100, rX6_readNumber_101, e_ald0, e_bin, e_callS1, e_callV2, e_dupi, e_dupr, e_get, e_goto, e_iast, e_icmp, e_if, e_ild1, e_ild2, e_ild3, e_inc3, e_ist2, e_ist3, e_nl0, e_nl1, e_nl2, e_push, e_pushn, e_pushs, e_put, e_retz, m_b0, m_b01, m_b1, m_em, Classical.not_not, Nat.reduceBEq, Nat.reduceLT, Nat.reduceLeDiff, Nat.reduceAdd, cond_true, cond_false, Bool.or_false, Bool.false_or, Bool.or_true, Bool.true_or, beq_iff_eq, true_and, and_true, true_or, or_true, forall_const, not_true_eq_false, not_false_eq_true, false_implies, implies_true, Nat.reduceEqDiff, List.length_nil, List.length_cons, ob_36, fv_36_0, fs_36_0, fv_36_1, fv_36_2, fv_36_3, fv_36_4, fs_36_4, fv_36_5, fs_36_5, kd_37, ln_37, kd_38, ln_38, Int.toNat_natCast]
      refine ⟨fun c => ?_, fun c => ?_⟩
      · rw [if_neg c] at he
        exact fin i v x g1 hd hF h4 h5 h38 he
      · rw [if_pos c] at he
        have hlt := ps_s_lt (T := T) (n := n) (p := x) (by have := c.1; omega)
        rw [h4]
        refine p6_at hT1 ?_
        simp only [e_go, rX6_readNumber_0, rX6_readNumber_1, rX6_readNumber_2, rX6_readNumber_5, rX6_readNumber_8, rX6_readNumber_11, rX6_readNumber_14, rX6_readNumber_15, rX6_readNumber_18, rX6_readNumber_19, rX6_readNumber_22, rX6_readNumber_23, rX6_readNumber_24, rX6_readNumber_25, rX6_readNumber_26, rX6_readNumber_27, rX6_readNumber_28, rX6_readNumber_29, rX6_readNumber_30, rX6_readNumber_33, rX6_readNumber_34, rX6_readNumber_35, rX6_readNumber_38, rX6_readNumber_41, rX6_readNumber_44, rX6_readNumber_47, rX6_readNumber_48, rX6_readNumber_50, rX6_readNumber_51, rX6_readNumber_52, rX6_readNumber_53, rX6_readNumber_56, rX6_readNumber_59, rX6_readNumber_60, rX6_readNumber_62, rX6_readNumber_63, rX6_readNumber_64, rX6_readNumber_65, rX6_readNumber_66, rX6_readNumber_69, rX6_readNumber_70, rX6_readNumber_71, rX6_readNumber_74, rX6_readNumber_77, rX6_readNumber_80, rX6_readNumber_81, rX6_readNumber_84, rX6_readNumber_85, rX6_readNumber_88, rX6_readNumber_89, rX6_readNumber_90, rX6_readNumber_91, rX6_readNumber_92, rX6_readNumber_95, rX6_readNumber_96, rX6_readNumber_97, rX6_readNumber_100, rX6_readNumber_101, e_ald0, e_bin, e_callS1, e_callV2, e_dupi, e_dupr, e_get, e_goto, e_iast, e_icmp, e_if, e_ild1, e_ild2, e_ild3, e_inc3, e_ist2, e_ist3, e_nl0, e_nl1, e_nl2, e_push, e_pushn, e_pushs, e_put, e_retz, m_b0, m_b01, m_b1, m_em, Classical.not_not, Nat.reduceBEq, Nat.reduceLT, Nat.reduceLeDiff, Nat.reduceAdd, cond_true, cond_false, Bool.or_false, Bool.false_or, Bool.or_true, Bool.true_or, beq_iff_eq, true_and, and_true, true_or, or_true, forall_const, not_true_eq_false, not_false_eq_true, false_implies, implies_true, Nat.reduceEqDiff, List.length_nil, List.length_cons, ob_36, fv_36_0, fs_36_0, fv_36_1, fv_36_2, fv_36_3, fv_36_4, fs_36_4, fv_36_5, fs_36_5, kd_37, ln_37, kd_38, ln_38, Int.toNat_natCast]
        have hvb : v ≤ 9 := by
          rcases hm with e | e
          · have := a1; have := a2; omega
          · have := a1; have := a2; omega
        have c1 := c.1
        have c2 := c.2
        rw [m_w2 (x := v * 10) (by omega) (by omega), m_w2 (x := v * 10 + ps_s T n x) (by omega) (by omega), m_w2 (x := v * 10 + ps_s T n x - 48) (by omega) (by omega), h4, m_w2 (x := (x : Int) + 1) (by omega) (by omega), m_w2 (x := (i : Int) + 1) (by omega) (by omega), show (x : Int) + 1 = ((x + 1 : Nat) : Int) by omega, show (i : Int) + 1 = ((i + 1 : Nat) : Int) by omega, show v * 10 + ps_s T n x - 48 = 10 * v + ps_s T n x - 48 by omega]
        exact ih (i + 1) (10 * v + ps_s T n x - 48) (x + 1) _ (by omega) (by omega) (by omega) (by omega) (fun e => by have := a2 (by omega); omega) (fun e => by omega) hd (hF.trans ⟨fun j b1 b2 => m_up_ne b1, fun k k4 k5 => by rw [m_up_eq, m_un k4]⟩) (by rw [m_up_eq, m_us]) (by rw [m_up_eq, m_un (by decide)]; exact h5) (by rw [m_up_ne (by decide)]; exact h38) he
  refine m_run_ok hJ (fun pc => pc == 28 || pc == 80) 60 _ _ _ _ ?_
  simp only [e_go, rX6_readNumber_0, rX6_readNumber_1, rX6_readNumber_2, rX6_readNumber_5, rX6_readNumber_8, rX6_readNumber_11, rX6_readNumber_14, rX6_readNumber_15, rX6_readNumber_18, rX6_readNumber_19, rX6_readNumber_22, rX6_readNumber_23, rX6_readNumber_24, rX6_readNumber_25, rX6_readNumber_26, rX6_readNumber_27, rX6_readNumber_28, rX6_readNumber_29, rX6_readNumber_30, rX6_readNumber_33, rX6_readNumber_34, rX6_readNumber_35, rX6_readNumber_38, rX6_readNumber_41, rX6_readNumber_44, rX6_readNumber_47, rX6_readNumber_48, rX6_readNumber_50, rX6_readNumber_51, rX6_readNumber_52, rX6_readNumber_53, rX6_readNumber_56, rX6_readNumber_59, rX6_readNumber_60, rX6_readNumber_62, rX6_readNumber_63, rX6_readNumber_64, rX6_readNumber_65, rX6_readNumber_66, rX6_readNumber_69, rX6_readNumber_70, rX6_readNumber_71, rX6_readNumber_74, rX6_readNumber_77, rX6_readNumber_80, rX6_readNumber_81, rX6_readNumber_84, rX6_readNumber_85, rX6_readNumber_88, rX6_readNumber_89, rX6_readNumber_90, rX6_readNumber_91, rX6_readNumber_92, rX6_readNumber_95, rX6_readNumber_96, rX6_readNumber_97, rX6_readNumber_100, rX6_readNumber_101, e_ald0, e_bin, e_callS1, e_callV2, e_dupi, e_dupr, e_get, e_goto, e_iast, e_icmp, e_if, e_ild1, e_ild2, e_ild3, e_inc3, e_ist2, e_ist3, e_nl0, e_nl1, e_nl2, e_push, e_pushn, e_pushs, e_put, e_retz, m_b0, m_b01, m_b1, m_em, Classical.not_not, Nat.reduceBEq, Nat.reduceLT, Nat.reduceLeDiff, Nat.reduceAdd, cond_true, cond_false, Bool.or_false, Bool.false_or, Bool.or_true, Bool.true_or, beq_iff_eq, true_and, and_true, true_or, or_true, forall_const, not_true_eq_false, not_false_eq_true, false_implies, implies_true, Nat.reduceEqDiff, List.length_nil, List.length_cons, ob_36, fv_36_0, fs_36_0, fv_36_1, fv_36_2, fv_36_3, fv_36_4, fs_36_4, fv_36_5, fs_36_5, kd_37, ln_37, kd_38, ln_38, Int.toNat_natCast]
  rw [hp]
  refine p6_at hT ?_
  simp only [e_go, rX6_readNumber_0, rX6_readNumber_1, rX6_readNumber_2, rX6_readNumber_5, rX6_readNumber_8, rX6_readNumber_11, rX6_readNumber_14, rX6_readNumber_15, rX6_readNumber_18, rX6_readNumber_19, rX6_readNumber_22, rX6_readNumber_23, rX6_readNumber_24, rX6_readNumber_25, rX6_readNumber_26, rX6_readNumber_27, rX6_readNumber_28, rX6_readNumber_29, rX6_readNumber_30, rX6_readNumber_33, rX6_readNumber_34, rX6_readNumber_35, rX6_readNumber_38, rX6_readNumber_41, rX6_readNumber_44, rX6_readNumber_47, rX6_readNumber_48, rX6_readNumber_50, rX6_readNumber_51, rX6_readNumber_52, rX6_readNumber_53, rX6_readNumber_56, rX6_readNumber_59, rX6_readNumber_60, rX6_readNumber_62, rX6_readNumber_63, rX6_readNumber_64, rX6_readNumber_65, rX6_readNumber_66, rX6_readNumber_69, rX6_readNumber_70, rX6_readNumber_71, rX6_readNumber_74, rX6_readNumber_77, rX6_readNumber_80, rX6_readNumber_81, rX6_readNumber_84, rX6_readNumber_85, rX6_readNumber_88, rX6_readNumber_89, rX6_readNumber_90, rX6_readNumber_91, rX6_readNumber_92, rX6_readNumber_95, rX6_readNumber_96, rX6_readNumber_97, rX6_readNumber_100, rX6_readNumber_101, e_ald0, e_bin, e_callS1, e_callV2, e_dupi, e_dupr, e_get, e_goto, e_iast, e_icmp, e_if, e_ild1, e_ild2, e_ild3, e_inc3, e_ist2, e_ist3, e_nl0, e_nl1, e_nl2, e_push, e_pushn, e_pushs, e_put, e_retz, m_b0, m_b01, m_b1, m_em, Classical.not_not, Nat.reduceBEq, Nat.reduceLT, Nat.reduceLeDiff, Nat.reduceAdd, cond_true, cond_false, Bool.or_false, Bool.false_or, Bool.or_true, Bool.true_or, beq_iff_eq, true_and, and_true, true_or, or_true, forall_const, not_true_eq_false, not_false_eq_true, false_implies, implies_true, Nat.reduceEqDiff, List.length_nil, List.length_cons, ob_36, fv_36_0, fs_36_0, fv_36_1, fv_36_2, fv_36_3, fv_36_4, fs_36_4, fv_36_5, fs_36_5, kd_37, ln_37, kd_38, ln_38, Int.toNat_natCast]
  refine p6_isDigit ?_
  simp only [e_go, rX6_readNumber_0, rX6_readNumber_1, rX6_readNumber_2, rX6_readNumber_5, rX6_readNumber_8, rX6_readNumber_11, rX6_readNumber_14, rX6_readNumber_15, rX6_readNumber_18, rX6_readNumber_19, rX6_readNumber_22, rX6_readNumber_23, rX6_readNumber_24, rX6_readNumber_25, rX6_readNumber_26, rX6_readNumber_27, rX6_readNumber_28, rX6_readNumber_29, rX6_readNumber_30, rX6_readNumber_33, rX6_readNumber_34, rX6_readNumber_35, rX6_readNumber_38, rX6_readNumber_41, rX6_readNumber_44, rX6_readNumber_47, rX6_readNumber_48, rX6_readNumber_50, rX6_readNumber_51, rX6_readNumber_52, rX6_readNumber_53, rX6_readNumber_56, rX6_readNumber_59, rX6_readNumber_60, rX6_readNumber_62, rX6_readNumber_63, rX6_readNumber_64, rX6_readNumber_65, rX6_readNumber_66, rX6_readNumber_69, rX6_readNumber_70, rX6_readNumber_71, rX6_readNumber_74, rX6_readNumber_77, rX6_readNumber_80, rX6_readNumber_81, rX6_readNumber_84, rX6_readNumber_85, rX6_readNumber_88, rX6_readNumber_89, rX6_readNumber_90, rX6_readNumber_91, rX6_readNumber_92, rX6_readNumber_95, rX6_readNumber_96, rX6_readNumber_97, rX6_readNumber_100, rX6_readNumber_101, e_ald0, e_bin, e_callS1, e_callV2, e_dupi, e_dupr, e_get, e_goto, e_iast, e_icmp, e_if, e_ild1, e_ild2, e_ild3, e_inc3, e_ist2, e_ist3, e_nl0, e_nl1, e_nl2, e_push, e_pushn, e_pushs, e_put, e_retz, m_b0, m_b01, m_b1, m_em, Classical.not_not, Nat.reduceBEq, Nat.reduceLT, Nat.reduceLeDiff, Nat.reduceAdd, cond_true, cond_false, Bool.or_false, Bool.false_or, Bool.or_true, Bool.true_or, beq_iff_eq, true_and, and_true, true_or, or_true, forall_const, not_true_eq_false, not_false_eq_true, false_implies, implies_true, Nat.reduceEqDiff, List.length_nil, List.length_cons, ob_36, fv_36_0, fs_36_0, fv_36_1, fv_36_2, fv_36_3, fv_36_4, fs_36_4, fv_36_5, fs_36_5, kd_37, ln_37, kd_38, ln_38, Int.toNat_natCast]
  rw [ht]
  refine ⟨fun c => h0 c, fun c => ⟨fun _ => ?_, fun z => absurd z (by omega)⟩⟩
  exact loop m 0 0 p g (by omega) hpn (by decide) (fun _ => rfl) (fun _ => by decide) (fun _ => by decide) c p6_F.rfl' hp ht rfl rfl
theorem p6_readPart {g : m_G} {T : Nat → Int} {n p : Nat} {x : Int} {xs vs : List Int} {q : m_Post} (hT : p6_T g T n) (hx : x = 100 ∨ x = 110 ∨ (x ≠ 100 ∧ x ≠ 110 ∧ 0 ≤ x)) (hp : g 36 4 = (p : Int)) (hpn : p ≤ n) (ht : g 36 5 = (vs.length : Int)) (ht3 : vs.length < 3 ∨ (x ≠ 100 ∧ x ≠ 110)) (hvs : ∀ i, i < vs.length → g 38 i = vs.getD i 0)
    (h0 : ps_f T n (x :: xs) vs p = (false, p, vs) → q (some (.inl 0)) g)
    (h1 : ∀ g' vs' p', ps_f T n (x :: xs) vs p = ps_f T n xs vs' p' → p' ≤ n → p6_F g g' → g' 36 4 = (p' : Int) → g' 36 5 = (vs'.length : Int) → (vs'.length = vs.length + (if x = 100 ∨ x = 110 then 1 else 0)) → (∀ i, i < vs'.length → g' 38 i = vs'.getD i 0) → q (some (.inl 1)) g') : wX6_readPart.1 [.inr (.inr 36), .inl x] g q := by
  have hn := hT.2.1
  refine m_wp_of (by simp [m_fit]) (fun J hJ => ?_)
  simp only [m_ini, Nat.reduceSub, List.replicate]
  have num : ∀ m : Nat, (m = 1 ∧ x = 100) ∨ (m = 2 ∧ x = 110) → ∀ q2 : m_Post, (∀ v g', (v = 0 ∨ v = 1) → q (some (.inl v)) g' → q2 (some (.inl v)) g') → wX6_readNumber.1 [.inr (.inr 36), .inl m] g q2 := by
    intro m hm q2 hq2
    have ht' : vs.length < 3 := by omega
    have he : ps_f T n (x :: xs) vs p = if ps_d (ps_s T n p) then ps_f T n xs (vs ++ [(ps_l T n m 0 p).1]) (ps_l T n m 0 p).2 else (false, p, vs) := by
      rcases hm with ⟨e1, e2⟩ | ⟨e1, e2⟩
      · rw [e1, e2, ps_f_d]
      · rw [e1, e2, ps_f_n]
    refine p6_readNumber (t := vs.length) hT hp hpn ht ht' (by omega) (fun c => hq2 _ _ (Or.inl rfl) (h0 (by rw [he, if_neg c]))) (fun g' c d1 d2 d3 d4 d5 => hq2 _ _ (Or.inr rfl) ?_)
    have hl := (ps_l_b (T := T) (n := n) m 0 p (by omega) hpn (by decide) (fun _ => rfl) (fun _ => by decide) (fun _ => by decide)).2.2
    have hlen : (vs ++ [(ps_l T n m 0 p).1]).length = vs.length + 1 := by simp
    refine h1 g' (vs ++ [(ps_l T n m 0 p).1]) (ps_l T n m 0 p).2 (by rw [he, if_pos c]) hl d1 d2 (by rw [hlen]; exact d3) (by rw [hlen, if_pos (by omega)]) (fun i hi => ?_)
    rw [hlen] at hi
    by_cases e : i = vs.length
    · rw [e, d4]; simp
    · rw [d5 i e, hvs i (by omega)]
      simp only [List.getD_eq_getElem?_getD]
      rw [List.getElem?_append_left (by omega)]
  refine m_run_ok hJ (fun _ => false) 60 _ _ _ _ ?_
  simp only [e_go, rX6_readPart_0, rX6_readPart_1, rX6_readPart_3, rX6_readPart_6, rX6_readPart_7, rX6_readPart_8, rX6_readPart_11, rX6_readPart_12, rX6_readPart_13, rX6_readPart_15, rX6_readPart_18, rX6_readPart_19, rX6_readPart_20, rX6_readPart_23, rX6_readPart_24, rX6_readPart_25, rX6_readPart_26, rX6_readPart_29, rX6_readPart_32, rX6_readPart_33, rX6_readPart_36, rX6_readPart_37, rX6_readPart_38, rX6_readPart_39, rX6_readPart_40, rX6_readPart_43, rX6_readPart_44, rX6_readPart_45, rX6_readPart_48, rX6_readPart_49, e_ald0, e_bin, e_callV2, e_dupi, e_dupr, e_get, e_icmp, e_ild1, e_push, e_pushn, e_pushs, e_put, e_retz, m_b0, m_b01, m_b1, m_em, Classical.not_not, Nat.reduceBEq, Nat.reduceLT, Nat.reduceLeDiff, Nat.reduceAdd, cond_true, cond_false, Bool.or_false, Bool.false_or, Bool.or_true, Bool.true_or, beq_iff_eq, true_and, and_true, true_or, or_true, forall_const, not_true_eq_false, not_false_eq_true, false_implies, implies_true, Nat.reduceEqDiff, List.length_nil, List.length_cons, ob_36, fv_36_0, fs_36_0, fv_36_1, fv_36_2, fv_36_3, fv_36_4, fs_36_4, fv_36_5, fs_36_5]
  refine ⟨fun c => ⟨fun c2 => ?_, fun c2 => ?_⟩, fun c => ?_⟩
  · rw [hp]
    refine p6_at hT ?_
    simp only [e_go, rX6_readPart_0, rX6_readPart_1, rX6_readPart_3, rX6_readPart_6, rX6_readPart_7, rX6_readPart_8, rX6_readPart_11, rX6_readPart_12, rX6_readPart_13, rX6_readPart_15, rX6_readPart_18, rX6_readPart_19, rX6_readPart_20, rX6_readPart_23, rX6_readPart_24, rX6_readPart_25, rX6_readPart_26, rX6_readPart_29, rX6_readPart_32, rX6_readPart_33, rX6_readPart_36, rX6_readPart_37, rX6_readPart_38, rX6_readPart_39, rX6_readPart_40, rX6_readPart_43, rX6_readPart_44, rX6_readPart_45, rX6_readPart_48, rX6_readPart_49, e_ald0, e_bin, e_callV2, e_dupi, e_dupr, e_get, e_icmp, e_ild1, e_push, e_pushn, e_pushs, e_put, e_retz, m_b0, m_b01, m_b1, m_em, Classical.not_not, Nat.reduceBEq, Nat.reduceLT, Nat.reduceLeDiff, Nat.reduceAdd, cond_true, cond_false, Bool.or_false, Bool.false_or, Bool.or_true, Bool.true_or, beq_iff_eq, true_and, and_true, true_or, or_true, forall_const, not_true_eq_false, not_false_eq_true, false_implies, implies_true, Nat.reduceEqDiff, List.length_nil, List.length_cons, ob_36, fv_36_0, fs_36_0, fv_36_1, fv_36_2, fv_36_3, fv_36_4, fs_36_4, fv_36_5, fs_36_5]
    rw [hp, m_w2 (x := (p : Int) + 1) (by omega) (by omega), show (p : Int) + 1 = ((p + 1 : Nat) : Int) by omega]
    refine ⟨fun c3 => ?_, fun c3 => h0 (by rw [ps_f_c c c2, if_neg c3])⟩
    have hlt := ps_s_lt (T := T) (n := n) (p := p) (by omega)
    refine h1 _ vs (p + 1) (by rw [ps_f_c c c2, if_pos c3]) (by omega) ⟨fun j a1 a2 => m_up_ne a1, fun k k4 k5 => by rw [m_up_eq, m_un k4]⟩ (by rw [m_up_eq, m_us]) (by rw [m_up_eq, m_un (by decide)]; exact ht) (by rw [if_neg (by omega)]; rfl) (fun i hi => by rw [m_up_ne (by decide)]; exact hvs i hi)
  · refine num 2 (Or.inr ⟨rfl, by omega⟩) _ (fun v g' hv hq => ?_)
    simp only [e_go, rX6_readPart_0, rX6_readPart_1, rX6_readPart_3, rX6_readPart_6, rX6_readPart_7, rX6_readPart_8, rX6_readPart_11, rX6_readPart_12, rX6_readPart_13, rX6_readPart_15, rX6_readPart_18, rX6_readPart_19, rX6_readPart_20, rX6_readPart_23, rX6_readPart_24, rX6_readPart_25, rX6_readPart_26, rX6_readPart_29, rX6_readPart_32, rX6_readPart_33, rX6_readPart_36, rX6_readPart_37, rX6_readPart_38, rX6_readPart_39, rX6_readPart_40, rX6_readPart_43, rX6_readPart_44, rX6_readPart_45, rX6_readPart_48, rX6_readPart_49, e_ald0, e_bin, e_callV2, e_dupi, e_dupr, e_get, e_icmp, e_ild1, e_push, e_pushn, e_pushs, e_put, e_retz, m_b0, m_b01, m_b1, m_em, Classical.not_not, Nat.reduceBEq, Nat.reduceLT, Nat.reduceLeDiff, Nat.reduceAdd, cond_true, cond_false, Bool.or_false, Bool.false_or, Bool.or_true, Bool.true_or, beq_iff_eq, true_and, and_true, true_or, or_true, forall_const, not_true_eq_false, not_false_eq_true, false_implies, implies_true, Nat.reduceEqDiff, List.length_nil, List.length_cons, ob_36, fv_36_0, fs_36_0, fv_36_1, fv_36_2, fv_36_3, fv_36_4, fs_36_4, fv_36_5, fs_36_5]
    first | exact ⟨hv, hq⟩ | exact hq
  · refine num 1 (Or.inl ⟨rfl, by omega⟩) _ (fun v g' hv hq => ?_)
    simp only [e_go, rX6_readPart_0, rX6_readPart_1, rX6_readPart_3, rX6_readPart_6, rX6_readPart_7, rX6_readPart_8, rX6_readPart_11, rX6_readPart_12, rX6_readPart_13, rX6_readPart_15, rX6_readPart_18, rX6_readPart_19, rX6_readPart_20, rX6_readPart_23, rX6_readPart_24, rX6_readPart_25, rX6_readPart_26, rX6_readPart_29, rX6_readPart_32, rX6_readPart_33, rX6_readPart_36, rX6_readPart_37, rX6_readPart_38, rX6_readPart_39, rX6_readPart_40, rX6_readPart_43, rX6_readPart_44, rX6_readPart_45, rX6_readPart_48, rX6_readPart_49, e_ald0, e_bin, e_callV2, e_dupi, e_dupr, e_get, e_icmp, e_ild1, e_push, e_pushn, e_pushs, e_put, e_retz, m_b0, m_b01, m_b1, m_em, Classical.not_not, Nat.reduceBEq, Nat.reduceLT, Nat.reduceLeDiff, Nat.reduceAdd, cond_true, cond_false, Bool.or_false, Bool.false_or, Bool.or_true, Bool.true_or, beq_iff_eq, true_and, and_true, true_or, or_true, forall_const, not_true_eq_false, not_false_eq_true, false_implies, implies_true, Nat.reduceEqDiff, List.length_nil, List.length_cons, ob_36, fv_36_0, fs_36_0, fv_36_1, fv_36_2, fv_36_3, fv_36_4, fs_36_4, fv_36_5, fs_36_5]
    first | exact ⟨hv, hq⟩ | exact hq
theorem p6_readStatement {g : m_G} {T : Nat → Int} {n p : Nat} {q : m_Post} (hT : p6_T g T n) (hp : g 36 4 = (p : Int)) (hpn : p ≤ n)
    (h : ∀ g', p6_F g g' → g' 36 4 = ((ps_st T n p).2.1 : Int) → ((ps_st T n p).1 = true → ∀ i, i < (ps_st T n p).2.2.length → g' 38 i = (ps_st T n p).2.2.getD i 0) → q (some (.inl (if (ps_st T n p).1 = true then 1 else 0))) g') : wX6_readStatement.1 [.inr (.inr 36)] g q := by
  have hn := hT.2.1
  refine m_wp_of (by simp [m_fit]) (fun J hJ => ?_)
  simp only [m_ini, Nat.reduceSub, List.replicate]
  have loop : ∀ (X : Nat) (xs pre vs : List Int) (p1 : Nat) (g1 : m_G), (200 ≤ X ∧ X < 204) → ps_tx X = pre ++ xs → vs.length + (xs.filter (fun x => x == 100 || x == 110)).length ≤ 3 → ps_st T n p = ps_f T n xs vs p1 → p1 ≤ n → p6_F g g1 → g1 36 4 = (p1 : Int) → g1 36 5 = (vs.length : Int) → (∀ i, i < vs.length → g1 38 i = vs.getD i 0) → J 38 [some (.inr (.inr 36)), some (.inr (.inr X)), some (.inl pre.length)] [] g1 := by
    intro X xs
    induction xs with
    | nil =>
      intro pre vs p1 g1 hX hpre hcnt he hp1 hF h4 h5 hv
      have hlen : (ps_tx X).length = pre.length := by rw [hpre]; simp
      rw [ps_f_0] at he
      refine m_run_ok hJ (fun pc => pc == 38) 60 _ _ _ _ ?_
      simp only [e_go, rX6_readStatement_0, rX6_readStatement_1, rX6_readStatement_2, rX6_readStatement_5, rX6_readStatement_8, rX6_readStatement_11, rX6_readStatement_12, rX6_readStatement_13, rX6_readStatement_16, rX6_readStatement_19, rX6_readStatement_20, rX6_readStatement_21, rX6_readStatement_22, rX6_readStatement_23, rX6_readStatement_26, rX6_readStatement_27, rX6_readStatement_28, rX6_readStatement_31, rX6_readStatement_32, rX6_readStatement_33, rX6_readStatement_36, rX6_readStatement_37, rX6_readStatement_38, rX6_readStatement_39, rX6_readStatement_40, rX6_readStatement_43, rX6_readStatement_46, rX6_readStatement_47, rX6_readStatement_48, rX6_readStatement_49, rX6_readStatement_52, rX6_readStatement_55, rX6_readStatement_58, rX6_readStatement_59, rX6_readStatement_60, rX6_readStatement_63, rX6_readStatement_66, rX6_readStatement_67, e_ald0, e_ald1, e_ast1, e_bin, e_callS1, e_callT1, e_callT2, e_callV2, e_dupi, e_dupr, e_get, e_goto, e_icmp, e_if, e_ild2, e_inc2, e_ist2, e_nl0, e_nl1, e_nl2, e_push, e_pushn, e_pushs, e_put, e_retz, m_b0, m_b01, m_b1, m_em, Classical.not_not, Nat.reduceBEq, Nat.reduceLT, Nat.reduceLeDiff, Nat.reduceAdd, cond_true, cond_false, Bool.or_false, Bool.false_or, Bool.or_true, Bool.true_or, beq_iff_eq, true_and, and_true, true_or, or_true, forall_const, not_true_eq_false, not_false_eq_true, false_implies, implies_true, Nat.reduceEqDiff, List.length_nil, List.length_cons, ob_36, fv_36_0, fs_36_0, fv_36_1, fv_36_2, fv_36_3, fv_36_4, fs_36_4, fv_36_5, fs_36_5, Int.toNat_natCast]
      refine ⟨hX, ?_⟩
      refine pJ_length hX ?_
      simp only [e_go, rX6_readStatement_0, rX6_readStatement_1, rX6_readStatement_2, rX6_readStatement_5, rX6_readStatement_8, rX6_readStatement_11, rX6_readStatement_12, rX6_readStatement_13, rX6_readStatement_16, rX6_readStatement_19, rX6_readStatement_20, rX6_readStatement_21, rX6_readStatement_22, rX6_readStatement_23, rX6_readStatement_26, rX6_readStatement_27, rX6_readStatement_28, rX6_readStatement_31, rX6_readStatement_32, rX6_readStatement_33, rX6_readStatement_36, rX6_readStatement_37, rX6_readStatement_38, rX6_readStatement_39, rX6_readStatement_40, rX6_readStatement_43, rX6_readStatement_46, rX6_readStatement_47, rX6_readStatement_48, rX6_readStatement_49, rX6_readStatement_52, rX6_readStatement_55, rX6_readStatement_58, rX6_readStatement_59, rX6_readStatement_60, rX6_readStatement_63, rX6_readStatement_66, rX6_readStatement_67, e_ald0, e_ald1, e_ast1, e_bin, e_callS1, e_callT1, e_callT2, e_callV2, e_dupi, e_dupr, e_get, e_goto, e_icmp, e_if, e_ild2, e_inc2, e_ist2, e_nl0, e_nl1, e_nl2, e_push, e_pushn, e_pushs, e_put, e_retz, m_b0, m_b01, m_b1, m_em, Classical.not_not, Nat.reduceBEq, Nat.reduceLT, Nat.reduceLeDiff, Nat.reduceAdd, cond_true, cond_false, Bool.or_false, Bool.false_or, Bool.or_true, Bool.true_or, beq_iff_eq, true_and, and_true, true_or, or_true, forall_const, not_true_eq_false, not_false_eq_true, false_implies, implies_true, Nat.reduceEqDiff, List.length_nil, List.length_cons, ob_36, fv_36_0, fs_36_0, fv_36_1, fv_36_2, fv_36_3, fv_36_4, fs_36_4, fv_36_5, fs_36_5, Int.toNat_natCast]
      rw [hlen]
      have hh := h g1 hF (by rw [he]; exact h4) (fun _ => by rw [he]; exact hv)
      rw [he] at hh
      exact ⟨fun _ => hh, fun z => absurd z (by omega)⟩
    | cons x xs ih =>
      intro pre vs p1 g1 hX hpre hcnt he hp1 hF h4 h5 hv
      have hlen : (ps_tx X).length = pre.length + xs.length + 1 := by rw [hpre]; simp; omega
      have hget : (ps_tx X).getD pre.length 0 = x := by rw [hpre]; simp
      have hl6 := (ps_tx_l X hX.1 hX.2).2 pre.length (by omega)
      rw [hget] at hl6
      refine m_run_ok hJ (fun pc => pc == 38) 60 _ _ _ _ ?_
      simp only [e_go, rX6_readStatement_0, rX6_readStatement_1, rX6_readStatement_2, rX6_readStatement_5, rX6_readStatement_8, rX6_readStatement_11, rX6_readStatement_12, rX6_readStatement_13, rX6_readStatement_16, rX6_readStatement_19, rX6_readStatement_20, rX6_readStatement_21, rX6_readStatement_22, rX6_readStatement_23, rX6_readStatement_26, rX6_readStatement_27, rX6_readStatement_28, rX6_readStatement_31, rX6_readStatement_32, rX6_readStatement_33, rX6_readStatement_36, rX6_readStatement_37, rX6_readStatement_38, rX6_readStatement_39, rX6_readStatement_40, rX6_readStatement_43, rX6_readStatement_46, rX6_readStatement_47, rX6_readStatement_48, rX6_readStatement_49, rX6_readStatement_52, rX6_readStatement_55, rX6_readStatement_58, rX6_readStatement_59, rX6_readStatement_60, rX6_readStatement_63, rX6_readStatement_66, rX6_readStatement_67, e_ald0, e_ald1, e_ast1, e_bin, e_callS1, e_callT1, e_callT2, e_callV2, e_dupi, e_dupr, e_get, e_goto, e_icmp, e_if, e_ild2, e_inc2, e_ist2, e_nl0, e_nl1, e_nl2, e_push, e_pushn, e_pushs, e_put, e_retz, m_b0, m_b01, m_b1, m_em, Classical.not_not, Nat.reduceBEq, Nat.reduceLT, Nat.reduceLeDiff, Nat.reduceAdd, cond_true, cond_false, Bool.or_false, Bool.false_or, Bool.or_true, Bool.true_or, beq_iff_eq, true_and, and_true, true_or, or_true, forall_const, not_true_eq_false, not_false_eq_true, false_implies, implies_true, Nat.reduceEqDiff, List.length_nil, List.length_cons, ob_36, fv_36_0, fs_36_0, fv_36_1, fv_36_2, fv_36_3, fv_36_4, fs_36_4, fv_36_5, fs_36_5, Int.toNat_natCast]
      refine ⟨hX, ?_⟩
      refine pJ_length hX ?_
      simp only [e_go, rX6_readStatement_0, rX6_readStatement_1, rX6_readStatement_2, rX6_readStatement_5, rX6_readStatement_8, rX6_readStatement_11, rX6_readStatement_12, rX6_readStatement_13, rX6_readStatement_16, rX6_readStatement_19, rX6_readStatement_20, rX6_readStatement_21, rX6_readStatement_22, rX6_readStatement_23, rX6_readStatement_26, rX6_readStatement_27, rX6_readStatement_28, rX6_readStatement_31, rX6_readStatement_32, rX6_readStatement_33, rX6_readStatement_36, rX6_readStatement_37, rX6_readStatement_38, rX6_readStatement_39, rX6_readStatement_40, rX6_readStatement_43, rX6_readStatement_46, rX6_readStatement_47, rX6_readStatement_48, rX6_readStatement_49, rX6_readStatement_52, rX6_readStatement_55, rX6_readStatement_58, rX6_readStatement_59, rX6_readStatement_60, rX6_readStatement_63, rX6_readStatement_66, rX6_readStatement_67, e_ald0, e_ald1, e_ast1, e_bin, e_callS1, e_callT1, e_callT2, e_callV2, e_dupi, e_dupr, e_get, e_goto, e_icmp, e_if, e_ild2, e_inc2, e_ist2, e_nl0, e_nl1, e_nl2, e_push, e_pushn, e_pushs, e_put, e_retz, m_b0, m_b01, m_b1, m_em, Classical.not_not, Nat.reduceBEq, Nat.reduceLT, Nat.reduceLeDiff, Nat.reduceAdd, cond_true, cond_false, Bool.or_false, Bool.false_or, Bool.or_true, Bool.true_or, beq_iff_eq, true_and, and_true, true_or, or_true, forall_const, not_true_eq_false, not_false_eq_true, false_implies, implies_true, Nat.reduceEqDiff, List.length_nil, List.length_cons, ob_36, fv_36_0, fs_36_0, fv_36_1, fv_36_2, fv_36_3, fv_36_4, fs_36_4, fv_36_5, fs_36_5, Int.toNat_natCast]
      refine ⟨fun z => absurd z (by omega), fun _ => ⟨hX, ?_⟩⟩
      refine pJ_charAt hX (by omega) ?_
      rw [hget]
      simp only [e_go, rX6_readStatement_0, rX6_readStatement_1, rX6_readStatement_2, rX6_readStatement_5, rX6_readStatement_8, rX6_readStatement_11, rX6_readStatement_12, rX6_readStatement_13, rX6_readStatement_16, rX6_readStatement_19, rX6_readStatement_20, rX6_readStatement_21, rX6_readStatement_22, rX6_readStatement_23, rX6_readStatement_26, rX6_readStatement_27, rX6_readStatement_28, rX6_readStatement_31, rX6_readStatement_32, rX6_readStatement_33, rX6_readStatement_36, rX6_readStatement_37, rX6_readStatement_38, rX6_readStatement_39, rX6_readStatement_40, rX6_readStatement_43, rX6_readStatement_46, rX6_readStatement_47, rX6_readStatement_48, rX6_readStatement_49, rX6_readStatement_52, rX6_readStatement_55, rX6_readStatement_58, rX6_readStatement_59, rX6_readStatement_60, rX6_readStatement_63, rX6_readStatement_66, rX6_readStatement_67, e_ald0, e_ald1, e_ast1, e_bin, e_callS1, e_callT1, e_callT2, e_callV2, e_dupi, e_dupr, e_get, e_goto, e_icmp, e_if, e_ild2, e_inc2, e_ist2, e_nl0, e_nl1, e_nl2, e_push, e_pushn, e_pushs, e_put, e_retz, m_b0, m_b01, m_b1, m_em, Classical.not_not, Nat.reduceBEq, Nat.reduceLT, Nat.reduceLeDiff, Nat.reduceAdd, cond_true, cond_false, Bool.or_false, Bool.false_or, Bool.or_true, Bool.true_or, beq_iff_eq, true_and, and_true, true_or, or_true, forall_const, not_true_eq_false, not_false_eq_true, false_implies, implies_true, Nat.reduceEqDiff, List.length_nil, List.length_cons, ob_36, fv_36_0, fs_36_0, fv_36_1, fv_36_2, fv_36_3, fv_36_4, fs_36_4, fv_36_5, fs_36_5, Int.toNat_natCast]
      have hxc : x = 100 ∨ x = 110 ∨ (x ≠ 100 ∧ x ≠ 110 ∧ 0 ≤ x) := by omega
      have hb5 : pre.length < 6 := by
        have : (ps_tx X).length < 6 := by unfold ps_tx; split; decide; split; decide; split; decide; decide
        omega
      refine p6_readPart (vs := vs) (xs := xs) (hT.keep hF) hxc h4 hp1 h5 ?_ hv (fun e => ?_) (fun g2 vs' p2 d1 d2 d3 d4 d5 d6 d7 => ?_)
      · by_cases y : x = 100 ∨ x = 110
        · left
          have : (x == 100 || x == 110) = true := by simp; exact y
          rw [List.filter_cons, if_pos this] at hcnt
          simp at hcnt
          omega
        · right; omega
      · rw [e] at he
        have hh := h g1 hF (by rw [he]; exact h4) (fun z => by rw [he] at z; cases z)
        rw [he] at hh
        simp only [e_go, rX6_readStatement_0, rX6_readStatement_1, rX6_readStatement_2, rX6_readStatement_5, rX6_readStatement_8, rX6_readStatement_11, rX6_readStatement_12, rX6_readStatement_13, rX6_readStatement_16, rX6_readStatement_19, rX6_readStatement_20, rX6_readStatement_21, rX6_readStatement_22, rX6_readStatement_23, rX6_readStatement_26, rX6_readStatement_27, rX6_readStatement_28, rX6_readStatement_31, rX6_readStatement_32, rX6_readStatement_33, rX6_readStatement_36, rX6_readStatement_37, rX6_readStatement_38, rX6_readStatement_39, rX6_readStatement_40, rX6_readStatement_43, rX6_readStatement_46, rX6_readStatement_47, rX6_readStatement_48, rX6_readStatement_49, rX6_readStatement_52, rX6_readStatement_55, rX6_readStatement_58, rX6_readStatement_59, rX6_readStatement_60, rX6_readStatement_63, rX6_readStatement_66, rX6_readStatement_67, e_ald0, e_ald1, e_ast1, e_bin, e_callS1, e_callT1, e_callT2, e_callV2, e_dupi, e_dupr, e_get, e_goto, e_icmp, e_if, e_ild2, e_inc2, e_ist2, e_nl0, e_nl1, e_nl2, e_push, e_pushn, e_pushs, e_put, e_retz, m_b0, m_b01, m_b1, m_em, Classical.not_not, Nat.reduceBEq, Nat.reduceLT, Nat.reduceLeDiff, Nat.reduceAdd, cond_true, cond_false, Bool.or_false, Bool.false_or, Bool.or_true, Bool.true_or, beq_iff_eq, true_and, and_true, true_or, or_true, forall_const, not_true_eq_false, not_false_eq_true, false_implies, implies_true, Nat.reduceEqDiff, List.length_nil, List.length_cons, ob_36, fv_36_0, fs_36_0, fv_36_1, fv_36_2, fv_36_3, fv_36_4, fs_36_4, fv_36_5, fs_36_5, Int.toNat_natCast]
        exact hh
      · simp only [e_go, rX6_readStatement_0, rX6_readStatement_1, rX6_readStatement_2, rX6_readStatement_5, rX6_readStatement_8, rX6_readStatement_11, rX6_readStatement_12, rX6_readStatement_13, rX6_readStatement_16, rX6_readStatement_19, rX6_readStatement_20, rX6_readStatement_21, rX6_readStatement_22, rX6_readStatement_23, rX6_readStatement_26, rX6_readStatement_27, rX6_readStatement_28, rX6_readStatement_31, rX6_readStatement_32, rX6_readStatement_33, rX6_readStatement_36, rX6_readStatement_37, rX6_readStatement_38, rX6_readStatement_39, rX6_readStatement_40, rX6_readStatement_43, rX6_readStatement_46, rX6_readStatement_47, rX6_readStatement_48, rX6_readStatement_49, rX6_readStatement_52, rX6_readStatement_55, rX6_readStatement_58, rX6_readStatement_59, rX6_readStatement_60, rX6_readStatement_63, rX6_readStatement_66, rX6_readStatement_67, e_ald0, e_ald1, e_ast1, e_bin, e_callS1, e_callT1, e_callT2, e_callV2, e_dupi, e_dupr, e_get, e_goto, e_icmp, e_if, e_ild2, e_inc2, e_ist2, e_nl0, e_nl1, e_nl2, e_push, e_pushn, e_pushs, e_put, e_retz, m_b0, m_b01, m_b1, m_em, Classical.not_not, Nat.reduceBEq, Nat.reduceLT, Nat.reduceLeDiff, Nat.reduceAdd, cond_true, cond_false, Bool.or_false, Bool.false_or, Bool.or_true, Bool.true_or, beq_iff_eq, true_and, and_true, true_or, or_true, forall_const, not_true_eq_false, not_false_eq_true, false_implies, implies_true, Nat.reduceEqDiff, List.length_nil, List.length_cons, ob_36, fv_36_0, fs_36_0, fv_36_1, fv_36_2, fv_36_3, fv_36_4, fs_36_4, fv_36_5, fs_36_5, Int.toNat_natCast]
        rw [m_w2 (x := (pre.length : Int) + 1) (by omega) (by omega)]
        have nx := ih (pre ++ [x]) vs' p2 g2 hX (by rw [hpre]; simp) ?_ (he.trans d1) d2 (hF.trans d3) d4 d5 d7
        · rw [show (pre ++ [x]).length = pre.length + 1 by simp] at nx
          exact ⟨fun _ => nx, fun z => absurd z (by decide)⟩
        · by_cases y : x = 100 ∨ x = 110
          · have : (x == 100 || x == 110) = true := by simp; exact y
            rw [List.filter_cons, if_pos this] at hcnt
            simp at hcnt
            rw [if_pos y] at d6
            simp
            omega
          · have : ¬ (x == 100 || x == 110) = true := by simp; omega
            rw [List.filter_cons, if_neg this] at hcnt
            rw [if_neg y] at d6
            rw [d6]; exact hcnt
  refine m_run_ok hJ (fun pc => pc == 38) 60 _ _ _ _ ?_
  simp only [e_go, rX6_readStatement_0, rX6_readStatement_1, rX6_readStatement_2, rX6_readStatement_5, rX6_readStatement_8, rX6_readStatement_11, rX6_readStatement_12, rX6_readStatement_13, rX6_readStatement_16, rX6_readStatement_19, rX6_readStatement_20, rX6_readStatement_21, rX6_readStatement_22, rX6_readStatement_23, rX6_readStatement_26, rX6_readStatement_27, rX6_readStatement_28, rX6_readStatement_31, rX6_readStatement_32, rX6_readStatement_33, rX6_readStatement_36, rX6_readStatement_37, rX6_readStatement_38, rX6_readStatement_39, rX6_readStatement_40, rX6_readStatement_43, rX6_readStatement_46, rX6_readStatement_47, rX6_readStatement_48, rX6_readStatement_49, rX6_readStatement_52, rX6_readStatement_55, rX6_readStatement_58, rX6_readStatement_59, rX6_readStatement_60, rX6_readStatement_63, rX6_readStatement_66, rX6_readStatement_67, e_ald0, e_ald1, e_ast1, e_bin, e_callS1, e_callT1, e_callT2, e_callV2, e_dupi, e_dupr, e_get, e_goto, e_icmp, e_if, e_ild2, e_inc2, e_ist2, e_nl0, e_nl1, e_nl2, e_push, e_pushn, e_pushs, e_put, e_retz, m_b0, m_b01, m_b1, m_em, Classical.not_not, Nat.reduceBEq, Nat.reduceLT, Nat.reduceLeDiff, Nat.reduceAdd, cond_true, cond_false, Bool.or_false, Bool.false_or, Bool.or_true, Bool.true_or, beq_iff_eq, true_and, and_true, true_or, or_true, forall_const, not_true_eq_false, not_false_eq_true, false_implies, implies_true, Nat.reduceEqDiff, List.length_nil, List.length_cons, ob_36, fv_36_0, fs_36_0, fv_36_1, fv_36_2, fv_36_3, fv_36_4, fs_36_4, fv_36_5, fs_36_5, Int.toNat_natCast]
  rw [hp]
  refine p6_at hT ?_
  simp only [e_go, rX6_readStatement_0, rX6_readStatement_1, rX6_readStatement_2, rX6_readStatement_5, rX6_readStatement_8, rX6_readStatement_11, rX6_readStatement_12, rX6_readStatement_13, rX6_readStatement_16, rX6_readStatement_19, rX6_readStatement_20, rX6_readStatement_21, rX6_readStatement_22, rX6_readStatement_23, rX6_readStatement_26, rX6_readStatement_27, rX6_readStatement_28, rX6_readStatement_31, rX6_readStatement_32, rX6_readStatement_33, rX6_readStatement_36, rX6_readStatement_37, rX6_readStatement_38, rX6_readStatement_39, rX6_readStatement_40, rX6_readStatement_43, rX6_readStatement_46, rX6_readStatement_47, rX6_readStatement_48, rX6_readStatement_49, rX6_readStatement_52, rX6_readStatement_55, rX6_readStatement_58, rX6_readStatement_59, rX6_readStatement_60, rX6_readStatement_63, rX6_readStatement_66, rX6_readStatement_67, e_ald0, e_ald1, e_ast1, e_bin, e_callS1, e_callT1, e_callT2, e_callV2, e_dupi, e_dupr, e_get, e_goto, e_icmp, e_if, e_ild2, e_inc2, e_ist2, e_nl0, e_nl1, e_nl2, e_push, e_pushn, e_pushs, e_put, e_retz, m_b0, m_b01, m_b1, m_em, Classical.not_not, Nat.reduceBEq, Nat.reduceLT, Nat.reduceLeDiff, Nat.reduceAdd, cond_true, cond_false, Bool.or_false, Bool.false_or, Bool.or_true, Bool.true_or, beq_iff_eq, true_and, and_true, true_or, or_true, forall_const, not_true_eq_false, not_false_eq_true, false_implies, implies_true, Nat.reduceEqDiff, List.length_nil, List.length_cons, ob_36, fv_36_0, fs_36_0, fv_36_1, fv_36_2, fv_36_3, fv_36_4, fs_36_4, fv_36_5, fs_36_5, Int.toNat_natCast]
  refine p6_formOf (fun X hX hf => ?_)
  simp only [e_go, rX6_readStatement_0, rX6_readStatement_1, rX6_readStatement_2, rX6_readStatement_5, rX6_readStatement_8, rX6_readStatement_11, rX6_readStatement_12, rX6_readStatement_13, rX6_readStatement_16, rX6_readStatement_19, rX6_readStatement_20, rX6_readStatement_21, rX6_readStatement_22, rX6_readStatement_23, rX6_readStatement_26, rX6_readStatement_27, rX6_readStatement_28, rX6_readStatement_31, rX6_readStatement_32, rX6_readStatement_33, rX6_readStatement_36, rX6_readStatement_37, rX6_readStatement_38, rX6_readStatement_39, rX6_readStatement_40, rX6_readStatement_43, rX6_readStatement_46, rX6_readStatement_47, rX6_readStatement_48, rX6_readStatement_49, rX6_readStatement_52, rX6_readStatement_55, rX6_readStatement_58, rX6_readStatement_59, rX6_readStatement_60, rX6_readStatement_63, rX6_readStatement_66, rX6_readStatement_67, e_ald0, e_ald1, e_ast1, e_bin, e_callS1, e_callT1, e_callT2, e_callV2, e_dupi, e_dupr, e_get, e_goto, e_icmp, e_if, e_ild2, e_inc2, e_ist2, e_nl0, e_nl1, e_nl2, e_push, e_pushn, e_pushs, e_put, e_retz, m_b0, m_b01, m_b1, m_em, Classical.not_not, Nat.reduceBEq, Nat.reduceLT, Nat.reduceLeDiff, Nat.reduceAdd, cond_true, cond_false, Bool.or_false, Bool.false_or, Bool.or_true, Bool.true_or, beq_iff_eq, true_and, and_true, true_or, or_true, forall_const, not_true_eq_false, not_false_eq_true, false_implies, implies_true, Nat.reduceEqDiff, List.length_nil, List.length_cons, ob_36, fv_36_0, fs_36_0, fv_36_1, fv_36_2, fv_36_3, fv_36_4, fs_36_4, fv_36_5, fs_36_5, Int.toNat_natCast]
  refine ⟨hX, ?_⟩
  refine pJ_isEmpty hX ?_
  simp only [e_go, rX6_readStatement_0, rX6_readStatement_1, rX6_readStatement_2, rX6_readStatement_5, rX6_readStatement_8, rX6_readStatement_11, rX6_readStatement_12, rX6_readStatement_13, rX6_readStatement_16, rX6_readStatement_19, rX6_readStatement_20, rX6_readStatement_21, rX6_readStatement_22, rX6_readStatement_23, rX6_readStatement_26, rX6_readStatement_27, rX6_readStatement_28, rX6_readStatement_31, rX6_readStatement_32, rX6_readStatement_33, rX6_readStatement_36, rX6_readStatement_37, rX6_readStatement_38, rX6_readStatement_39, rX6_readStatement_40, rX6_readStatement_43, rX6_readStatement_46, rX6_readStatement_47, rX6_readStatement_48, rX6_readStatement_49, rX6_readStatement_52, rX6_readStatement_55, rX6_readStatement_58, rX6_readStatement_59, rX6_readStatement_60, rX6_readStatement_63, rX6_readStatement_66, rX6_readStatement_67, e_ald0, e_ald1, e_ast1, e_bin, e_callS1, e_callT1, e_callT2, e_callV2, e_dupi, e_dupr, e_get, e_goto, e_icmp, e_if, e_ild2, e_inc2, e_ist2, e_nl0, e_nl1, e_nl2, e_push, e_pushn, e_pushs, e_put, e_retz, m_b0, m_b01, m_b1, m_em, Classical.not_not, Nat.reduceBEq, Nat.reduceLT, Nat.reduceLeDiff, Nat.reduceAdd, cond_true, cond_false, Bool.or_false, Bool.false_or, Bool.or_true, Bool.true_or, beq_iff_eq, true_and, and_true, true_or, or_true, forall_const, not_true_eq_false, not_false_eq_true, false_implies, implies_true, Nat.reduceEqDiff, List.length_nil, List.length_cons, ob_36, fv_36_0, fs_36_0, fv_36_1, fv_36_2, fv_36_3, fv_36_4, fs_36_4, fv_36_5, fs_36_5, Int.toNat_natCast]
  rw [hp, m_w2 (x := (p : Int) + 1) (by omega) (by omega), show (p : Int) + 1 = ((p + 1 : Nat) : Int) by omega]
  have cnt : ((ps_tx X).filter (fun x => x == 100 || x == 110)).length ≤ 3 := by unfold ps_tx; split; decide; split; decide; split; decide; decide
  have ne : ¬ ps_tx X = [] → J 38 [some (.inr (.inr 36)), some (.inr (.inr X)), some (.inl 0)] [] (m_up (m_up g 36 4 ((p + 1 : Nat) : Int)) 36 5 0) := by
    intro hne
    rw [hf] at hne
    have hlt := ps_form_ne hne
    have est : ps_st T n p = ps_f T n (ps_tx X) [] (p + 1) := by rw [hf]; unfold ps_st; rw [if_neg hne]
    exact loop X (ps_tx X) [] [] (p + 1) _ hX rfl (by simpa using cnt) est (by omega) ⟨fun j a1 _ => by rw [m_up_ne a1, m_up_ne a1], fun k k4 k5 => by rw [m_up_eq, m_un k5, m_up_eq, m_un k4]⟩ (by rw [m_up_eq, m_un (by decide), m_up_eq, m_us]) (by rw [m_up_eq, m_us]; rfl) (fun i hi => absurd hi (by simp))
  have em : ps_tx X = [] → q (some (.inl 0)) g := by
    intro he
    have hs0 := ps_st_0 (T := T) (n := n) (p := p) (by rw [← hf]; exact he)
    have hh := h g p6_F.rfl' (by rw [hs0]; exact hp) (fun z => by rw [hs0] at z; cases z)
    rw [hs0] at hh
    exact hh
  first
    | exact ⟨ne, em⟩
    | exact ⟨em, ne⟩
theorem p6_isWellFormed {g : m_G} {T : Nat → Int} {n : Nat} {q : m_Post} (hT : p6_T g T n)
    (h : ∀ g', p6_F g g' → ((ps_w T n 64 0 0).1 = false → g' 36 4 = ((ps_w T n 64 0 0).2 : Int)) → q (some (.inl (if (ps_w T n 64 0 0).1 = true then 1 else 0))) g') : wX6_isWellFormed.1 [.inr (.inr 36)] g q := by
  have hn := hT.2.1
  obtain ⟨W, hWd⟩ : ∃ W, W = ps_w T n 64 0 0 := ⟨_, rfl⟩
  rw [← hWd] at h
  refine m_wp_of (by simp [m_fit]) (fun J hJ => ?_)
  simp only [m_ini, Nat.reduceSub, List.replicate]
  have loop : ∀ (f p k : Nat) (g1 : m_G), p ≤ n → 64 ≤ p + f → k + f = 64 → (p < n ∨ f = 64) → ps_w T n f p k = W → p6_F g g1 → g1 36 4 = (p : Int) → J 7 [some (.inr (.inr 36)), some (.inl k)] [] g1 := by
    intro f
    induction f with
    | zero => intro p k g1 hp hf hkf hor _ _ _; omega
    | succ f ih =>
      intro p k g1 hp hf hkf hor he hF h4
      have hpp := ps_st_p (T := T) (n := n) (p := p) hp
      simp only [ps_w] at he
      refine m_run_ok hJ (fun pc => pc == 7) 60 _ _ _ _ ?_
      simp only [e_go, rX6_isWellFormed_0, rX6_isWellFormed_1, rX6_isWellFormed_2, rX6_isWellFormed_5, rX6_isWellFormed_6, rX6_isWellFormed_7, rX6_isWellFormed_8, rX6_isWellFormed_10, rX6_isWellFormed_13, rX6_isWellFormed_14, rX6_isWellFormed_17, rX6_isWellFormed_20, rX6_isWellFormed_21, rX6_isWellFormed_22, rX6_isWellFormed_23, rX6_isWellFormed_26, rX6_isWellFormed_27, rX6_isWellFormed_30, rX6_isWellFormed_33, rX6_isWellFormed_34, rX6_isWellFormed_35, rX6_isWellFormed_38, rX6_isWellFormed_41, rX6_isWellFormed_42, e_ald0, e_callV1, e_get, e_goto, e_icmp, e_if, e_ild1, e_inc1, e_ist1, e_nl0, e_nl1, e_nl2, e_push, e_pushn, e_pushs, e_put, e_retz, m_b0, m_b01, m_b1, m_em, Classical.not_not, Nat.reduceBEq, Nat.reduceLT, Nat.reduceLeDiff, Nat.reduceAdd, cond_true, cond_false, Bool.or_false, Bool.false_or, Bool.or_true, Bool.true_or, beq_iff_eq, true_and, and_true, true_or, or_true, forall_const, not_true_eq_false, not_false_eq_true, false_implies, implies_true, Nat.reduceEqDiff, List.length_nil, List.length_cons, ob_36, fv_36_0, fs_36_0, fv_36_1, fv_36_2, fv_36_3, fv_36_4, fs_36_4, fv_36_5, fs_36_5, Int.toNat_natCast]
      refine ⟨fun z => absurd z (by omega), fun _ => ?_⟩
      refine p6_readStatement (hT.keep hF) h4 hp (fun g2 d1 d2 d3 => ?_)
      cases hok : (ps_st T n p).1 with
      | false =>
        rw [hok, if_neg (by decide)] at he
        have hh := h g2 (hF.trans d1) (fun _ => by rw [← he]; exact d2)
        rw [← he] at hh
        simp only [e_go, rX6_isWellFormed_0, rX6_isWellFormed_1, rX6_isWellFormed_2, rX6_isWellFormed_5, rX6_isWellFormed_6, rX6_isWellFormed_7, rX6_isWellFormed_8, rX6_isWellFormed_10, rX6_isWellFormed_13, rX6_isWellFormed_14, rX6_isWellFormed_17, rX6_isWellFormed_20, rX6_isWellFormed_21, rX6_isWellFormed_22, rX6_isWellFormed_23, rX6_isWellFormed_26, rX6_isWellFormed_27, rX6_isWellFormed_30, rX6_isWellFormed_33, rX6_isWellFormed_34, rX6_isWellFormed_35, rX6_isWellFormed_38, rX6_isWellFormed_41, rX6_isWellFormed_42, e_ald0, e_callV1, e_get, e_goto, e_icmp, e_if, e_ild1, e_inc1, e_ist1, e_nl0, e_nl1, e_nl2, e_push, e_pushn, e_pushs, e_put, e_retz, m_b0, m_b01, m_b1, m_em, Classical.not_not, Nat.reduceBEq, Nat.reduceLT, Nat.reduceLeDiff, Nat.reduceAdd, cond_true, cond_false, Bool.or_false, Bool.false_or, Bool.or_true, Bool.true_or, beq_iff_eq, true_and, and_true, true_or, or_true, forall_const, not_true_eq_false, not_false_eq_true, false_implies, implies_true, Nat.reduceEqDiff, List.length_nil, List.length_cons, ob_36, fv_36_0, fs_36_0, fv_36_1, fv_36_2, fv_36_3, fv_36_4, fs_36_4, fv_36_5, fs_36_5, Int.toNat_natCast]
        exact ⟨fun z => absurd z (by decide), fun _ => hh⟩
      | true =>
        rw [if_pos hok] at he
        have hp2 := hpp.2.2 hok
        have hTn := (hT.keep (hF.trans d1)).1
        simp only [e_go, rX6_isWellFormed_0, rX6_isWellFormed_1, rX6_isWellFormed_2, rX6_isWellFormed_5, rX6_isWellFormed_6, rX6_isWellFormed_7, rX6_isWellFormed_8, rX6_isWellFormed_10, rX6_isWellFormed_13, rX6_isWellFormed_14, rX6_isWellFormed_17, rX6_isWellFormed_20, rX6_isWellFormed_21, rX6_isWellFormed_22, rX6_isWellFormed_23, rX6_isWellFormed_26, rX6_isWellFormed_27, rX6_isWellFormed_30, rX6_isWellFormed_33, rX6_isWellFormed_34, rX6_isWellFormed_35, rX6_isWellFormed_38, rX6_isWellFormed_41, rX6_isWellFormed_42, e_ald0, e_callV1, e_get, e_goto, e_icmp, e_if, e_ild1, e_inc1, e_ist1, e_nl0, e_nl1, e_nl2, e_push, e_pushn, e_pushs, e_put, e_retz, m_b0, m_b01, m_b1, m_em, Classical.not_not, Nat.reduceBEq, Nat.reduceLT, Nat.reduceLeDiff, Nat.reduceAdd, cond_true, cond_false, Bool.or_false, Bool.false_or, Bool.or_true, Bool.true_or, beq_iff_eq, true_and, and_true, true_or, or_true, forall_const, not_true_eq_false, not_false_eq_true, false_implies, implies_true, Nat.reduceEqDiff, List.length_nil, List.length_cons, ob_36, fv_36_0, fs_36_0, fv_36_1, fv_36_2, fv_36_3, fv_36_4, fs_36_4, fv_36_5, fs_36_5, Int.toNat_natCast]
        rw [d2, hTn, m_w2 (x := (k : Int) + 1) (by omega) (by omega), show (k : Int) + 1 = ((k + 1 : Nat) : Int) by omega]
        have a1 : ((ps_st T n p).2.1 : Int) < (n : Int) → J 7 [some (.inr (.inr 36)), some (.inl (k + 1 : Nat))] [] g2 := fun c => by
          rw [if_neg (by omega)] at he
          exact ih (ps_st T n p).2.1 (k + 1) g2 hpp.2.1 (by omega) (by omega) (Or.inl (by omega)) he (hF.trans d1) d2
        have a2 : ¬ ((ps_st T n p).2.1 : Int) < (n : Int) → q (some (.inl 1)) g2 := fun c => by
          rw [if_pos (by omega)] at he
          have hh := h g2 (hF.trans d1) (fun z => by rw [← he] at z; cases z)
          rw [← he] at hh
          exact hh
        first
          | exact ⟨a1, a2⟩
          | exact ⟨fun _ => ⟨a1, a2⟩, fun z => absurd z (by decide)⟩
          | exact ⟨fun _ => ⟨a1, a2⟩, fun z => absurd rfl z⟩
  refine m_run_ok hJ (fun pc => pc == 7) 60 _ _ _ _ ?_
  simp only [e_go, rX6_isWellFormed_0, rX6_isWellFormed_1, rX6_isWellFormed_2, rX6_isWellFormed_5, rX6_isWellFormed_6, rX6_isWellFormed_7, rX6_isWellFormed_8, rX6_isWellFormed_10, rX6_isWellFormed_13, rX6_isWellFormed_14, rX6_isWellFormed_17, rX6_isWellFormed_20, rX6_isWellFormed_21, rX6_isWellFormed_22, rX6_isWellFormed_23, rX6_isWellFormed_26, rX6_isWellFormed_27, rX6_isWellFormed_30, rX6_isWellFormed_33, rX6_isWellFormed_34, rX6_isWellFormed_35, rX6_isWellFormed_38, rX6_isWellFormed_41, rX6_isWellFormed_42, e_ald0, e_callV1, e_get, e_goto, e_icmp, e_if, e_ild1, e_inc1, e_ist1, e_nl0, e_nl1, e_nl2, e_push, e_pushn, e_pushs, e_put, e_retz, m_b0, m_b01, m_b1, m_em, Classical.not_not, Nat.reduceBEq, Nat.reduceLT, Nat.reduceLeDiff, Nat.reduceAdd, cond_true, cond_false, Bool.or_false, Bool.false_or, Bool.or_true, Bool.true_or, beq_iff_eq, true_and, and_true, true_or, or_true, forall_const, not_true_eq_false, not_false_eq_true, false_implies, implies_true, Nat.reduceEqDiff, List.length_nil, List.length_cons, ob_36, fv_36_0, fs_36_0, fv_36_1, fv_36_2, fv_36_3, fv_36_4, fs_36_4, fv_36_5, fs_36_5, Int.toNat_natCast]
  exact loop 64 0 0 _ (by omega) (by omega) (by omega) (Or.inr rfl) hWd.symm ⟨fun j a1 _ => m_up_ne a1, fun k k4 k5 => by rw [m_up_eq, m_un k4]⟩ (by rw [m_up_eq, m_us]; rfl)
