set_option maxRecDepth 20000
set_option maxHeartbeats 2000000
/-! WEAVE, ORDER -/
noncomputable section
def wv (s : Nat → Int) (f : Nat → Nat) : Nat → Int
  | 0 => 0
  | i + 1 => wv s f i + d_bits (m_ixor (wd s (f i) 0) (wd s (f (i + 1)) 0))
/-- the weave of an order of n lanes -/
def wvo (s : Nat → Int) (f : Nat → Nat) (n : Nat) : Int := wv s f (n - 1)
/-- one more order looked at: the least weave, its order -/
def wo_1 (s : Nat → Int) (n : Nat) (p : List Nat) (st : Int × List Nat) : Int × List Nat :=
  if 0 ≤ st.1 ∧ st.1 ≤ wvo s (fun i => p.getD i 0) n then st else (wvo s (fun i => p.getD i 0) n, p)
end
/-- all orders that go on from p, by numbers -/
def wo_l (n : Nat) : Nat → List Nat → List (List Nat)
  | 0, p => [p]
  | k + 1, p => (List.range n).flatMap fun l => if l ∈ p then [] else wo_l n k (p ++ [l])
noncomputable def wo_all (s : Nat → Int) (n : Nat) : Int × List Nat := (wo_l n n []).foldl (fun st p => wo_1 s n p st) (-9, [])
theorem m_ixor31 : ∀ n : Nat, n < 32 → ∀ k : Nat, k < 32 → 0 ≤ m_ixor n k ∧ m_ixor n k ≤ 31 := by decide +kernel
theorem m_ixor_b {x y : Int} (h : 0 ≤ x ∧ x ≤ 31) (h2 : 0 ≤ y ∧ y ≤ 31) : 0 ≤ m_ixor x y ∧ m_ixor x y ≤ 31 := by
  have := m_ixor31 x.toNat (by omega) y.toNat (by omega)
  rwa [Int.toNat_of_nonneg h.1, Int.toNat_of_nonneg h2.1] at this
theorem d_bits_5 {x : Int} : 0 ≤ d_bits x ∧ d_bits x ≤ 5 := by unfold d_bits; omega
theorem wv_b {s : Nat → Int} {f : Nat → Nat} : ∀ i : Nat, 0 ≤ wv s f i ∧ wv s f i ≤ 5 * i
  | 0 => by simp [wv]
  | i + 1 => by
    have := wv_b (s := s) (f := f) i
    have := d_bits_5 (x := m_ixor (wd s (f i) 0) (wd s (f (i + 1)) 0))
    simp only [wv]; omega
theorem wv_same {s : Nat → Int} {f f' : Nat → Nat} : ∀ n : Nat, (∀ i, i ≤ n → f' i = f i) → wv s f' n = wv s f n
  | 0, _ => rfl
  | n + 1, h => by simp only [wv]; rw [wv_same n (fun i hi => h i (by omega)), h n (by omega), h (n + 1) (by omega)]
theorem p9_weaveOf {g : m_G} {s : Nat → Int} {f : Nat → Nat} {q : m_Post} (hs : g 68 = s) (hW : h_W s) (hf : ∀ i : Nat, (i : Int) < s 1 → g 87 i = (f i : Int) ∧ (f i : Int) < s 1) (h : q (some (.inl (wvo s f (s 1).toNat))) g) : wX9_weaveOf.1 [.inr (.inr 66)] g q := by
  have hz := hW.1
  refine m_wp_of (by simp [m_fit]) (fun J hJ => ?_)
  simp only [m_ini, Nat.reduceSub, List.replicate]
  have loop : ∀ (m i : Nat), (i = 0 ∨ i + 1 ≤ (s 1).toNat) → i + 1 + m = max 1 (s 1).toNat → J 4 [some (.inr (.inr 66)), some (.inl (wv s f i)), some (.inl (i + 1 : Nat))] [] g := by
    intro m
    induction m with
    | zero =>
      intro i h0 hi
      refine m_run_ok hJ (fun pc => pc == 4) 60 _ _ _ _ ?_
      simp only [e_go, rX9_weaveOf_0, rX9_weaveOf_1, rX9_weaveOf_2, rX9_weaveOf_3, rX9_weaveOf_4, rX9_weaveOf_5, rX9_weaveOf_6, rX9_weaveOf_9, rX9_weaveOf_10, rX9_weaveOf_11, rX9_weaveOf_14, rX9_weaveOf_15, rX9_weaveOf_16, rX9_weaveOf_17, rX9_weaveOf_20, rX9_weaveOf_21, rX9_weaveOf_22, rX9_weaveOf_23, rX9_weaveOf_24, rX9_weaveOf_25, rX9_weaveOf_28, rX9_weaveOf_29, rX9_weaveOf_30, rX9_weaveOf_33, rX9_weaveOf_34, rX9_weaveOf_35, rX9_weaveOf_36, rX9_weaveOf_39, rX9_weaveOf_40, rX9_weaveOf_43, rX9_weaveOf_44, rX9_weaveOf_45, rX9_weaveOf_48, rX9_weaveOf_51, rX9_weaveOf_52, e_ald0, e_bin, e_callS1, e_callV3, e_get, e_goto, e_iald, e_icmp, e_ild1, e_ild2, e_inc2, e_ist1, e_ist2, e_nl0, e_nl1, e_nl2, e_push, e_pushn, e_pushs, e_ret, m_b0, m_b01, m_b1, m_em, Classical.not_not, Nat.reduceBEq, Nat.reduceLT, Nat.reduceLeDiff, Nat.reduceAdd, cond_true, cond_false, Bool.or_false, Bool.false_or, Bool.or_true, Bool.true_or, beq_iff_eq, true_and, and_true, true_or, or_true, forall_const, not_true_eq_false, not_false_eq_true, false_implies, implies_true, Nat.reduceEqDiff, List.length_nil, List.length_cons, ob_66, fv_66_0, fv_66_1, fv_66_2, fv_66_3, fv_66_4, fv_66_5, fs_66_5, fv_66_6, fv_66_7, fv_66_8, fs_66_8, fv_66_9, fs_66_9, fv_66_10, fv_66_11, fv_66_12, fv_66_13, fv_66_14, fv_66_15, fv_66_16, fv_66_17, fv_66_18, fv_66_19, fv_66_20, fv_66_21, fv_66_22, fv_66_23, fs_66_23, fv_66_24, fs_66_24, fv_66_25, fs_66_25, fv_66_26, fs_66_26, fv_66_27, fs_66_27, fv_66_28, fs_66_28, fv_66_29, fv_66_30, fv_66_31, fs_66_31, fv_66_32, fv_66_33, fv_66_34, fs_66_34, kd_68, ln_68, kd_87, ln_87, Int.toNat_natCast, Int.toNat_one]
      rw [hs]
      refine ⟨by omega, fun _ => ?_, fun z => absurd z (by omega)⟩
      unfold wvo at h
      rw [show (s 1).toNat - 1 = i by omega] at h
      exact h
    | succ m ih =>
      intro i h0 hi
      have nx := ih (i + 1) (by omega) (by omega)
      have f0 := hf i (by omega)
      have f1 := hf (i + 1) (by omega)
      have hb := wv_b (s := s) (f := f) i
      have h5 := d_bits_5 (x := m_ixor (wd s (f i) 0) (wd s (f (i + 1)) 0))
      have w0 := wd_b hW (l := f i) f0.2 0 (by decide)
      have w1 := wd_b hW (l := f (i + 1)) f1.2 0 (by decide)
      simp only [wv] at nx
      refine m_run_ok hJ (fun pc => pc == 4) 60 _ _ _ _ ?_
      simp only [e_go, rX9_weaveOf_0, rX9_weaveOf_1, rX9_weaveOf_2, rX9_weaveOf_3, rX9_weaveOf_4, rX9_weaveOf_5, rX9_weaveOf_6, rX9_weaveOf_9, rX9_weaveOf_10, rX9_weaveOf_11, rX9_weaveOf_14, rX9_weaveOf_15, rX9_weaveOf_16, rX9_weaveOf_17, rX9_weaveOf_20, rX9_weaveOf_21, rX9_weaveOf_22, rX9_weaveOf_23, rX9_weaveOf_24, rX9_weaveOf_25, rX9_weaveOf_28, rX9_weaveOf_29, rX9_weaveOf_30, rX9_weaveOf_33, rX9_weaveOf_34, rX9_weaveOf_35, rX9_weaveOf_36, rX9_weaveOf_39, rX9_weaveOf_40, rX9_weaveOf_43, rX9_weaveOf_44, rX9_weaveOf_45, rX9_weaveOf_48, rX9_weaveOf_51, rX9_weaveOf_52, e_ald0, e_bin, e_callS1, e_callV3, e_get, e_goto, e_iald, e_icmp, e_ild1, e_ild2, e_inc2, e_ist1, e_ist2, e_nl0, e_nl1, e_nl2, e_push, e_pushn, e_pushs, e_ret, m_b0, m_b01, m_b1, m_em, Classical.not_not, Nat.reduceBEq, Nat.reduceLT, Nat.reduceLeDiff, Nat.reduceAdd, cond_true, cond_false, Bool.or_false, Bool.false_or, Bool.or_true, Bool.true_or, beq_iff_eq, true_and, and_true, true_or, or_true, forall_const, not_true_eq_false, not_false_eq_true, false_implies, implies_true, Nat.reduceEqDiff, List.length_nil, List.length_cons, ob_66, fv_66_0, fv_66_1, fv_66_2, fv_66_3, fv_66_4, fv_66_5, fs_66_5, fv_66_6, fv_66_7, fv_66_8, fs_66_8, fv_66_9, fs_66_9, fv_66_10, fv_66_11, fv_66_12, fv_66_13, fv_66_14, fv_66_15, fv_66_16, fv_66_17, fv_66_18, fv_66_19, fv_66_20, fv_66_21, fv_66_22, fv_66_23, fs_66_23, fv_66_24, fs_66_24, fv_66_25, fs_66_25, fv_66_26, fs_66_26, fv_66_27, fs_66_27, fv_66_28, fs_66_28, fv_66_29, fv_66_30, fv_66_31, fs_66_31, fv_66_32, fv_66_33, fv_66_34, fs_66_34, kd_68, ln_68, kd_87, ln_87, Int.toNat_natCast, Int.toNat_one]
      rw [hs, m_w2 (x := ((i + 1 : Nat) : Int) - 1) (by omega) (by omega), show ((i + 1 : Nat) : Int) - 1 = (i : Int) by omega, Int.toNat_natCast, f0.1]
      refine ⟨by omega, fun z => absurd z (by omega), fun _ => ⟨by omega, ?_⟩⟩
      refine p9_wordOf (k := 0) (by omega) (by decide) ?_
      simp only [e_go, rX9_weaveOf_0, rX9_weaveOf_1, rX9_weaveOf_2, rX9_weaveOf_3, rX9_weaveOf_4, rX9_weaveOf_5, rX9_weaveOf_6, rX9_weaveOf_9, rX9_weaveOf_10, rX9_weaveOf_11, rX9_weaveOf_14, rX9_weaveOf_15, rX9_weaveOf_16, rX9_weaveOf_17, rX9_weaveOf_20, rX9_weaveOf_21, rX9_weaveOf_22, rX9_weaveOf_23, rX9_weaveOf_24, rX9_weaveOf_25, rX9_weaveOf_28, rX9_weaveOf_29, rX9_weaveOf_30, rX9_weaveOf_33, rX9_weaveOf_34, rX9_weaveOf_35, rX9_weaveOf_36, rX9_weaveOf_39, rX9_weaveOf_40, rX9_weaveOf_43, rX9_weaveOf_44, rX9_weaveOf_45, rX9_weaveOf_48, rX9_weaveOf_51, rX9_weaveOf_52, e_ald0, e_bin, e_callS1, e_callV3, e_get, e_goto, e_iald, e_icmp, e_ild1, e_ild2, e_inc2, e_ist1, e_ist2, e_nl0, e_nl1, e_nl2, e_push, e_pushn, e_pushs, e_ret, m_b0, m_b01, m_b1, m_em, Classical.not_not, Nat.reduceBEq, Nat.reduceLT, Nat.reduceLeDiff, Nat.reduceAdd, cond_true, cond_false, Bool.or_false, Bool.false_or, Bool.or_true, Bool.true_or, beq_iff_eq, true_and, and_true, true_or, or_true, forall_const, not_true_eq_false, not_false_eq_true, false_implies, implies_true, Nat.reduceEqDiff, List.length_nil, List.length_cons, ob_66, fv_66_0, fv_66_1, fv_66_2, fv_66_3, fv_66_4, fv_66_5, fs_66_5, fv_66_6, fv_66_7, fv_66_8, fs_66_8, fv_66_9, fs_66_9, fv_66_10, fv_66_11, fv_66_12, fv_66_13, fv_66_14, fv_66_15, fv_66_16, fv_66_17, fv_66_18, fv_66_19, fv_66_20, fv_66_21, fv_66_22, fv_66_23, fs_66_23, fv_66_24, fs_66_24, fv_66_25, fs_66_25, fv_66_26, fs_66_26, fv_66_27, fs_66_27, fv_66_28, fs_66_28, fv_66_29, fv_66_30, fv_66_31, fs_66_31, fv_66_32, fv_66_33, fv_66_34, fs_66_34, kd_68, ln_68, kd_87, ln_87, Int.toNat_natCast, Int.toNat_one]
      rw [f1.1]
      refine ⟨by omega, ?_⟩
      refine p9_wordOf (k := 0) (by omega) (by decide) ?_
      simp only [e_go, rX9_weaveOf_0, rX9_weaveOf_1, rX9_weaveOf_2, rX9_weaveOf_3, rX9_weaveOf_4, rX9_weaveOf_5, rX9_weaveOf_6, rX9_weaveOf_9, rX9_weaveOf_10, rX9_weaveOf_11, rX9_weaveOf_14, rX9_weaveOf_15, rX9_weaveOf_16, rX9_weaveOf_17, rX9_weaveOf_20, rX9_weaveOf_21, rX9_weaveOf_22, rX9_weaveOf_23, rX9_weaveOf_24, rX9_weaveOf_25, rX9_weaveOf_28, rX9_weaveOf_29, rX9_weaveOf_30, rX9_weaveOf_33, rX9_weaveOf_34, rX9_weaveOf_35, rX9_weaveOf_36, rX9_weaveOf_39, rX9_weaveOf_40, rX9_weaveOf_43, rX9_weaveOf_44, rX9_weaveOf_45, rX9_weaveOf_48, rX9_weaveOf_51, rX9_weaveOf_52, e_ald0, e_bin, e_callS1, e_callV3, e_get, e_goto, e_iald, e_icmp, e_ild1, e_ild2, e_inc2, e_ist1, e_ist2, e_nl0, e_nl1, e_nl2, e_push, e_pushn, e_pushs, e_ret, m_b0, m_b01, m_b1, m_em, Classical.not_not, Nat.reduceBEq, Nat.reduceLT, Nat.reduceLeDiff, Nat.reduceAdd, cond_true, cond_false, Bool.or_false, Bool.false_or, Bool.or_true, Bool.true_or, beq_iff_eq, true_and, and_true, true_or, or_true, forall_const, not_true_eq_false, not_false_eq_true, false_implies, implies_true, Nat.reduceEqDiff, List.length_nil, List.length_cons, ob_66, fv_66_0, fv_66_1, fv_66_2, fv_66_3, fv_66_4, fv_66_5, fs_66_5, fv_66_6, fv_66_7, fv_66_8, fs_66_8, fv_66_9, fs_66_9, fv_66_10, fv_66_11, fv_66_12, fv_66_13, fv_66_14, fv_66_15, fv_66_16, fv_66_17, fv_66_18, fv_66_19, fv_66_20, fv_66_21, fv_66_22, fv_66_23, fs_66_23, fv_66_24, fs_66_24, fv_66_25, fs_66_25, fv_66_26, fs_66_26, fv_66_27, fs_66_27, fv_66_28, fs_66_28, fv_66_29, fv_66_30, fv_66_31, fs_66_31, fv_66_32, fv_66_33, fv_66_34, fs_66_34, kd_68, ln_68, kd_87, ln_87, Int.toNat_natCast, Int.toNat_one]
      rw [hs]
      have hx := m_ixor_b w0 w1
      refine p9_bits hx.1 hx.2 ?_
      simp only [e_go, rX9_weaveOf_0, rX9_weaveOf_1, rX9_weaveOf_2, rX9_weaveOf_3, rX9_weaveOf_4, rX9_weaveOf_5, rX9_weaveOf_6, rX9_weaveOf_9, rX9_weaveOf_10, rX9_weaveOf_11, rX9_weaveOf_14, rX9_weaveOf_15, rX9_weaveOf_16, rX9_weaveOf_17, rX9_weaveOf_20, rX9_weaveOf_21, rX9_weaveOf_22, rX9_weaveOf_23, rX9_weaveOf_24, rX9_weaveOf_25, rX9_weaveOf_28, rX9_weaveOf_29, rX9_weaveOf_30, rX9_weaveOf_33, rX9_weaveOf_34, rX9_weaveOf_35, rX9_weaveOf_36, rX9_weaveOf_39, rX9_weaveOf_40, rX9_weaveOf_43, rX9_weaveOf_44, rX9_weaveOf_45, rX9_weaveOf_48, rX9_weaveOf_51, rX9_weaveOf_52, e_ald0, e_bin, e_callS1, e_callV3, e_get, e_goto, e_iald, e_icmp, e_ild1, e_ild2, e_inc2, e_ist1, e_ist2, e_nl0, e_nl1, e_nl2, e_push, e_pushn, e_pushs, e_ret, m_b0, m_b01, m_b1, m_em, Classical.not_not, Nat.reduceBEq, Nat.reduceLT, Nat.reduceLeDiff, Nat.reduceAdd, cond_true, cond_false, Bool.or_false, Bool.false_or, Bool.or_true, Bool.true_or, beq_iff_eq, true_and, and_true, true_or, or_true, forall_const, not_true_eq_false, not_false_eq_true, false_implies, implies_true, Nat.reduceEqDiff, List.length_nil, List.length_cons, ob_66, fv_66_0, fv_66_1, fv_66_2, fv_66_3, fv_66_4, fv_66_5, fs_66_5, fv_66_6, fv_66_7, fv_66_8, fs_66_8, fv_66_9, fs_66_9, fv_66_10, fv_66_11, fv_66_12, fv_66_13, fv_66_14, fv_66_15, fv_66_16, fv_66_17, fv_66_18, fv_66_19, fv_66_20, fv_66_21, fv_66_22, fv_66_23, fs_66_23, fv_66_24, fs_66_24, fv_66_25, fs_66_25, fv_66_26, fs_66_26, fv_66_27, fs_66_27, fv_66_28, fs_66_28, fv_66_29, fv_66_30, fv_66_31, fs_66_31, fv_66_32, fv_66_33, fv_66_34, fs_66_34, kd_68, ln_68, kd_87, ln_87, Int.toNat_natCast, Int.toNat_one]
      rw [m_w2 (x := ((i + 1 : Nat) : Int) + 1) (by omega) (by omega), m_w2 (by omega) (by omega)]
      exact nx
  refine m_run_ok hJ (fun pc => pc == 4) 60 _ _ _ _ ?_
  simp only [e_go, rX9_weaveOf_0, rX9_weaveOf_1, rX9_weaveOf_2, rX9_weaveOf_3, rX9_weaveOf_4, rX9_weaveOf_5, rX9_weaveOf_6, rX9_weaveOf_9, rX9_weaveOf_10, rX9_weaveOf_11, rX9_weaveOf_14, rX9_weaveOf_15, rX9_weaveOf_16, rX9_weaveOf_17, rX9_weaveOf_20, rX9_weaveOf_21, rX9_weaveOf_22, rX9_weaveOf_23, rX9_weaveOf_24, rX9_weaveOf_25, rX9_weaveOf_28, rX9_weaveOf_29, rX9_weaveOf_30, rX9_weaveOf_33, rX9_weaveOf_34, rX9_weaveOf_35, rX9_weaveOf_36, rX9_weaveOf_39, rX9_weaveOf_40, rX9_weaveOf_43, rX9_weaveOf_44, rX9_weaveOf_45, rX9_weaveOf_48, rX9_weaveOf_51, rX9_weaveOf_52, e_ald0, e_bin, e_callS1, e_callV3, e_get, e_goto, e_iald, e_icmp, e_ild1, e_ild2, e_inc2, e_ist1, e_ist2, e_nl0, e_nl1, e_nl2, e_push, e_pushn, e_pushs, e_ret, m_b0, m_b01, m_b1, m_em, Classical.not_not, Nat.reduceBEq, Nat.reduceLT, Nat.reduceLeDiff, Nat.reduceAdd, cond_true, cond_false, Bool.or_false, Bool.false_or, Bool.or_true, Bool.true_or, beq_iff_eq, true_and, and_true, true_or, or_true, forall_const, not_true_eq_false, not_false_eq_true, false_implies, implies_true, Nat.reduceEqDiff, List.length_nil, List.length_cons, ob_66, fv_66_0, fv_66_1, fv_66_2, fv_66_3, fv_66_4, fv_66_5, fs_66_5, fv_66_6, fv_66_7, fv_66_8, fs_66_8, fv_66_9, fs_66_9, fv_66_10, fv_66_11, fv_66_12, fv_66_13, fv_66_14, fv_66_15, fv_66_16, fv_66_17, fv_66_18, fv_66_19, fv_66_20, fv_66_21, fv_66_22, fv_66_23, fs_66_23, fv_66_24, fs_66_24, fv_66_25, fs_66_25, fv_66_26, fs_66_26, fv_66_27, fs_66_27, fv_66_28, fs_66_28, fv_66_29, fv_66_30, fv_66_31, fs_66_31, fv_66_32, fv_66_33, fv_66_34, fs_66_34, kd_68, ln_68, kd_87, ln_87, Int.toNat_natCast, Int.toNat_one]
  exact loop ((max 1 (s 1).toNat) - 1) 0 (Or.inl rfl) (by omega)
theorem q9_weave {g A : m_G} {q : m_Post} (hM : l_M g A) (hW : h_W (A 68)) (h : ∀ g', l_E g g' A → q (some (.inl (wvo (A 68) id (A 68 1).toNat))) g') : wX9_weave.1 [.inr (.inr 66)] g q := by
  have hz := hW.1
  refine m_wp_of (by simp [m_fit]) (fun J hJ => ?_)
  simp only [m_ini, Nat.reduceSub, List.replicate]
  have loop : ∀ (m i : Nat) (g1 : m_G), i + m = 6 → (∀ j, j ≠ 87 → g1 j = g j) → (∀ k : Nat, k < i → g1 87 k = (k : Int)) → J 2 [some (.inr (.inr 66)), some (.inl i)] [] g1 := by
    intro m
    induction m with
    | zero =>
      intro i g1 hi hO hH
      have e : i = 6 := by omega
      subst e
      refine m_run_ok hJ (fun pc => pc == 2) 60 _ _ _ _ ?_
      simp only [e_go, rX9_weave_0, rX9_weave_1, rX9_weave_2, rX9_weave_3, rX9_weave_5, rX9_weave_8, rX9_weave_9, rX9_weave_12, rX9_weave_13, rX9_weave_14, rX9_weave_15, rX9_weave_18, rX9_weave_21, rX9_weave_22, rX9_weave_25, e_ald0, e_callV1, e_get, e_goto, e_iast, e_icmp, e_ild1, e_inc1, e_ist1, e_nl0, e_nl1, e_nl2, e_push, e_pushn, e_pushs, e_ret, m_b0, m_b01, m_b1, m_em, Classical.not_not, Nat.reduceBEq, Nat.reduceLT, Nat.reduceLeDiff, Nat.reduceAdd, cond_true, cond_false, Bool.or_false, Bool.false_or, Bool.or_true, Bool.true_or, beq_iff_eq, true_and, and_true, true_or, or_true, forall_const, not_true_eq_false, not_false_eq_true, false_implies, implies_true, Nat.reduceEqDiff, List.length_nil, List.length_cons, ob_66, fv_66_0, fv_66_1, fv_66_2, fv_66_3, fv_66_4, fv_66_5, fs_66_5, fv_66_6, fv_66_7, fv_66_8, fs_66_8, fv_66_9, fs_66_9, fv_66_10, fv_66_11, fv_66_12, fv_66_13, fv_66_14, fv_66_15, fv_66_16, fv_66_17, fv_66_18, fv_66_19, fv_66_20, fv_66_21, fv_66_22, fv_66_23, fs_66_23, fv_66_24, fs_66_24, fv_66_25, fs_66_25, fv_66_26, fs_66_26, fv_66_27, fs_66_27, fv_66_28, fs_66_28, fv_66_29, fv_66_30, fv_66_31, fs_66_31, fv_66_32, fv_66_33, fv_66_34, fs_66_34, kd_68, ln_68, kd_87, ln_87, Int.toNat_natCast]
      refine ⟨fun _ => ?_, fun z => absurd z (by omega)⟩
      refine p9_weaveOf (s := A 68) (f := id) ((hO 68 (by decide)).trans hM.s) hW (fun k hk => ⟨hH k (by omega), hk⟩) ?_
      simp only [e_go, rX9_weave_0, rX9_weave_1, rX9_weave_2, rX9_weave_3, rX9_weave_5, rX9_weave_8, rX9_weave_9, rX9_weave_12, rX9_weave_13, rX9_weave_14, rX9_weave_15, rX9_weave_18, rX9_weave_21, rX9_weave_22, rX9_weave_25, e_ald0, e_callV1, e_get, e_goto, e_iast, e_icmp, e_ild1, e_inc1, e_ist1, e_nl0, e_nl1, e_nl2, e_push, e_pushn, e_pushs, e_ret, m_b0, m_b01, m_b1, m_em, Classical.not_not, Nat.reduceBEq, Nat.reduceLT, Nat.reduceLeDiff, Nat.reduceAdd, cond_true, cond_false, Bool.or_false, Bool.false_or, Bool.or_true, Bool.true_or, beq_iff_eq, true_and, and_true, true_or, or_true, forall_const, not_true_eq_false, not_false_eq_true, false_implies, implies_true, Nat.reduceEqDiff, List.length_nil, List.length_cons, ob_66, fv_66_0, fv_66_1, fv_66_2, fv_66_3, fv_66_4, fv_66_5, fs_66_5, fv_66_6, fv_66_7, fv_66_8, fs_66_8, fv_66_9, fs_66_9, fv_66_10, fv_66_11, fv_66_12, fv_66_13, fv_66_14, fv_66_15, fv_66_16, fv_66_17, fv_66_18, fv_66_19, fv_66_20, fv_66_21, fv_66_22, fv_66_23, fs_66_23, fv_66_24, fs_66_24, fv_66_25, fs_66_25, fv_66_26, fs_66_26, fv_66_27, fs_66_27, fv_66_28, fs_66_28, fv_66_29, fv_66_30, fv_66_31, fs_66_31, fv_66_32, fv_66_33, fv_66_34, fs_66_34, kd_68, ln_68, kd_87, ln_87, Int.toNat_natCast]
      exact h g1 (hM.one (i := 87) (by decide) (by decide) hO)
    | succ m ih =>
      intro i g1 hi hO hH
      refine m_run_ok hJ (fun pc => pc == 2) 60 _ _ _ _ ?_
      simp only [e_go, rX9_weave_0, rX9_weave_1, rX9_weave_2, rX9_weave_3, rX9_weave_5, rX9_weave_8, rX9_weave_9, rX9_weave_12, rX9_weave_13, rX9_weave_14, rX9_weave_15, rX9_weave_18, rX9_weave_21, rX9_weave_22, rX9_weave_25, e_ald0, e_callV1, e_get, e_goto, e_iast, e_icmp, e_ild1, e_inc1, e_ist1, e_nl0, e_nl1, e_nl2, e_push, e_pushn, e_pushs, e_ret, m_b0, m_b01, m_b1, m_em, Classical.not_not, Nat.reduceBEq, Nat.reduceLT, Nat.reduceLeDiff, Nat.reduceAdd, cond_true, cond_false, Bool.or_false, Bool.false_or, Bool.or_true, Bool.true_or, beq_iff_eq, true_and, and_true, true_or, or_true, forall_const, not_true_eq_false, not_false_eq_true, false_implies, implies_true, Nat.reduceEqDiff, List.length_nil, List.length_cons, ob_66, fv_66_0, fv_66_1, fv_66_2, fv_66_3, fv_66_4, fv_66_5, fs_66_5, fv_66_6, fv_66_7, fv_66_8, fs_66_8, fv_66_9, fs_66_9, fv_66_10, fv_66_11, fv_66_12, fv_66_13, fv_66_14, fv_66_15, fv_66_16, fv_66_17, fv_66_18, fv_66_19, fv_66_20, fv_66_21, fv_66_22, fv_66_23, fs_66_23, fv_66_24, fs_66_24, fv_66_25, fs_66_25, fv_66_26, fs_66_26, fv_66_27, fs_66_27, fv_66_28, fs_66_28, fv_66_29, fv_66_30, fv_66_31, fs_66_31, fv_66_32, fv_66_33, fv_66_34, fs_66_34, kd_68, ln_68, kd_87, ln_87, Int.toNat_natCast]
      rw [m_w2 (x := (i : Int) + 1) (by omega) (by omega)]
      refine ⟨fun z => absurd z (by omega), fun _ => ⟨by omega, ?_⟩⟩
      refine ih (i + 1) _ (by omega) (fun j hj => (m_up_ne hj).trans (hO j hj)) (fun k hk => ?_)
      rw [m_upv]
      by_cases e : k = i
      · rw [if_pos ⟨rfl, e⟩, e]
      · rw [if_neg (fun z => e z.2)]; exact hH k (by omega)
  refine m_run_ok hJ (fun pc => pc == 2) 60 _ _ _ _ ?_
  simp only [e_go, rX9_weave_0, rX9_weave_1, rX9_weave_2, rX9_weave_3, rX9_weave_5, rX9_weave_8, rX9_weave_9, rX9_weave_12, rX9_weave_13, rX9_weave_14, rX9_weave_15, rX9_weave_18, rX9_weave_21, rX9_weave_22, rX9_weave_25, e_ald0, e_callV1, e_get, e_goto, e_iast, e_icmp, e_ild1, e_inc1, e_ist1, e_nl0, e_nl1, e_nl2, e_push, e_pushn, e_pushs, e_ret, m_b0, m_b01, m_b1, m_em, Classical.not_not, Nat.reduceBEq, Nat.reduceLT, Nat.reduceLeDiff, Nat.reduceAdd, cond_true, cond_false, Bool.or_false, Bool.false_or, Bool.or_true, Bool.true_or, beq_iff_eq, true_and, and_true, true_or, or_true, forall_const, not_true_eq_false, not_false_eq_true, false_implies, implies_true, Nat.reduceEqDiff, List.length_nil, List.length_cons, ob_66, fv_66_0, fv_66_1, fv_66_2, fv_66_3, fv_66_4, fv_66_5, fs_66_5, fv_66_6, fv_66_7, fv_66_8, fs_66_8, fv_66_9, fs_66_9, fv_66_10, fv_66_11, fv_66_12, fv_66_13, fv_66_14, fv_66_15, fv_66_16, fv_66_17, fv_66_18, fv_66_19, fv_66_20, fv_66_21, fv_66_22, fv_66_23, fs_66_23, fv_66_24, fs_66_24, fv_66_25, fs_66_25, fv_66_26, fs_66_26, fv_66_27, fs_66_27, fv_66_28, fs_66_28, fv_66_29, fv_66_30, fv_66_31, fs_66_31, fv_66_32, fv_66_33, fv_66_34, fs_66_34, kd_68, ln_68, kd_87, ln_87, Int.toNat_natCast]
  exact loop 6 0 g (by omega) (fun _ _ => rfl) (fun k hk => absurd hk (by omega))
