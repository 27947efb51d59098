set_option maxRecDepth 20000
set_option maxHeartbeats 2000000
theorem m_up_up {g : m_G} {i k : Nat} {x y : Int} : m_up (m_up g i k x) i k y = m_up g i k y := by
  funext j n
  simp only [m_upv]
  by_cases h : j = i ∧ n = k
  · rw [if_pos h, if_pos h]
  · rw [if_neg h, if_neg h, if_neg h]
theorem p3_clear {i : Nat} (hl : m_lnc i) {g : m_G} {q : m_Post} (h : ∀ g' : m_G, (∀ j, j ≠ i → g' j = g j) → (g' i 0 = 0 ∧ g' i 1 = 0 ∧ g' i 2 = 0 ∧ g' i 3 = 0 ∧ g' i 4 = 0 ∧ g' i 5 = 0) → (g' i 6 = -1 ∧ g' i 7 = -1 ∧ g' i 8 = 0 ∧ g' i 9 = 0 ∧ g' i 10 = 0 ∧ g' i 11 = -1) → q none g') : wX3_clear.1 [.inr (.inr i)] g q := by
  refine m_wp_of (by simp [m_fit]) (fun J hJ => ?_)
  simp only [m_ini, Nat.reduceSub, List.replicate]
  refine m_run_ok hJ (fun _ => false) 60 _ _ _ _ ?_
  simp only [e_go, rX3_clear_0, rX3_clear_1, rX3_clear_2, rX3_clear_5, rX3_clear_6, rX3_clear_7, rX3_clear_10, rX3_clear_11, rX3_clear_12, rX3_clear_15, rX3_clear_16, rX3_clear_17, rX3_clear_20, rX3_clear_21, rX3_clear_22, rX3_clear_25, rX3_clear_26, rX3_clear_27, rX3_clear_30, rX3_clear_31, rX3_clear_32, rX3_clear_35, rX3_clear_36, rX3_clear_37, rX3_clear_40, rX3_clear_41, rX3_clear_42, rX3_clear_45, rX3_clear_46, rX3_clear_47, rX3_clear_50, rX3_clear_51, rX3_clear_52, rX3_clear_55, rX3_clear_56, rX3_clear_57, rX3_clear_60, e_ald0, e_push, e_put, e_putz, e_retv, m_b0, m_b01, m_b1, m_em, Classical.not_not, Nat.reduceBEq, Nat.reduceLT, Nat.reduceLeDiff, Nat.reduceAdd, cond_true, cond_false, Bool.or_false, Bool.false_or, Bool.or_true, Bool.true_or, beq_iff_eq, true_and, and_true, true_or, or_true, forall_const, not_true_eq_false, not_false_eq_true, false_implies, implies_true, Nat.reduceEqDiff, List.length_nil, List.length_cons, obL hl, fvL0 hl, fsL0 hl, fvL1 hl, fsL1 hl, fvL2 hl, fsL2 hl, fvL3 hl, fsL3 hl, fvL4 hl, fsL4 hl, fvL5 hl, fsL5 hl, fvL6 hl, fsL6 hl, fvL7 hl, fsL7 hl, fvL8 hl, fsL8 hl, fvL9 hl, fsL9 hl, fvL10 hl, fsL10 hl, fvL11 hl, fsL11 hl]
  refine h _ ?_ ?_ ?_
  · intro j hj; simp only [m_up_ne hj]
  · simp only [m_upv]; simp
  · simp only [m_upv]; simp
theorem p3_join_ne {i n e : Nat} (hl : m_lnc i) {g : m_G} {q : m_Post} (he : g i 11 = (e : Int)) (he5 : e < 500) (hs : 0 < g i 0) (hn : n < 500) (h : q none (m_up (m_up (m_up (m_up g 54 e n) i 11 n) i 0 (m_wrap (g i 0 + 1))) i 1 (m_wrap (g i 1 + g 53 n)))) : wX3_join.1 [.inr (.inr i), .inr (.inr 50), .inl n] g q := by
  have h54 : i ≠ 54 := by unfold m_lnc at hl; omega
  have h53 : (53 : Nat) ≠ i := by unfold m_lnc at hl; omega
  refine m_wp_of (by simp [m_fit]) (fun J hJ => ?_)
  simp only [m_ini, Nat.reduceSub, List.replicate]
  refine m_run_ok hJ (fun _ => false) 60 _ _ _ _ ?_
  simp only [e_go, rX3_join_0, rX3_join_1, rX3_join_4, rX3_join_7, rX3_join_8, rX3_join_11, rX3_join_14, rX3_join_15, rX3_join_18, rX3_join_19, rX3_join_22, rX3_join_23, rX3_join_24, rX3_join_27, rX3_join_28, rX3_join_29, rX3_join_32, rX3_join_33, rX3_join_34, rX3_join_37, rX3_join_38, rX3_join_39, rX3_join_42, rX3_join_43, rX3_join_44, rX3_join_47, rX3_join_48, rX3_join_49, rX3_join_52, rX3_join_53, rX3_join_56, rX3_join_57, rX3_join_58, rX3_join_59, rX3_join_62, e_ald0, e_ald1, e_bin, e_dupi, e_dupr, e_get, e_goto, e_iald, e_iast, e_if, e_ild2, e_push, e_put, e_retv, m_b0, m_b01, m_b1, m_em, Classical.not_not, Nat.reduceBEq, Nat.reduceLT, Nat.reduceLeDiff, Nat.reduceAdd, cond_true, cond_false, Bool.or_false, Bool.false_or, Bool.or_true, Bool.true_or, beq_iff_eq, true_and, and_true, true_or, or_true, forall_const, not_true_eq_false, not_false_eq_true, false_implies, implies_true, Nat.reduceEqDiff, List.length_nil, List.length_cons, obL hl, fvL0 hl, fsL0 hl, fvL1 hl, fsL1 hl, fvL2 hl, fsL2 hl, fvL3 hl, fsL3 hl, fvL4 hl, fsL4 hl, fvL5 hl, fsL5 hl, fvL6 hl, fsL6 hl, fvL7 hl, fsL7 hl, fvL8 hl, fsL8 hl, fvL9 hl, fsL9 hl, fvL10 hl, fsL10 hl, fvL11 hl, fsL11 hl, ob_50, fv_50_0, fs_50_0, fv_50_1, fv_50_2, fv_50_3, fv_50_4, fv_50_5, fv_50_6, fv_50_7, kd_53, ln_53, kd_54, ln_54, Int.toNat_natCast]
  simp only [m_upv, h54, h53, false_and, and_false, and_true, true_and, Nat.reduceEqDiff, reduceIte, he, Int.toNat_natCast]
  refine ⟨fun c => absurd c (by omega), fun _ => ⟨fun c => absurd c (by omega), fun _ => ⟨by omega, by omega, ?_⟩⟩⟩
  exact h
theorem p3_join_e {i n : Nat} (hl : m_lnc i) {g : m_G} {q : m_Post} (hs : g i 0 = 0) (hn : n < 500) (h : q none (m_up (m_up (m_up (m_up g i 7 n) i 11 n) i 0 (m_wrap (g i 0 + 1))) i 1 (m_wrap (g i 1 + g 53 n)))) : wX3_join.1 [.inr (.inr i), .inr (.inr 50), .inl n] g q := by
  have h54 : i ≠ 54 := by unfold m_lnc at hl; omega
  have h53 : (53 : Nat) ≠ i := by unfold m_lnc at hl; omega
  refine m_wp_of (by simp [m_fit]) (fun J hJ => ?_)
  simp only [m_ini, Nat.reduceSub, List.replicate]
  refine m_run_ok hJ (fun _ => false) 60 _ _ _ _ ?_
  simp only [e_go, rX3_join_0, rX3_join_1, rX3_join_4, rX3_join_7, rX3_join_8, rX3_join_11, rX3_join_14, rX3_join_15, rX3_join_18, rX3_join_19, rX3_join_22, rX3_join_23, rX3_join_24, rX3_join_27, rX3_join_28, rX3_join_29, rX3_join_32, rX3_join_33, rX3_join_34, rX3_join_37, rX3_join_38, rX3_join_39, rX3_join_42, rX3_join_43, rX3_join_44, rX3_join_47, rX3_join_48, rX3_join_49, rX3_join_52, rX3_join_53, rX3_join_56, rX3_join_57, rX3_join_58, rX3_join_59, rX3_join_62, e_ald0, e_ald1, e_bin, e_dupi, e_dupr, e_get, e_goto, e_iald, e_iast, e_if, e_ild2, e_push, e_put, e_retv, m_b0, m_b01, m_b1, m_em, Classical.not_not, Nat.reduceBEq, Nat.reduceLT, Nat.reduceLeDiff, Nat.reduceAdd, cond_true, cond_false, Bool.or_false, Bool.false_or, Bool.or_true, Bool.true_or, beq_iff_eq, true_and, and_true, true_or, or_true, forall_const, not_true_eq_false, not_false_eq_true, false_implies, implies_true, Nat.reduceEqDiff, List.length_nil, List.length_cons, obL hl, fvL0 hl, fsL0 hl, fvL1 hl, fsL1 hl, fvL2 hl, fsL2 hl, fvL3 hl, fsL3 hl, fvL4 hl, fsL4 hl, fvL5 hl, fsL5 hl, fvL6 hl, fsL6 hl, fvL7 hl, fsL7 hl, fvL8 hl, fsL8 hl, fvL9 hl, fsL9 hl, fvL10 hl, fsL10 hl, fvL11 hl, fsL11 hl, ob_50, fv_50_0, fs_50_0, fv_50_1, fv_50_2, fv_50_3, fv_50_4, fv_50_5, fv_50_6, fv_50_7, kd_53, ln_53, kd_54, ln_54, Int.toNat_natCast]
  simp only [m_upv, h54, h53, false_and, and_false, and_true, true_and, Nat.reduceEqDiff, reduceIte, Int.toNat_natCast]
  refine ⟨fun c => ⟨by omega, h⟩, fun _ => ⟨fun c => ⟨by omega, h⟩, fun c => absurd c (by omega)⟩⟩
theorem p3_serve {i n : Nat} (hl : m_lnc i) {u : Int} {g : m_G} {q : m_Post} (hf : g i 7 = (n : Int)) (hn : n < 500) (h : q none (m_up (m_up (m_up (m_up g i 1 (m_wrap (g i 1 - g 53 n))) i 6 (g 51 n)) i 2 u) i 5 1)) : wX3_serve.1 [.inr (.inr i), .inr (.inr 50), .inl u] g q := by
  have h51 : (51 : Nat) ≠ i := by unfold m_lnc at hl; omega
  refine m_wp_of (by simp [m_fit]) (fun J hJ => ?_)
  simp only [m_ini, Nat.reduceSub, List.replicate]
  refine m_run_ok hJ (fun _ => false) 60 _ _ _ _ ?_
  simp only [e_go, rX3_serve_0, rX3_serve_1, rX3_serve_4, rX3_serve_7, rX3_serve_8, rX3_serve_9, rX3_serve_12, rX3_serve_13, rX3_serve_16, rX3_serve_17, rX3_serve_20, rX3_serve_21, rX3_serve_22, rX3_serve_25, rX3_serve_26, rX3_serve_27, rX3_serve_30, rX3_serve_31, rX3_serve_34, rX3_serve_35, rX3_serve_38, rX3_serve_39, rX3_serve_40, rX3_serve_43, rX3_serve_44, rX3_serve_45, rX3_serve_48, e_ald0, e_ald1, e_bin, e_dupi, e_dupr, e_get, e_iald, e_if, e_ild2, e_push, e_put, e_putz, e_retv, m_b0, m_b01, m_b1, m_em, Classical.not_not, Nat.reduceBEq, Nat.reduceLT, Nat.reduceLeDiff, Nat.reduceAdd, cond_true, cond_false, Bool.or_false, Bool.false_or, Bool.or_true, Bool.true_or, beq_iff_eq, true_and, and_true, true_or, or_true, forall_const, not_true_eq_false, not_false_eq_true, false_implies, implies_true, Nat.reduceEqDiff, List.length_nil, List.length_cons, obL hl, fvL0 hl, fsL0 hl, fvL1 hl, fsL1 hl, fvL2 hl, fsL2 hl, fvL3 hl, fsL3 hl, fvL4 hl, fsL4 hl, fvL5 hl, fsL5 hl, fvL6 hl, fsL6 hl, fvL7 hl, fsL7 hl, fvL8 hl, fsL8 hl, fvL9 hl, fsL9 hl, fvL10 hl, fsL10 hl, fvL11 hl, fsL11 hl, ob_50, fv_50_0, fs_50_0, fv_50_1, fv_50_2, fv_50_3, fv_50_4, fv_50_5, fv_50_6, fv_50_7, kd_51, ln_51, kd_53, ln_53, Int.toNat_natCast]
  simp only [m_upv, h51, false_and, and_false, and_true, true_and, Nat.reduceEqDiff, reduceIte, hf, Int.toNat_natCast]
  refine ⟨fun c => absurd c (by omega), fun _ => ⟨by omega, by omega, h⟩⟩
theorem p3_leave {i n : Nat} (hl : m_lnc i) {g : m_G} {q : m_Post} (hf : g i 7 = (n : Int)) (hn : n < 500) (h : q none (m_up (m_up (m_up (m_up g i 7 (g 54 n)) i 0 (m_wrap (g i 0 - 1))) i 4 (m_wrap (g i 4 + 1))) i 5 0)) : wX3_leave.1 [.inr (.inr i), .inr (.inr 50)] g q := by
  have h54 : (54 : Nat) ≠ i := by unfold m_lnc at hl; omega
  refine m_wp_of (by simp [m_fit]) (fun J hJ => ?_)
  simp only [m_ini, Nat.reduceSub, List.replicate]
  refine m_run_ok hJ (fun _ => false) 60 _ _ _ _ ?_
  simp only [e_go, rX3_leave_0, rX3_leave_1, rX3_leave_4, rX3_leave_7, rX3_leave_8, rX3_leave_9, rX3_leave_12, rX3_leave_13, rX3_leave_16, rX3_leave_17, rX3_leave_20, rX3_leave_21, rX3_leave_22, rX3_leave_25, rX3_leave_26, rX3_leave_27, rX3_leave_30, rX3_leave_31, rX3_leave_32, rX3_leave_35, rX3_leave_36, rX3_leave_37, rX3_leave_40, rX3_leave_41, rX3_leave_42, rX3_leave_45, e_ald0, e_ald1, e_bin, e_dupi, e_dupr, e_get, e_iald, e_if, e_push, e_put, e_putz, e_retv, m_b0, m_b01, m_b1, m_em, Classical.not_not, Nat.reduceBEq, Nat.reduceLT, Nat.reduceLeDiff, Nat.reduceAdd, cond_true, cond_false, Bool.or_false, Bool.false_or, Bool.or_true, Bool.true_or, beq_iff_eq, true_and, and_true, true_or, or_true, forall_const, not_true_eq_false, not_false_eq_true, false_implies, implies_true, Nat.reduceEqDiff, List.length_nil, List.length_cons, obL hl, fvL0 hl, fsL0 hl, fvL1 hl, fsL1 hl, fvL2 hl, fsL2 hl, fvL3 hl, fsL3 hl, fvL4 hl, fsL4 hl, fvL5 hl, fsL5 hl, fvL6 hl, fsL6 hl, fvL7 hl, fsL7 hl, fvL8 hl, fsL8 hl, fvL9 hl, fsL9 hl, fvL10 hl, fsL10 hl, fvL11 hl, fsL11 hl, ob_50, fv_50_0, fs_50_0, fv_50_1, fv_50_2, fv_50_3, fv_50_4, fv_50_5, fv_50_6, fv_50_7, kd_54, ln_54, Int.toNat_natCast]
  simp only [m_upv, h54, false_and, and_false, and_true, true_and, Nat.reduceEqDiff, reduceIte, hf, Int.toNat_natCast]
  refine ⟨fun c => absurd c (by omega), fun _ => ⟨by omega, h⟩⟩
theorem p3_loadAt {i : Nat} (hl : m_lnc i) {now : Int} {g : m_G} {q : m_Post} (h : q (some (.inl (if ¬ g i 5 = 0 ∧ now < g i 2 then m_wrap (m_wrap (g i 1 + g i 2) - now) else g i 1))) g) : wX3_loadAt.1 [.inr (.inr i), .inl now] g q := by
  refine m_wp_of (by simp [m_fit]) (fun J hJ => ?_)
  simp only [m_ini, Nat.reduceSub, List.replicate]
  refine m_run_ok hJ (fun _ => false) 60 _ _ _ _ ?_
  simp only [e_go, rX3_loadAt_0, rX3_loadAt_1, rX3_loadAt_4, rX3_loadAt_7, rX3_loadAt_8, rX3_loadAt_11, rX3_loadAt_12, rX3_loadAt_15, rX3_loadAt_16, rX3_loadAt_19, rX3_loadAt_20, rX3_loadAt_23, rX3_loadAt_24, rX3_loadAt_25, rX3_loadAt_26, rX3_loadAt_29, rX3_loadAt_30, rX3_loadAt_33, e_ald0, e_bin, e_get, e_goto, e_icmp, e_if, e_ild1, e_ret, m_b0, m_b01, m_b1, m_em, Classical.not_not, Nat.reduceBEq, Nat.reduceLT, Nat.reduceLeDiff, Nat.reduceAdd, cond_true, cond_false, Bool.or_false, Bool.false_or, Bool.or_true, Bool.true_or, beq_iff_eq, true_and, and_true, true_or, or_true, forall_const, not_true_eq_false, not_false_eq_true, false_implies, implies_true, Nat.reduceEqDiff, List.length_nil, List.length_cons, obL hl, fvL0 hl, fsL0 hl, fvL1 hl, fsL1 hl, fvL2 hl, fsL2 hl, fvL3 hl, fsL3 hl, fvL4 hl, fsL4 hl, fvL5 hl, fsL5 hl, fvL6 hl, fsL6 hl, fvL7 hl, fsL7 hl, fvL8 hl, fsL8 hl, fvL9 hl, fsL9 hl, fvL10 hl, fsL10 hl, fvL11 hl, fsL11 hl]
  refine ⟨fun c => ?_, fun c => ⟨fun c2 => ?_, fun c2 => ?_⟩⟩
  · rw [if_neg (fun z => z.1 c)] at h; exact h
  · rw [if_neg (fun z => by omega)] at h; exact h
  · rw [if_pos ⟨c, by omega⟩] at h; exact h
theorem m_bits32 : ∀ n : Nat, n < 32 → ∀ w : Int, w = n → (let x1 := (w - m_iand (m_iushr w 1) 1431655765 + 2147483648) % 4294967296 - 2147483648
    let x2 := (m_iand x1 858993459 + m_iand (m_iushr x1 2) 858993459 + 2147483648) % 4294967296 - 2147483648
    let x3 := m_iand ((x2 + m_iushr x2 4 + 2147483648) % 4294967296 - 2147483648) 252645135
    let x4 := (x3 + m_iushr x3 8 + 2147483648) % 4294967296 - 2147483648
    let x5 := (x4 + m_iushr x4 16 + 2147483648) % 4294967296 - 2147483648
    m_iand x5 63 = d_bits w) := by
  intro n hn w hw
  subst hw
  revert n
  decide +kernel
theorem pJ_bitCount {w : Int} {g : m_G} {q : m_Post} (h0 : 0 ≤ w) (h31 : w ≤ 31) (h : q (some (.inl (d_bits w))) g) : wJ6_bitCount_0f7a4.1 [.inl w] g q := by
  refine m_wp_of (by simp [m_fit]) (fun J hJ => ?_)
  simp only [m_ini, Nat.reduceSub, List.replicate]
  refine m_run_ok hJ (fun _ => false) 60 _ _ _ _ ?_
  simp only [e_go, rJ6_bitCount_0f7a4_0, rJ6_bitCount_0f7a4_1, rJ6_bitCount_0f7a4_2, rJ6_bitCount_0f7a4_3, rJ6_bitCount_0f7a4_4, rJ6_bitCount_0f7a4_7, rJ6_bitCount_0f7a4_8, rJ6_bitCount_0f7a4_9, rJ6_bitCount_0f7a4_10, rJ6_bitCount_0f7a4_11, rJ6_bitCount_0f7a4_14, rJ6_bitCount_0f7a4_15, rJ6_bitCount_0f7a4_16, rJ6_bitCount_0f7a4_17, rJ6_bitCount_0f7a4_18, rJ6_bitCount_0f7a4_21, rJ6_bitCount_0f7a4_22, rJ6_bitCount_0f7a4_23, rJ6_bitCount_0f7a4_24, rJ6_bitCount_0f7a4_25, rJ6_bitCount_0f7a4_26, rJ6_bitCount_0f7a4_27, rJ6_bitCount_0f7a4_28, rJ6_bitCount_0f7a4_29, rJ6_bitCount_0f7a4_32, rJ6_bitCount_0f7a4_33, rJ6_bitCount_0f7a4_34, rJ6_bitCount_0f7a4_35, rJ6_bitCount_0f7a4_36, rJ6_bitCount_0f7a4_38, rJ6_bitCount_0f7a4_39, rJ6_bitCount_0f7a4_40, rJ6_bitCount_0f7a4_41, rJ6_bitCount_0f7a4_42, rJ6_bitCount_0f7a4_43, rJ6_bitCount_0f7a4_45, rJ6_bitCount_0f7a4_46, rJ6_bitCount_0f7a4_47, rJ6_bitCount_0f7a4_48, rJ6_bitCount_0f7a4_49, rJ6_bitCount_0f7a4_51, rJ6_bitCount_0f7a4_52, e_bin, e_ild0, e_ist0, e_nl0, e_nl1, e_nl2, e_push, e_ret, m_b0, m_b01, m_b1, m_em, Classical.not_not, Nat.reduceBEq, Nat.reduceLT, Nat.reduceLeDiff, Nat.reduceAdd, cond_true, cond_false, Bool.or_false, Bool.false_or, Bool.or_true, Bool.true_or, beq_iff_eq, true_and, and_true, true_or, or_true, forall_const, not_true_eq_false, not_false_eq_true, false_implies, implies_true, Nat.reduceEqDiff, List.length_nil, List.length_cons]
  have := m_bits32 w.toNat (by omega) w (by omega)
  simp only at this
  simp only [m_wrap_eq]
  rw [this]
  exact h
/-- the house of the day, those who come -/
def v_D (g : m_G) (b : Nat) (s : Nat → Int) (nd : Nat → Nat → Int) : Prop :=
  m_hs b ∧ g 39 7 = (b : Int) ∧ h_R g b s ∧ g 50 0 = sumC s (s 0).toNat ∧ ∀ n : Nat, (n : Int) < sumC s (s 0).toNat → ∃ m t : Nat, (t : Int) < s 0 ∧ m < 3600 ∧ d_at s t m = true ∧ c_N s (5 * m + t) = n ∧ g 51 n = (t : Int) ∧ g 52 n = (m : Int) ∧ g 53 n = nd t (m / 900)
/-- what the day's steps leave alone -/
def v_F (g g' : m_G) : Prop := (∀ j, (j < 39 ∨ j = 43 ∨ (50 ≤ j ∧ j ≠ 54 ∧ j ≠ 55)) → g' j = g j) ∧ (g' 39 7 = g 39 7 ∧ g' 39 8 = g 39 8 ∧ g' 39 9 = g 39 9) ∧ ∀ l, l < 6 → g' (44 + l) 8 = g (44 + l) 8 ∧ g' (44 + l) 9 = g (44 + l) 9 ∧ g' (44 + l) 10 = g (44 + l) 10
theorem v_F.rfl' {g : m_G} : v_F g g := ⟨fun _ _ => rfl, ⟨rfl, rfl, rfl⟩, fun _ _ => ⟨rfl, rfl, rfl⟩⟩
theorem v_F.trans {a b c : m_G} (h : v_F a b) (h2 : v_F b c) : v_F a c := ⟨fun j hj => (h2.1 j hj).trans (h.1 j hj), ⟨h2.2.1.1.trans h.2.1.1, h2.2.1.2.1.trans h.2.1.2.1, h2.2.1.2.2.trans h.2.1.2.2⟩, fun l hl => ⟨(h2.2.2 l hl).1.trans (h.2.2 l hl).1, (h2.2.2 l hl).2.1.trans (h.2.2 l hl).2.1, (h2.2.2 l hl).2.2.trans (h.2.2 l hl).2.2⟩⟩
/-- only these cells differ -/
theorem v_F.of {g g' : m_G} (h : ∀ j, ¬ (40 ≤ j ∧ j ≤ 42) → j ≠ 54 → j ≠ 55 → g' j = g j) : v_F g g' := ⟨fun j hj => h j (by omega) (by omega) (by omega), ⟨by rw [h 39 (by omega) (by omega) (by omega)], by rw [h 39 (by omega) (by omega) (by omega)], by rw [h 39 (by omega) (by omega) (by omega)]⟩, fun l hl => ⟨by rw [h _ (by omega) (by omega) (by omega)], by rw [h _ (by omega) (by omega) (by omega)], by rw [h _ (by omega) (by omega) (by omega)]⟩⟩
theorem v_F.put {g : m_G} {j k : Nat} {x : Int} (h : (j = 39 ∧ k ≠ 7 ∧ k ≠ 8 ∧ k ≠ 9) ∨ (40 ≤ j ∧ j ≤ 42) ∨ j = 54 ∨ j = 55 ∨ (44 ≤ j ∧ j < 50 ∧ k ≠ 8 ∧ k ≠ 9 ∧ k ≠ 10)) : v_F g (m_up g j k x) := by
  refine ⟨fun i hi => m_up_ne (by omega), ⟨?_, ?_, ?_⟩, fun l hl => ⟨?_, ?_, ?_⟩⟩ <;> (rw [m_upv, if_neg (by omega)])
theorem v_D.keep {g g' : m_G} {b : Nat} {s : Nat → Int} {nd : Nat → Nat → Int} (h : v_D g b s nd) (hF : v_F g g') : v_D g' b s nd := by
  obtain ⟨h1, h2, h3, h4, h5⟩ := h
  refine ⟨h1, hF.2.1.1.trans h2, h3.same (fun j hj => hF.1 _ (by unfold m_hs at h1; omega)), by rw [hF.1 50 (by omega)]; exact h4, fun n hn => ?_⟩
  rw [hF.1 51 (by omega), hF.1 52 (by omega), hF.1 53 (by omega)]
  exact h5 n hn
theorem p1_hasPlace {i b : Nat} (hl : m_lnc i) {g : m_G} {s : Nat → Int} {nd : Nat → Nat → Int} {q : m_Post} (hD : v_D g b s nd) (h : q (some (.inl (if g i 0 < s 7 then 1 else 0))) g) : wX1_hasPlace.1 [.inr (.inr 39), .inr (.inr i)] g q := by
  have hb := hD.1
  have e7 : (g 39 7).toNat = b := by rw [hD.2.1]; rfl
  have e5 : g (b + 6) 5 = s 7 := hD.2.2.1.2.2.1 5 (by decide)
  refine m_wp_of (by simp [m_fit]) (fun J hJ => ?_)
  simp only [m_ini, Nat.reduceSub, List.replicate]
  refine m_run_ok hJ (fun _ => false) 60 _ _ _ _ ?_
  simp only [e_go, rX1_hasPlace_0, rX1_hasPlace_1, rX1_hasPlace_4, rX1_hasPlace_5, rX1_hasPlace_8, rX1_hasPlace_11, rX1_hasPlace_12, rX1_hasPlace_13, rX1_hasPlace_16, rX1_hasPlace_17, rX1_hasPlace_20, rX1_hasPlace_21, e_ald0, e_ald1, e_get, e_goto, e_iald, e_icmp, e_push, e_retz, m_b0, m_b01, m_b1, m_em, Classical.not_not, Nat.reduceBEq, Nat.reduceLT, Nat.reduceLeDiff, Nat.reduceAdd, cond_true, cond_false, Bool.or_false, Bool.false_or, Bool.or_true, Bool.true_or, beq_iff_eq, true_and, and_true, true_or, or_true, forall_const, not_true_eq_false, not_false_eq_true, false_implies, implies_true, Nat.reduceEqDiff, List.length_nil, List.length_cons, obL hl, fvL0 hl, fsL0 hl, fvL1 hl, fsL1 hl, fvL2 hl, fsL2 hl, fvL3 hl, fsL3 hl, fvL4 hl, fsL4 hl, fvL5 hl, fsL5 hl, fvL6 hl, fsL6 hl, fvL7 hl, fsL7 hl, fvL8 hl, fsL8 hl, fvL9 hl, fsL9 hl, fvL10 hl, fsL10 hl, fvL11 hl, fsL11 hl, ob_39, fv_39_0, fv_39_1, fv_39_2, fv_39_3, fv_39_4, fs_39_4, fv_39_5, fs_39_5, fv_39_6, fv_39_7, fs_39_7, fv_39_8, fs_39_8, fv_39_9, fs_39_9, fv_39_10, fs_39_10, e7, obH hb, fvH0 hb, fsH0 hb, fvH1 hb, fsH1 hb, fvH2 hb, fvH3 hb, fvH4 hb, fvH5 hb, fvH6 hb, fvH7 hb, kdH1 hb, lnH1 hb, ltH1 hb, kdH2 hb, lnH2 hb, ltH2 hb, kdH3 hb, lnH3 hb, ltH3 hb, kdH4 hb, lnH4 hb, ltH4 hb, kdH5 hb, lnH5 hb, ltH5 hb, kdH6 hb, lnH6 hb, ltH6 hb, Int.toNat_natCast]
  simp only [show (5 : Int).toNat = 5 from rfl, e5]
  refine ⟨by omega, fun c => ?_, fun c => ?_⟩
  · rw [if_neg (by omega)] at h; exact h
  · rw [if_pos (by omega)] at h; exact h
theorem p1_isMoreApart {i k : Nat} (hi : m_lnc i) (hk : m_lnc k) {g : m_G} {q : m_Post} (h : q (some (.inl (if g i 9 < g k 9 ∨ (g i 9 = g k 9 ∧ g i 0 < g k 0) then 1 else 0))) g) : wX1_isMoreApart.1 [.inr (.inr i), .inr (.inr k)] g q := by
  refine m_wp_of (by simp [m_fit]) (fun J hJ => ?_)
  simp only [m_ini, Nat.reduceSub, List.replicate]
  refine m_run_ok hJ (fun _ => false) 60 _ _ _ _ ?_
  simp only [e_go, rX1_isMoreApart_0, rX1_isMoreApart_1, rX1_isMoreApart_4, rX1_isMoreApart_5, rX1_isMoreApart_8, rX1_isMoreApart_11, rX1_isMoreApart_12, rX1_isMoreApart_15, rX1_isMoreApart_16, rX1_isMoreApart_17, rX1_isMoreApart_18, rX1_isMoreApart_21, rX1_isMoreApart_22, rX1_isMoreApart_25, rX1_isMoreApart_28, rX1_isMoreApart_29, rX1_isMoreApart_32, rX1_isMoreApart_33, rX1_isMoreApart_36, rX1_isMoreApart_37, rX1_isMoreApart_40, rX1_isMoreApart_43, rX1_isMoreApart_44, rX1_isMoreApart_47, rX1_isMoreApart_48, e_ald0, e_ald1, e_get, e_goto, e_icmp, e_if, e_ild2, e_ist2, e_nl0, e_nl1, e_nl2, e_push, e_retz, m_b0, m_b01, m_b1, m_em, Classical.not_not, Nat.reduceBEq, Nat.reduceLT, Nat.reduceLeDiff, Nat.reduceAdd, cond_true, cond_false, Bool.or_false, Bool.false_or, Bool.or_true, Bool.true_or, beq_iff_eq, true_and, and_true, true_or, or_true, forall_const, not_true_eq_false, not_false_eq_true, false_implies, implies_true, Nat.reduceEqDiff, List.length_nil, List.length_cons, obL hi, fvL0 hi, fsL0 hi, fvL1 hi, fsL1 hi, fvL2 hi, fsL2 hi, fvL3 hi, fsL3 hi, fvL4 hi, fsL4 hi, fvL5 hi, fsL5 hi, fvL6 hi, fsL6 hi, fvL7 hi, fsL7 hi, fvL8 hi, fsL8 hi, fvL9 hi, fsL9 hi, fvL10 hi, fsL10 hi, fvL11 hi, fsL11 hi, obL hk, fvL0 hk, fsL0 hk, fvL1 hk, fsL1 hk, fvL2 hk, fsL2 hk, fvL3 hk, fsL3 hk, fvL4 hk, fsL4 hk, fvL5 hk, fsL5 hk, fvL6 hk, fsL6 hk, fvL7 hk, fsL7 hk, fvL8 hk, fsL8 hk, fvL9 hk, fsL9 hk, fvL10 hk, fsL10 hk, fvL11 hk, fsL11 hk]
  grind
theorem p1_countStray {b : Nat} {g : m_G} {s : Nat → Int} {nd : Nat → Nat → Int} {q : m_Post} (hD : v_D g b s nd) (hW : h_W s) (h0 : 0 ≤ g 39 10 ∧ g 39 10 < 100) (h : q (some (.inl (if g 39 10 + d_more s < 100 then 0 else 1))) (m_up g 39 10 (if g 39 10 + d_more s < 100 then g 39 10 + d_more s else g 39 10 + d_more s - 100))) : wX1_countStray.1 [.inr (.inr 39)] g q := by
  have hb := hD.1
  have w := hW.2.1
  have e7 : (g 39 7).toNat = b := by rw [hD.2.1]; rfl
  have e2 : g (b + 6) 2 = s 4 := hD.2.2.1.2.2.1 2 (by decide)
  have e3 : g (b + 6) 7 = s 9 := hD.2.2.1.2.2.1 7 (by decide)
  refine m_wp_of (by simp [m_fit]) (fun J hJ => ?_)
  simp only [m_ini, Nat.reduceSub, List.replicate]
  refine m_run_ok hJ (fun _ => false) 60 _ _ _ _ ?_
  simp only [e_go, rX1_countStray_0, rX1_countStray_1, rX1_countStray_2, rX1_countStray_5, rX1_countStray_6, rX1_countStray_9, rX1_countStray_12, rX1_countStray_13, rX1_countStray_14, rX1_countStray_16, rX1_countStray_17, rX1_countStray_20, rX1_countStray_23, rX1_countStray_25, rX1_countStray_26, rX1_countStray_27, rX1_countStray_28, rX1_countStray_29, rX1_countStray_32, rX1_countStray_33, rX1_countStray_36, rX1_countStray_37, rX1_countStray_40, rX1_countStray_42, rX1_countStray_45, rX1_countStray_46, rX1_countStray_47, rX1_countStray_48, rX1_countStray_49, rX1_countStray_52, rX1_countStray_54, rX1_countStray_55, rX1_countStray_58, rX1_countStray_59, e_ald0, e_bin, e_dupi, e_dupr, e_get, e_iald, e_icmp, e_max, e_push, e_put, e_retz, m_b0, m_b01, m_b1, m_em, Classical.not_not, Nat.reduceBEq, Nat.reduceLT, Nat.reduceLeDiff, Nat.reduceAdd, cond_true, cond_false, Bool.or_false, Bool.false_or, Bool.or_true, Bool.true_or, beq_iff_eq, true_and, and_true, true_or, or_true, forall_const, not_true_eq_false, not_false_eq_true, false_implies, implies_true, Nat.reduceEqDiff, List.length_nil, List.length_cons, ob_39, fv_39_0, fv_39_1, fv_39_2, fv_39_3, fv_39_4, fs_39_4, fv_39_5, fs_39_5, fv_39_6, fv_39_7, fs_39_7, fv_39_8, fs_39_8, fv_39_9, fs_39_9, fv_39_10, fs_39_10, e7, obH hb, fvH0 hb, fsH0 hb, fvH1 hb, fsH1 hb, fvH2 hb, fvH3 hb, fvH4 hb, fvH5 hb, fvH6 hb, fvH7 hb, kdH1 hb, lnH1 hb, ltH1 hb, kdH2 hb, lnH2 hb, ltH2 hb, kdH3 hb, lnH3 hb, ltH3 hb, kdH4 hb, lnH4 hb, ltH4 hb, kdH5 hb, lnH5 hb, ltH5 hb, kdH6 hb, lnH6 hb, ltH6 hb, Int.toNat_natCast]
  simp only [show (2 : Int).toNat = 2 from rfl, show (7 : Int).toNat = 7 from rfl, e2, e3]
  have em : m_wrap (g 39 10 + if m_wrap (s 4 - m_wrap (8 * s 9)) < 0 then 0 else m_wrap (s 4 - m_wrap (8 * s 9))) = g 39 10 + d_more s := by
    rw [m_w1 (x := 8 * s 9) (by omega) (by omega), m_w1 (x := s 4 - 8 * s 9) (by omega) (by omega)]
    unfold d_more
    by_cases c : s 4 - 8 * s 9 < 0
    · rw [if_pos c, if_neg (by omega)]; exact m_w2 (by omega) (by omega)
    · rw [if_neg c]
      by_cases c2 : 0 < s 4 - 8 * s 9
      · rw [if_pos c2]; exact m_w2 (by omega) (by omega)
      · rw [if_neg c2]; rw [m_w2 (by omega) (by omega)]; omega
  have hm : 0 ≤ d_more s ∧ d_more s ≤ 100 := by unfold d_more; split <;> omega
  rw [em]
  simp only [m_up_eq, m_us, m_up_up]
  refine ⟨by omega, by omega, fun c => ?_, fun c => ?_⟩
  · rw [if_neg (by omega), if_neg (by omega)] at h
    rw [m_w2 (by omega) (by omega)]; exact h
  · rw [if_pos (by omega), if_pos (by omega)] at h; exact h
