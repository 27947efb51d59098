set_option maxRecDepth 20000
set_option maxHeartbeats 2000000
theorem q8_row {g A : m_G} {v : Int} {q : m_Post} (hM : c_M g A) (hA : 0 ≤ A 66 34 ∧ A 66 34 ≤ 5) (h : ∀ g', k_E g g' (x_row A v).2 → q (some (.inl (x_row A v).1)) g') : wX8_row.1 [.inr (.inr 0), .inl v] g q := by
  refine m_wp_of (by simp [m_fit]) (fun J hJ => ?_)
  simp only [m_ini, Nat.reduceSub, List.replicate]
  refine m_run_ok hJ (fun _ => false) 60 _ _ _ _ ?_
  simp only [e_go, rX8_row_0, rX8_row_1, rX8_row_4, rX8_row_5, rX8_row_7, rX8_row_10, rX8_row_11, rX8_row_12, rX8_row_15, rX8_row_18, rX8_row_19, rX8_row_22, rX8_row_23, rX8_row_26, rX8_row_27, rX8_row_29, rX8_row_32, rX8_row_33, rX8_row_34, rX8_row_37, rX8_row_38, rX8_row_41, rX8_row_42, rX8_row_43, rX8_row_44, rX8_row_45, rX8_row_48, rX8_row_49, rX8_row_50, rX8_row_53, rX8_row_54, rX8_row_57, e_ald0, e_bin, e_callV2, e_dupi, e_dupr, e_get, e_iast, e_icmp, e_if, e_ild1, e_push, e_pushn, e_pushs, e_put, e_ret, m_b0, m_b01, m_b1, m_em, Classical.not_not, Nat.reduceBEq, Nat.reduceLT, Nat.reduceLeDiff, Nat.reduceAdd, cond_true, cond_false, Bool.or_false, Bool.false_or, Bool.or_true, Bool.true_or, beq_iff_eq, true_and, and_true, true_or, or_true, forall_const, not_true_eq_false, not_false_eq_true, false_implies, implies_true, Nat.reduceEqDiff, List.length_nil, List.length_cons, ob_0, fv_0_0, fv_0_1, fv_0_2, fv_0_3, fv_0_4, fv_0_5, fv_0_6, fv_0_7, fv_0_8, fv_0_9, fs_0_9, fv_0_10, fs_0_10, kd_64, ln_64]
  have e9 := hM.2.2.2.1.1
  unfold x_row at h
  rw [e9]
  refine ⟨fun c => ⟨fun c2 => ?_, fun c2 => ⟨fun c3 => ⟨by omega, ?_⟩, fun c3 => ?_⟩⟩, fun c => ?_⟩
  · rw [if_neg (by omega), if_pos (by omega)] at h
    refine q8_no hM (by decide) (fun g' hE => ?_)
    simp only [e_go, rX8_row_0, rX8_row_1, rX8_row_4, rX8_row_5, rX8_row_7, rX8_row_10, rX8_row_11, rX8_row_12, rX8_row_15, rX8_row_18, rX8_row_19, rX8_row_22, rX8_row_23, rX8_row_26, rX8_row_27, rX8_row_29, rX8_row_32, rX8_row_33, rX8_row_34, rX8_row_37, rX8_row_38, rX8_row_41, rX8_row_42, rX8_row_43, rX8_row_44, rX8_row_45, rX8_row_48, rX8_row_49, rX8_row_50, rX8_row_53, rX8_row_54, rX8_row_57, e_ald0, e_bin, e_callV2, e_dupi, e_dupr, e_get, e_iast, e_icmp, e_if, e_ild1, e_push, e_pushn, e_pushs, e_put, e_ret, m_b0, m_b01, m_b1, m_em, Classical.not_not, Nat.reduceBEq, Nat.reduceLT, Nat.reduceLeDiff, Nat.reduceAdd, cond_true, cond_false, Bool.or_false, Bool.false_or, Bool.or_true, Bool.true_or, beq_iff_eq, true_and, and_true, true_or, or_true, forall_const, not_true_eq_false, not_false_eq_true, false_implies, implies_true, Nat.reduceEqDiff, List.length_nil, List.length_cons, ob_0, fv_0_0, fv_0_1, fv_0_2, fv_0_3, fv_0_4, fv_0_5, fv_0_6, fv_0_7, fv_0_8, fv_0_9, fs_0_9, fv_0_10, fs_0_10, kd_64, ln_64]
    exact h g' hE
  · rw [if_neg (by omega), if_neg (by omega)] at h
    simp only [m_upv, Nat.reduceEqDiff, false_and, reduceIte, e9]
    rw [m_w2 (x := A 66 34 + 1) (by omega) (by omega)]
    simp only [true_and, reduceIte]
    refine h _ ?_
    obtain ⟨⟨a1, a2⟩, ⟨b1, b2⟩, ⟨c1, c2'⟩, ⟨d1, d2⟩, e⟩ := hM
    have s1 : h_same g (m_up (m_up g 64 (A 66 34).toNat v) 0 9 (A 66 34 + 1)) 1 := fun j hj => by rw [m_up_ne (by omega), m_up_ne (by omega)]
    have s8 : h_same g (m_up (m_up g 64 (A 66 34).toNat v) 0 9 (A 66 34 + 1)) 8 := fun j hj => by rw [m_up_ne (by omega), m_up_ne (by omega)]
    have o : ∀ j, j ≠ 66 → j ≠ 90 → (m_up (m_up A 90 (A 66 34).toNat v) 66 34 (A 66 34 + 1)) j = A j := fun j hj h2 => by rw [m_up_ne hj, m_up_ne h2]
    have o66 : ∀ k, k ≠ 34 → (m_up (m_up A 90 (A 66 34).toNat v) 66 34 (A 66 34 + 1)) 66 k = A 66 k := fun k hk => by simp only [m_upv]; simp [hk]
    refine ⟨⟨⟨?_, a2.same s1⟩, ⟨?_, fun z => ?_⟩, ⟨?_, fun k hk => ?_⟩, ⟨?_, fun k hk => ?_⟩, fun k hk => ?_⟩, fun j hj => by rw [m_up_ne (by omega), m_up_ne (by omega)]⟩
    · simp only [o 68 (by decide) (by decide)]; exact a1.same s1
    · simp only [o66 5 (by decide)]; simp only [m_upv]; simp; exact b1
    · simp only [o66 5 (by decide), o 69 (by decide) (by decide)] at z ⊢; exact ⟨(b2 z).1.same s8, (b2 z).2.same s8⟩
    · simp only [o66 8 (by decide)]; simp only [m_upv]; simp; exact c1
    · simp only [o66 8 (by decide), o 72 (by decide) (by decide)] at hk ⊢; simp only [m_upv]; simp; exact c2' k hk
    · simp only [m_upv]; simp
    · simp only [m_upv]; simp; split; rfl; exact d2 k hk
    · simp only [o 67 (by decide) (by decide)]; simp only [m_upv]; simp; exact e k hk
  · rw [if_neg (by omega), if_pos (by omega)] at h
    refine q8_no hM (by decide) (fun g' hE => ?_)
    simp only [e_go, rX8_row_0, rX8_row_1, rX8_row_4, rX8_row_5, rX8_row_7, rX8_row_10, rX8_row_11, rX8_row_12, rX8_row_15, rX8_row_18, rX8_row_19, rX8_row_22, rX8_row_23, rX8_row_26, rX8_row_27, rX8_row_29, rX8_row_32, rX8_row_33, rX8_row_34, rX8_row_37, rX8_row_38, rX8_row_41, rX8_row_42, rX8_row_43, rX8_row_44, rX8_row_45, rX8_row_48, rX8_row_49, rX8_row_50, rX8_row_53, rX8_row_54, rX8_row_57, e_ald0, e_bin, e_callV2, e_dupi, e_dupr, e_get, e_iast, e_icmp, e_if, e_ild1, e_push, e_pushn, e_pushs, e_put, e_ret, m_b0, m_b01, m_b1, m_em, Classical.not_not, Nat.reduceBEq, Nat.reduceLT, Nat.reduceLeDiff, Nat.reduceAdd, cond_true, cond_false, Bool.or_false, Bool.false_or, Bool.or_true, Bool.true_or, beq_iff_eq, true_and, and_true, true_or, or_true, forall_const, not_true_eq_false, not_false_eq_true, false_implies, implies_true, Nat.reduceEqDiff, List.length_nil, List.length_cons, ob_0, fv_0_0, fv_0_1, fv_0_2, fv_0_3, fv_0_4, fv_0_5, fv_0_6, fv_0_7, fv_0_8, fv_0_9, fs_0_9, fv_0_10, fs_0_10, kd_64, ln_64]
    exact h g' hE
  · rw [if_pos (by omega)] at h
    refine q8_no hM (by decide) (fun g' hE => ?_)
    simp only [e_go, rX8_row_0, rX8_row_1, rX8_row_4, rX8_row_5, rX8_row_7, rX8_row_10, rX8_row_11, rX8_row_12, rX8_row_15, rX8_row_18, rX8_row_19, rX8_row_22, rX8_row_23, rX8_row_26, rX8_row_27, rX8_row_29, rX8_row_32, rX8_row_33, rX8_row_34, rX8_row_37, rX8_row_38, rX8_row_41, rX8_row_42, rX8_row_43, rX8_row_44, rX8_row_45, rX8_row_48, rX8_row_49, rX8_row_50, rX8_row_53, rX8_row_54, rX8_row_57, e_ald0, e_bin, e_callV2, e_dupi, e_dupr, e_get, e_iast, e_icmp, e_if, e_ild1, e_push, e_pushn, e_pushs, e_put, e_ret, m_b0, m_b01, m_b1, m_em, Classical.not_not, Nat.reduceBEq, Nat.reduceLT, Nat.reduceLeDiff, Nat.reduceAdd, cond_true, cond_false, Bool.or_false, Bool.false_or, Bool.or_true, Bool.true_or, beq_iff_eq, true_and, and_true, true_or, or_true, forall_const, not_true_eq_false, not_false_eq_true, false_implies, implies_true, Nat.reduceEqDiff, List.length_nil, List.length_cons, ob_0, fv_0_0, fv_0_1, fv_0_2, fv_0_3, fv_0_4, fv_0_5, fv_0_6, fv_0_7, fv_0_8, fv_0_9, fs_0_9, fv_0_10, fs_0_10, kd_64, ln_64]
    exact h g' hE
theorem h_Z.copy {g g' : m_G} {a b : Nat} (h : h_Z g a) (hc : h_cp g g' a b) : h_Z g' b := fun k hk => by rw [hc.2.2.2.2.2.1 k hk]; exact h k hk
theorem q8_image {g A : m_G} {q : m_Post} (hM : c_M g A) (h : ∀ g', k_E g g' (x_image A).2 → q (some (.inl (x_image A).1)) g') : wX8_image.1 [.inr (.inr 0)] g q := by
  obtain ⟨b, h1⟩ : ∃ b : Nat, b = 1 := ⟨1, rfl⟩
  have hb : m_hs b := Or.inl h1
  obtain ⟨c, h8⟩ : ∃ c : Nat, c = 8 := ⟨8, rfl⟩
  have hc : m_hs c := Or.inr (Or.inl h8)
  have hR : h_R g b (A 68) := h1 ▸ hM.1.1
  have hZ : h_Z g b := h1 ▸ hM.1.2
  refine m_wp_of (by simp [m_fit]) (fun J hJ => ?_)
  simp only [m_ini, Nat.reduceSub, List.replicate]
  refine m_run_ok hJ (fun _ => false) 60 _ _ _ _ ?_
  simp only [e_go, rX8_image_0, rX8_image_1, rX8_image_4, rX8_image_5, rX8_image_8, rX8_image_11, rX8_image_12, rX8_image_13, rX8_image_16, rX8_image_17, rX8_image_20, rX8_image_23, e_ald0, e_callV2, e_get, e_push, e_pushn, e_pushs, e_putz, e_ret, m_b0, m_b01, m_b1, m_em, Classical.not_not, Nat.reduceBEq, Nat.reduceLT, Nat.reduceLeDiff, Nat.reduceAdd, cond_true, cond_false, Bool.or_false, Bool.false_or, Bool.or_true, Bool.true_or, beq_iff_eq, true_and, and_true, true_or, or_true, forall_const, not_true_eq_false, not_false_eq_true, false_implies, implies_true, Nat.reduceEqDiff, List.length_nil, List.length_cons, ob_0, fv00 h1, fv01 h8, fv_0_10, fs_0_10, obH hb, fvH0 hb, fsH0 hb, fvH1 hb, fsH1 hb, fvH2 hb, fvH3 hb, fvH4 hb, fvH5 hb, fvH6 hb, fvH7 hb, kdH1 hb, lnH1 hb, ltH1 hb, kdH2 hb, lnH2 hb, ltH2 hb, kdH3 hb, lnH3 hb, ltH3 hb, kdH4 hb, lnH4 hb, ltH4 hb, kdH5 hb, lnH5 hb, ltH5 hb, kdH6 hb, lnH6 hb, ltH6 hb, obH hc, fvH0 hc, fsH0 hc, fvH1 hc, fsH1 hc, fvH2 hc, fvH3 hc, fvH4 hc, fvH5 hc, fvH6 hc, fvH7 hc, kdH1 hc, lnH1 hc, ltH1 hc, kdH2 hc, lnH2 hc, ltH2 hc, kdH3 hc, lnH3 hc, ltH3 hc, kdH4 hc, lnH4 hc, ltH4 hc, kdH5 hc, lnH5 hc, ltH5 hc, kdH6 hc, lnH6 hc, ltH6 hc]
  refine p_copy hc hb (by omega) (fun g' hcp => ?_)
  simp only [e_go, rX8_image_0, rX8_image_1, rX8_image_4, rX8_image_5, rX8_image_8, rX8_image_11, rX8_image_12, rX8_image_13, rX8_image_16, rX8_image_17, rX8_image_20, rX8_image_23, e_ald0, e_callV2, e_get, e_push, e_pushn, e_pushs, e_putz, e_ret, m_b0, m_b01, m_b1, m_em, Classical.not_not, Nat.reduceBEq, Nat.reduceLT, Nat.reduceLeDiff, Nat.reduceAdd, cond_true, cond_false, Bool.or_false, Bool.false_or, Bool.or_true, Bool.true_or, beq_iff_eq, true_and, and_true, true_or, or_true, forall_const, not_true_eq_false, not_false_eq_true, false_implies, implies_true, Nat.reduceEqDiff, List.length_nil, List.length_cons, ob_0, fv00 h1, fv01 h8, fv_0_10, fs_0_10, obH hb, fvH0 hb, fsH0 hb, fvH1 hb, fsH1 hb, fvH2 hb, fvH3 hb, fvH4 hb, fvH5 hb, fvH6 hb, fvH7 hb, kdH1 hb, lnH1 hb, ltH1 hb, kdH2 hb, lnH2 hb, ltH2 hb, kdH3 hb, lnH3 hb, ltH3 hb, kdH4 hb, lnH4 hb, ltH4 hb, kdH5 hb, lnH5 hb, ltH5 hb, kdH6 hb, lnH6 hb, ltH6 hb, obH hc, fvH0 hc, fsH0 hc, fvH1 hc, fsH1 hc, fvH2 hc, fvH3 hc, fvH4 hc, fvH5 hc, fvH6 hc, fvH7 hc, kdH1 hc, lnH1 hc, ltH1 hc, kdH2 hc, lnH2 hc, ltH2 hc, kdH3 hc, lnH3 hc, ltH3 hc, kdH4 hc, lnH4 hc, ltH4 hc, kdH5 hc, lnH5 hc, ltH5 hc, kdH6 hc, lnH6 hc, ltH6 hc]
  have hR8 := hR.copy hcp
  have hZ8 := hZ.copy hcp
  unfold x_image at h
  simp only [m_upv]
  have e1 : g' b 1 = A 68 1 := by rw [hcp.1 b (by omega)]; exact hR.1.2
  rw [if_neg (by omega), e1]
  refine h _ ?_
  subst h1; subst h8
  obtain ⟨⟨a1, a2⟩, ⟨b1, b2⟩, ⟨c1, c2⟩, ⟨d1, d2⟩, e⟩ := hM
  have s0 : ∀ j, j < 8 ∨ 15 ≤ j → j ≠ 0 → (m_up g' 0 10 1) j = g j := fun j hj h0 => by rw [m_up_ne h0]; exact hcp.1 j (by omega)
  have s1 : h_same g (m_up g' 0 10 1) 1 := fun j hj => s0 _ (by omega) (by omega)
  have s8 : h_same g' (m_up g' 0 10 1) 8 := fun j hj => m_up_ne (by omega)
  have o : ∀ j, j ≠ 66 → j ≠ 69 → (m_up (m_ce A 69 (A 68)) 66 5 1) j = A j := fun j hj h2 => by rw [m_up_ne hj, m_ce_ne h2]
  have o69 : (m_up (m_ce A 69 (A 68)) 66 5 1) 69 = A 68 := by rw [m_up_ne (by decide), m_ce_eq]
  have o66 : ∀ k, k ≠ 5 → (m_up (m_ce A 69 (A 68)) 66 5 1) 66 k = A 66 k := fun k hk => by rw [m_up_eq, m_un hk, m_ce_ne (by decide)]
  refine ⟨⟨⟨?_, a2.same s1⟩, ⟨?_, fun z => ?_⟩, ⟨?_, fun k hk => ?_⟩, ⟨?_, fun k hk => ?_⟩, fun k hk => ?_⟩, fun j hj => s0 j (by omega) (by omega)⟩
  · simp only [o 68 (by decide) (by decide)]; exact a1.same s1
  · simp only [m_upv]; simp
  · simp only [o69]; exact ⟨hR8.same s8, hZ8.same s8⟩
  · simp only [o66 8 (by decide)]; rw [s0 36 (by omega) (by omega)]; exact c1
  · simp only [o66 8 (by decide), o 72 (by decide) (by decide)] at hk ⊢; rw [s0 37 (by omega) (by omega)]; exact c2 k hk
  · simp only [o66 34 (by decide)]; rw [m_upv, if_neg (by decide), hcp.1 0 (by omega)]; exact d1
  · simp only [o 90 (by decide) (by decide)]; rw [s0 64 (by omega) (by omega)]; exact d2 k hk
  · simp only [o 67 (by decide) (by decide)]; rw [s0 65 (by omega) (by omega)]; exact e k hk
/-- h_R and rows alike below 64 -/
theorem h_R.low {g : m_G} {b : Nat} {s s' : Nat → Int} (h : h_R g b s) (hs : ∀ k, k < 64 → s' k = s k) : h_R g b s' := by
  obtain ⟨⟨a1, a2⟩, a3, a4, a5, a6⟩ := h
  unfold h_R
  rw [hs 0 (by omega), hs 1 (by omega)]
  refine ⟨⟨a1, a2⟩, a3, fun j hj => by rw [hs _ (by omega)]; exact a4 j hj, fun j hj => ?_, fun j hj => ⟨fun i hi => by rw [hs _ (by omega)]; exact (a6 j hj).1 i hi, by rw [hs _ (by omega)]; exact (a6 j hj).2⟩⟩
  obtain ⟨c1, c2, c3⟩ := a5 j hj
  rw [hs _ (by omega), hs _ (by omega)]
  exact ⟨c1, c2, fun i hi => by rw [hs _ (by omega)]; exact c3 i hi⟩
theorem q8_on {g A : m_G} {q : m_Post} (hM : c_M g A) (hb5 : A 66 5 = 0 ∨ A 66 5 = 1) (h : ∀ g', k_E g g' (x_on A).2 → q (some (.inl (x_on A).1)) g') : wX8_on.1 [.inr (.inr 0)] g q := by
  obtain ⟨b, h1⟩ : ∃ b : Nat, b = 1 := ⟨1, rfl⟩
  have hb : m_hs b := Or.inl h1
  obtain ⟨c, h8⟩ : ∃ c : Nat, c = 8 := ⟨8, rfl⟩
  have hc : m_hs c := Or.inr (Or.inl h8)
  refine m_wp_of (by simp [m_fit]) (fun J hJ => ?_)
  simp only [m_ini, Nat.reduceSub, List.replicate]
  refine m_run_ok hJ (fun _ => false) 60 _ _ _ _ ?_
  simp only [e_go, rX8_on_0, rX8_on_1, rX8_on_4, rX8_on_7, rX8_on_8, rX8_on_10, rX8_on_13, rX8_on_14, rX8_on_15, rX8_on_18, rX8_on_19, rX8_on_22, rX8_on_25, rX8_on_26, rX8_on_29, rX8_on_32, e_ald0, e_callV2, e_get, e_if, e_push, e_pushn, e_pushs, e_ret, m_b0, m_b01, m_b1, m_em, Classical.not_not, Nat.reduceBEq, Nat.reduceLT, Nat.reduceLeDiff, Nat.reduceAdd, cond_true, cond_false, Bool.or_false, Bool.false_or, Bool.or_true, Bool.true_or, beq_iff_eq, true_and, and_true, true_or, or_true, forall_const, not_true_eq_false, not_false_eq_true, false_implies, implies_true, Nat.reduceEqDiff, List.length_nil, List.length_cons, ob_0, fv00 h1, fv01 h8, fv_0_10, fs_0_10, obH hb, fvH0 hb, fsH0 hb, fvH1 hb, fsH1 hb, fvH2 hb, fvH3 hb, fvH4 hb, fvH5 hb, fvH6 hb, fvH7 hb, kdH1 hb, lnH1 hb, ltH1 hb, kdH2 hb, lnH2 hb, ltH2 hb, kdH3 hb, lnH3 hb, ltH3 hb, kdH4 hb, lnH4 hb, ltH4 hb, kdH5 hb, lnH5 hb, ltH5 hb, kdH6 hb, lnH6 hb, ltH6 hb, obH hc, fvH0 hc, fsH0 hc, fvH1 hc, fsH1 hc, fvH2 hc, fvH3 hc, fvH4 hc, fvH5 hc, fvH6 hc, fvH7 hc, kdH1 hc, lnH1 hc, ltH1 hc, kdH2 hc, lnH2 hc, ltH2 hc, kdH3 hc, lnH3 hc, ltH3 hc, kdH4 hc, lnH4 hc, ltH4 hc, kdH5 hc, lnH5 hc, ltH5 hc, kdH6 hc, lnH6 hc, ltH6 hc]
  unfold x_on at h
  rw [hM.2.1.1]
  refine ⟨fun c5 => ?_, fun c5 => ?_⟩
  · rw [if_neg c5] at h
    have hR : h_R g c (A 69) := h8 ▸ (hM.2.1.2 c5).1
    have hZ : h_Z g c := h8 ▸ (hM.2.1.2 c5).2
    refine p_copy hb hc (by omega) (fun g' hcp => ?_)
    simp only [e_go, rX8_on_0, rX8_on_1, rX8_on_4, rX8_on_7, rX8_on_8, rX8_on_10, rX8_on_13, rX8_on_14, rX8_on_15, rX8_on_18, rX8_on_19, rX8_on_22, rX8_on_25, rX8_on_26, rX8_on_29, rX8_on_32, e_ald0, e_callV2, e_get, e_if, e_push, e_pushn, e_pushs, e_ret, m_b0, m_b01, m_b1, m_em, Classical.not_not, Nat.reduceBEq, Nat.reduceLT, Nat.reduceLeDiff, Nat.reduceAdd, cond_true, cond_false, Bool.or_false, Bool.false_or, Bool.or_true, Bool.true_or, beq_iff_eq, true_and, and_true, true_or, or_true, forall_const, not_true_eq_false, not_false_eq_true, false_implies, implies_true, Nat.reduceEqDiff, List.length_nil, List.length_cons, ob_0, fv00 h1, fv01 h8, fv_0_10, fs_0_10, obH hb, fvH0 hb, fsH0 hb, fvH1 hb, fsH1 hb, fvH2 hb, fvH3 hb, fvH4 hb, fvH5 hb, fvH6 hb, fvH7 hb, kdH1 hb, lnH1 hb, ltH1 hb, kdH2 hb, lnH2 hb, ltH2 hb, kdH3 hb, lnH3 hb, ltH3 hb, kdH4 hb, lnH4 hb, ltH4 hb, kdH5 hb, lnH5 hb, ltH5 hb, kdH6 hb, lnH6 hb, ltH6 hb, obH hc, fvH0 hc, fsH0 hc, fvH1 hc, fsH1 hc, fvH2 hc, fvH3 hc, fvH4 hc, fvH5 hc, fvH6 hc, fvH7 hc, kdH1 hc, lnH1 hc, ltH1 hc, kdH2 hc, lnH2 hc, ltH2 hc, kdH3 hc, lnH3 hc, ltH3 hc, kdH4 hc, lnH4 hc, ltH4 hc, kdH5 hc, lnH5 hc, ltH5 hc, kdH6 hc, lnH6 hc, ltH6 hc]
    have hR1 := hR.copy hcp
    have hZ1 := hZ.copy hcp
    rw [hR1.1.2]
    refine h _ ?_
    subst h1; subst h8
    obtain ⟨⟨a1, a2⟩, ⟨b1, b2⟩, ⟨c1, c2⟩, ⟨d1, d2⟩, e⟩ := hM
    have s0 : ∀ j, j = 0 ∨ 8 ≤ j → g' j = g j := fun j hj => hcp.1 j (by omega)
    have s8 : h_same g g' 8 := fun j hj => s0 _ (by omega)
    have o : ∀ j, j ≠ 68 → (m_ce A 68 (fun k => if k < 64 then A 69 k else A 68 k)) j = A j := fun j hj => m_ce_ne hj
    refine ⟨⟨⟨?_, hZ1⟩, ⟨?_, fun z => ?_⟩, ⟨?_, fun k hk => ?_⟩, ⟨?_, fun k hk => ?_⟩, fun k hk => ?_⟩, fun j hj => s0 j (by omega)⟩
    · simp only [m_ce_eq]; exact hR1.low (fun k hk => by rw [if_pos hk])
    · simp only [o 66 (by decide)]; rw [s0 0 (by omega)]; exact b1
    · simp only [o 66 (by decide), o 69 (by decide)] at z ⊢; exact ⟨(b2 z).1.same s8, (b2 z).2.same s8⟩
    · simp only [o 66 (by decide)]; rw [s0 36 (by omega)]; exact c1
    · simp only [o 66 (by decide), o 72 (by decide)] at hk ⊢; rw [s0 37 (by omega)]; exact c2 k hk
    · simp only [o 66 (by decide)]; rw [s0 0 (by omega)]; exact d1
    · simp only [o 90 (by decide)]; rw [s0 64 (by omega)]; exact d2 k hk
    · simp only [o 67 (by decide)]; rw [s0 65 (by omega)]; exact e k hk
  · rw [if_pos (by omega)] at h
    refine q8_no hM (by decide) (fun g' hE => ?_)
    simp only [e_go, rX8_on_0, rX8_on_1, rX8_on_4, rX8_on_7, rX8_on_8, rX8_on_10, rX8_on_13, rX8_on_14, rX8_on_15, rX8_on_18, rX8_on_19, rX8_on_22, rX8_on_25, rX8_on_26, rX8_on_29, rX8_on_32, e_ald0, e_callV2, e_get, e_if, e_push, e_pushn, e_pushs, e_ret, m_b0, m_b01, m_b1, m_em, Classical.not_not, Nat.reduceBEq, Nat.reduceLT, Nat.reduceLeDiff, Nat.reduceAdd, cond_true, cond_false, Bool.or_false, Bool.false_or, Bool.or_true, Bool.true_or, beq_iff_eq, true_and, and_true, true_or, or_true, forall_const, not_true_eq_false, not_false_eq_true, false_implies, implies_true, Nat.reduceEqDiff, List.length_nil, List.length_cons, ob_0, fv00 h1, fv01 h8, fv_0_10, fs_0_10, obH hb, fvH0 hb, fsH0 hb, fvH1 hb, fsH1 hb, fvH2 hb, fvH3 hb, fvH4 hb, fvH5 hb, fvH6 hb, fvH7 hb, kdH1 hb, lnH1 hb, ltH1 hb, kdH2 hb, lnH2 hb, ltH2 hb, kdH3 hb, lnH3 hb, ltH3 hb, kdH4 hb, lnH4 hb, ltH4 hb, kdH5 hb, lnH5 hb, ltH5 hb, kdH6 hb, lnH6 hb, ltH6 hb, obH hc, fvH0 hc, fsH0 hc, fvH1 hc, fsH1 hc, fvH2 hc, fvH3 hc, fvH4 hc, fvH5 hc, fvH6 hc, fvH7 hc, kdH1 hc, lnH1 hc, ltH1 hc, kdH2 hc, lnH2 hc, ltH2 hc, kdH3 hc, lnH3 hc, ltH3 hc, kdH4 hc, lnH4 hc, ltH4 hc, kdH5 hc, lnH5 hc, ltH5 hc, kdH6 hc, lnH6 hc, ltH6 hc]
    exact h g' hE
theorem p6_take {n : Nat} {bt : Int64} {g : m_G} {T : Nat} {q : m_Post} (h36 : g 36 0 = (T : Int)) (hT : T + n ≤ 64) (hn : n ≤ 8) (h : ∀ g', (∀ j, j ≠ 36 → j ≠ 37 → g' j = g j) → g' 36 0 = ((T + n : Nat) : Int) → (∀ k, g' 37 k = if T ≤ k ∧ k < T + n then x_byte bt (k - T) else g 37 k) → q (some (.inl ((T + n : Nat) : Int))) g') : wX6_take.1 [.inr (.inr 36), .inl n, .inr (.inl bt)] g q := by
  refine m_wp_of (by simp [m_fit]) (fun J hJ => ?_)
  simp only [m_ini, Nat.reduceSub, List.replicate]
  have loop : ∀ (m i : Nat) (g1 : m_G), i + m = n → (∀ j, j ≠ 36 → j ≠ 37 → g1 j = g j) → g1 36 0 = ((T + i : Nat) : Int) → (∀ k, g1 37 k = if T ≤ k ∧ k < T + i then x_byte bt (k - T) else g 37 k) → J 3 [some (.inr (.inr 36)), some (.inl n), some (.inr (.inl bt)), none, some (.inl i)] [] g1 := by
    intro m
    induction m with
    | zero =>
      intro i g1 hi hO h0 hH
      have e : i = n := by omega
      subst e
      refine m_run_ok hJ (fun pc => pc == 3) 60 _ _ _ _ ?_
      simp only [e_go, rX6_take_0, rX6_take_1, rX6_take_3, rX6_take_5, rX6_take_6, rX6_take_9, rX6_take_10, rX6_take_13, rX6_take_15, rX6_take_18, rX6_take_19, rX6_take_22, rX6_take_23, rX6_take_26, rX6_take_27, rX6_take_29, rX6_take_31, rX6_take_32, rX6_take_33, rX6_take_36, rX6_take_37, rX6_take_38, rX6_take_39, rX6_take_40, rX6_take_41, rX6_take_44, rX6_take_45, rX6_take_46, rX6_take_49, rX6_take_52, rX6_take_55, rX6_take_56, rX6_take_59, e_ald0, e_bin, e_dupi, e_dupr, e_get, e_goto, e_iast, e_icmp, e_ild1, e_ild4, e_inc4, e_ist4, e_l2i, e_lbin, e_lld2, e_lshr, e_nl0, e_nl1, e_nl2, e_push, e_put, e_ret, m_b0, m_b01, m_b1, m_em, Classical.not_not, Nat.reduceBEq, Nat.reduceLT, Nat.reduceLeDiff, Nat.reduceAdd, cond_true, cond_false, Bool.or_false, Bool.false_or, Bool.or_true, Bool.true_or, beq_iff_eq, true_and, and_true, true_or, or_true, forall_const, not_true_eq_false, not_false_eq_true, false_implies, implies_true, Nat.reduceEqDiff, List.length_nil, List.length_cons, ob_36, fv_36_0, fs_36_0, fv_36_1, fv_36_2, fv_36_3, fv_36_4, fs_36_4, fv_36_5, fs_36_5, kd_37, ln_37, Int.toNat_natCast]
      rw [h0]
      exact ⟨fun _ => h g1 hO h0 hH, fun z => absurd z (by omega)⟩
    | succ m ih =>
      intro i g1 hi hO h0 hH
      refine m_run_ok hJ (fun pc => pc == 3) 60 _ _ _ _ ?_
      simp only [e_go, rX6_take_0, rX6_take_1, rX6_take_3, rX6_take_5, rX6_take_6, rX6_take_9, rX6_take_10, rX6_take_13, rX6_take_15, rX6_take_18, rX6_take_19, rX6_take_22, rX6_take_23, rX6_take_26, rX6_take_27, rX6_take_29, rX6_take_31, rX6_take_32, rX6_take_33, rX6_take_36, rX6_take_37, rX6_take_38, rX6_take_39, rX6_take_40, rX6_take_41, rX6_take_44, rX6_take_45, rX6_take_46, rX6_take_49, rX6_take_52, rX6_take_55, rX6_take_56, rX6_take_59, e_ald0, e_bin, e_dupi, e_dupr, e_get, e_goto, e_iast, e_icmp, e_ild1, e_ild4, e_inc4, e_ist4, e_l2i, e_lbin, e_lld2, e_lshr, e_nl0, e_nl1, e_nl2, e_push, e_put, e_ret, m_b0, m_b01, m_b1, m_em, Classical.not_not, Nat.reduceBEq, Nat.reduceLT, Nat.reduceLeDiff, Nat.reduceAdd, cond_true, cond_false, Bool.or_false, Bool.false_or, Bool.or_true, Bool.true_or, beq_iff_eq, true_and, and_true, true_or, or_true, forall_const, not_true_eq_false, not_false_eq_true, false_implies, implies_true, Nat.reduceEqDiff, List.length_nil, List.length_cons, ob_36, fv_36_0, fs_36_0, fv_36_1, fv_36_2, fv_36_3, fv_36_4, fs_36_4, fv_36_5, fs_36_5, kd_37, ln_37, Int.toNat_natCast]
      rw [h0, Int.toNat_natCast, m_w2 (x := (i : Int) + 1) (by omega) (by omega), m_up_ne (show (36 : Nat) ≠ 37 by decide), h0, m_w2 (x := ((T + i : Nat) : Int) + 1) (by omega) (by omega)]
      refine ⟨fun z => absurd z (by omega), fun _ => ⟨fun z => absurd z (by omega), fun _ => ⟨by omega, ?_⟩⟩⟩
      refine ih (i + 1) _ (by omega) (fun j h1 h2 => by rw [m_up_ne h1, m_up_ne h2]; exact hO j h1 h2) ?_ (fun k => ?_)
      · rw [m_up_eq, m_us]; omega
      · rw [m_up_ne (by decide), m_upv, hH]
        by_cases e : k = T + i
        · rw [if_pos ⟨rfl, e⟩, if_pos (by omega)]
          unfold x_byte
          rw [show k - T = i by omega]
        · rw [if_neg (fun z => e z.2)]
          by_cases e2 : T ≤ k ∧ k < T + i
          · rw [if_pos e2, if_pos (by omega)]
          · rw [if_neg e2, if_neg (by omega)]
  refine m_run_ok hJ (fun pc => pc == 3) 60 _ _ _ _ ?_
  simp only [e_go, rX6_take_0, rX6_take_1, rX6_take_3, rX6_take_5, rX6_take_6, rX6_take_9, rX6_take_10, rX6_take_13, rX6_take_15, rX6_take_18, rX6_take_19, rX6_take_22, rX6_take_23, rX6_take_26, rX6_take_27, rX6_take_29, rX6_take_31, rX6_take_32, rX6_take_33, rX6_take_36, rX6_take_37, rX6_take_38, rX6_take_39, rX6_take_40, rX6_take_41, rX6_take_44, rX6_take_45, rX6_take_46, rX6_take_49, rX6_take_52, rX6_take_55, rX6_take_56, rX6_take_59, e_ald0, e_bin, e_dupi, e_dupr, e_get, e_goto, e_iast, e_icmp, e_ild1, e_ild4, e_inc4, e_ist4, e_l2i, e_lbin, e_lld2, e_lshr, e_nl0, e_nl1, e_nl2, e_push, e_put, e_ret, m_b0, m_b01, m_b1, m_em, Classical.not_not, Nat.reduceBEq, Nat.reduceLT, Nat.reduceLeDiff, Nat.reduceAdd, cond_true, cond_false, Bool.or_false, Bool.false_or, Bool.or_true, Bool.true_or, beq_iff_eq, true_and, and_true, true_or, or_true, forall_const, not_true_eq_false, not_false_eq_true, false_implies, implies_true, Nat.reduceEqDiff, List.length_nil, List.length_cons, ob_36, fv_36_0, fs_36_0, fv_36_1, fv_36_2, fv_36_3, fv_36_4, fs_36_4, fv_36_5, fs_36_5, kd_37, ln_37, Int.toNat_natCast]
  exact loop n 0 g (by omega) (fun _ _ _ => rfl) h36 (fun k => by rw [if_neg (by omega)])
