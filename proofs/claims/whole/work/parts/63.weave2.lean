set_option maxRecDepth 20000
set_option maxHeartbeats 2000000
theorem m_mask : ∀ n : Nat, n < 64 → ∀ l : Nat, l < 6 → (0 ≤ m_ior n (m_ishl 1 l) ∧ m_ior n (m_ishl 1 l) < 64) ∧ ∀ j : Nat, j < 6 → (d_bit (m_ior n (m_ishl 1 l)) j ↔ j = l ∨ d_bit n j) := by decide +kernel
/-- the least weave known, its order -/
def wr_S (g : m_G) (L : Nat) (st : Int × List Nat) : Prop := g 66 31 = st.1 ∧ (0 ≤ st.1 → ∀ i, i < L → g 88 i = (st.2.getD i 0 : Int))
/-- what orders() leaves alone -/
def wr_F (g g' : m_G) (n : Nat) : Prop := (∀ j, j ≠ 66 → j ≠ 87 → j ≠ 88 → g' j = g j) ∧ (∀ k, k ≠ 31 → g' 66 k = g 66 k) ∧ ∀ i, i < n → g' 87 i = g 87 i
theorem wr_F.rfl' {g : m_G} {n : Nat} : wr_F g g n := ⟨fun _ _ _ _ => rfl, fun _ _ => rfl, fun _ _ => rfl⟩
theorem wr_F.trans {a b c : m_G} {n : Nat} (h : wr_F a b n) (h2 : wr_F b c n) : wr_F a c n := ⟨fun j h3 h4 h5 => (h2.1 j h3 h4 h5).trans (h.1 j h3 h4 h5), fun k hk => (h2.2.1 k hk).trans (h.2.1 k hk), fun i hi => (h2.2.2 i hi).trans (h.2.2 i hi)⟩
theorem p9_orders : ∀ (k d : Nat) (p : List Nat) (seen : Int) (st : Int × List Nat) {g : m_G} {s : Nat → Int} {q : m_Post}, k + 1 ≤ d → g 68 = s → h_W s → p.length + k = (s 1).toNat → (∀ x ∈ p, x < (s 1).toNat) → (∀ i, i < p.length → g 87 i = (p.getD i 0 : Int)) → (0 ≤ seen ∧ seen < 64) → (∀ j : Nat, j < 6 → (d_bit seen j ↔ j ∈ p)) → wr_S g (s 1).toNat st →
    (∀ g', wr_F g g' p.length → wr_S g' (s 1).toNat ((wo_l (s 1).toNat k p).foldl (fun st p => wo_1 s (s 1).toNat p st) st) → q none g') → (wX9_orders d).1 [.inr (.inr 66), .inl p.length, .inl seen] g q := by
  intro k
  induction k with
  | zero =>
    intro d p seen st g s q hd hs hW hp hx h87 hsn hbit hS h
    have hz := hW.1
    obtain ⟨d, rfl⟩ : ∃ m, d = m + 1 := ⟨d - 1, by omega⟩
    show (m_wp 5 (kX9_orders (wX9_orders d))).1 _ _ _
    generalize wX9_orders d = K
    refine m_wp_of (by simp [m_fit]) (fun J hJ => ?_)
    simp only [m_ini, Nat.reduceSub, List.replicate]
    simp only [wo_l, List.foldl_cons, List.foldl_nil] at h
    have hv : (s 1).toNat = p.length := by omega
    have hp0 : ∀ i : Nat, (i : Int) < s 1 → g 87 i = (p.getD i 0 : Int) ∧ ((p.getD i 0 : Nat) : Int) < s 1 := by
      intro i hi
      refine ⟨h87 i (by omega), ?_⟩
      have hm : p.getD i 0 ∈ p := by
        rw [List.getD_eq_getElem?_getD, List.getElem?_eq_getElem (show i < p.length by omega)]
        exact List.getElem_mem _
      have := hx _ hm
      omega
    have loop : ∀ (m i : Nat) (g1 : m_G), i + m = p.length → wr_F g g1 p.length → g1 66 31 = wvo s (fun i => p.getD i 0) (s 1).toNat → (∀ j, j < i → g1 88 j = (p.getD j 0 : Int)) → ¬ (0 ≤ st.1 ∧ st.1 ≤ wvo s (fun i => p.getD i 0) (s 1).toNat) → J 39 [some (.inr (.inr 66)), some (.inl p.length), some (.inl seen), some (.inl (wvo s (fun i => p.getD i 0) (s 1).toNat)), some (.inl i)] [] g1 := by
      intro m
      induction m with
      | zero =>
        intro i g1 hi hF h31 hH hno
        refine m_run_ok hJ (fun pc => pc == 39 || pc == 68) 60 _ _ _ _ ?_
        simp only [e_go, rX9_orders_0, rX9_orders_1, rX9_orders_2, rX9_orders_5, rX9_orders_6, rX9_orders_7, rX9_orders_10, rX9_orders_11, rX9_orders_14, rX9_orders_15, rX9_orders_16, rX9_orders_19, rX9_orders_22, rX9_orders_23, rX9_orders_24, rX9_orders_27, rX9_orders_30, rX9_orders_31, rX9_orders_32, rX9_orders_33, rX9_orders_36, rX9_orders_37, rX9_orders_39, rX9_orders_41, rX9_orders_42, rX9_orders_45, rX9_orders_46, rX9_orders_49, rX9_orders_51, rX9_orders_52, rX9_orders_55, rX9_orders_57, rX9_orders_58, rX9_orders_59, rX9_orders_62, rX9_orders_65, rX9_orders_66, rX9_orders_67, rX9_orders_68, rX9_orders_69, rX9_orders_70, rX9_orders_73, rX9_orders_74, rX9_orders_75, rX9_orders_78, rX9_orders_79, rX9_orders_80, rX9_orders_81, rX9_orders_82, rX9_orders_83, rX9_orders_84, rX9_orders_87, rX9_orders_90, rX9_orders_91, rX9_orders_94, rX9_orders_95, rX9_orders_96, rX9_orders_97, rX9_orders_98, rX9_orders_99, rX9_orders_100, rX9_orders_101, rX9_orders_102, rX9_orders_103, rX9_orders_104, rX9_orders_105, rX9_orders_106, rX9_orders_109, rX9_orders_112, rX9_orders_115, e_ald0, e_bin, e_callV1, e_callV3, e_get, e_goto, e_iald, e_iast, e_icmp, e_if, e_ild1, e_ild2, e_ild3, e_ild4, e_inc3, e_inc4, e_ist3, e_ist4, e_nl0, e_nl1, e_nl2, e_push, e_pushn, e_pushs, e_put, e_retv, m_b0, m_b01, m_b1, m_em, Classical.not_not, Nat.reduceBEq, Nat.reduceLT, Nat.reduceLeDiff, Nat.reduceAdd, cond_true, cond_false, Bool.or_false, Bool.false_or, Bool.or_true, Bool.true_or, beq_iff_eq, true_and, and_true, true_or, or_true, forall_const, not_true_eq_false, not_false_eq_true, false_implies, implies_true, Nat.reduceEqDiff, List.length_nil, List.length_cons, ob_66, fv_66_0, fv_66_1, fv_66_2, fv_66_3, fv_66_4, fv_66_5, fs_66_5, fv_66_6, fv_66_7, fv_66_8, fs_66_8, fv_66_9, fs_66_9, fv_66_10, fv_66_11, fv_66_12, fv_66_13, fv_66_14, fv_66_15, fv_66_16, fv_66_17, fv_66_18, fv_66_19, fv_66_20, fv_66_21, fv_66_22, fv_66_23, fs_66_23, fv_66_24, fs_66_24, fv_66_25, fs_66_25, fv_66_26, fs_66_26, fv_66_27, fs_66_27, fv_66_28, fs_66_28, fv_66_29, fv_66_30, fv_66_31, fs_66_31, fv_66_32, fv_66_33, fv_66_34, fs_66_34, kd_68, ln_68, kd_87, ln_87, kd_88, ln_88, Int.toNat_natCast, Int.toNat_one]
        refine ⟨fun _ => ?_, fun z => absurd z (by omega)⟩
        refine h g1 hF ?_
        unfold wo_1
        rw [if_neg hno]
        exact ⟨h31, fun _ j hj => hH j (by omega)⟩
      | succ m ih =>
        intro i g1 hi hF h31 hH hno
        refine m_run_ok hJ (fun pc => pc == 39 || pc == 68) 60 _ _ _ _ ?_
        simp only [e_go, rX9_orders_0, rX9_orders_1, rX9_orders_2, rX9_orders_5, rX9_orders_6, rX9_orders_7, rX9_orders_10, rX9_orders_11, rX9_orders_14, rX9_orders_15, rX9_orders_16, rX9_orders_19, rX9_orders_22, rX9_orders_23, rX9_orders_24, rX9_orders_27, rX9_orders_30, rX9_orders_31, rX9_orders_32, rX9_orders_33, rX9_orders_36, rX9_orders_37, rX9_orders_39, rX9_orders_41, rX9_orders_42, rX9_orders_45, rX9_orders_46, rX9_orders_49, rX9_orders_51, rX9_orders_52, rX9_orders_55, rX9_orders_57, rX9_orders_58, rX9_orders_59, rX9_orders_62, rX9_orders_65, rX9_orders_66, rX9_orders_67, rX9_orders_68, rX9_orders_69, rX9_orders_70, rX9_orders_73, rX9_orders_74, rX9_orders_75, rX9_orders_78, rX9_orders_79, rX9_orders_80, rX9_orders_81, rX9_orders_82, rX9_orders_83, rX9_orders_84, rX9_orders_87, rX9_orders_90, rX9_orders_91, rX9_orders_94, rX9_orders_95, rX9_orders_96, rX9_orders_97, rX9_orders_98, rX9_orders_99, rX9_orders_100, rX9_orders_101, rX9_orders_102, rX9_orders_103, rX9_orders_104, rX9_orders_105, rX9_orders_106, rX9_orders_109, rX9_orders_112, rX9_orders_115, e_ald0, e_bin, e_callV1, e_callV3, e_get, e_goto, e_iald, e_iast, e_icmp, e_if, e_ild1, e_ild2, e_ild3, e_ild4, e_inc3, e_inc4, e_ist3, e_ist4, e_nl0, e_nl1, e_nl2, e_push, e_pushn, e_pushs, e_put, e_retv, m_b0, m_b01, m_b1, m_em, Classical.not_not, Nat.reduceBEq, Nat.reduceLT, Nat.reduceLeDiff, Nat.reduceAdd, cond_true, cond_false, Bool.or_false, Bool.false_or, Bool.or_true, Bool.true_or, beq_iff_eq, true_and, and_true, true_or, or_true, forall_const, not_true_eq_false, not_false_eq_true, false_implies, implies_true, Nat.reduceEqDiff, List.length_nil, List.length_cons, ob_66, fv_66_0, fv_66_1, fv_66_2, fv_66_3, fv_66_4, fv_66_5, fs_66_5, fv_66_6, fv_66_7, fv_66_8, fs_66_8, fv_66_9, fs_66_9, fv_66_10, fv_66_11, fv_66_12, fv_66_13, fv_66_14, fv_66_15, fv_66_16, fv_66_17, fv_66_18, fv_66_19, fv_66_20, fv_66_21, fv_66_22, fv_66_23, fs_66_23, fv_66_24, fs_66_24, fv_66_25, fs_66_25, fv_66_26, fs_66_26, fv_66_27, fs_66_27, fv_66_28, fs_66_28, fv_66_29, fv_66_30, fv_66_31, fs_66_31, fv_66_32, fv_66_33, fv_66_34, fs_66_34, kd_68, ln_68, kd_87, ln_87, kd_88, ln_88, Int.toNat_natCast, Int.toNat_one]
        rw [m_w2 (x := (i : Int) + 1) (by omega) (by omega)]
        refine ⟨fun z => absurd z (by omega), fun _ => ⟨by omega, by omega, ?_⟩⟩
        refine ih (i + 1) (m_up g1 88 i (g1 87 i)) (by omega) (hF.trans ⟨fun j _ _ h3 => m_up_ne h3, fun k _ => by rw [m_up_ne (by decide)], fun j _ => by rw [m_up_ne (by decide)]⟩) (by rw [m_up_ne (by decide)]; exact h31) (fun j hj => ?_) hno
        rw [m_upv]
        by_cases e : j = i
        · rw [if_pos ⟨rfl, e⟩, e, hF.2.2 i (by omega)]; exact h87 i (by omega)
        · rw [if_neg (fun z => e z.2)]; exact hH j (by omega)
    refine m_run_ok hJ (fun pc => pc == 39 || pc == 68) 60 _ _ _ _ ?_
    simp only [e_go, rX9_orders_0, rX9_orders_1, rX9_orders_2, rX9_orders_5, rX9_orders_6, rX9_orders_7, rX9_orders_10, rX9_orders_11, rX9_orders_14, rX9_orders_15, rX9_orders_16, rX9_orders_19, rX9_orders_22, rX9_orders_23, rX9_orders_24, rX9_orders_27, rX9_orders_30, rX9_orders_31, rX9_orders_32, rX9_orders_33, rX9_orders_36, rX9_orders_37, rX9_orders_39, rX9_orders_41, rX9_orders_42, rX9_orders_45, rX9_orders_46, rX9_orders_49, rX9_orders_51, rX9_orders_52, rX9_orders_55, rX9_orders_57, rX9_orders_58, rX9_orders_59, rX9_orders_62, rX9_orders_65, rX9_orders_66, rX9_orders_67, rX9_orders_68, rX9_orders_69, rX9_orders_70, rX9_orders_73, rX9_orders_74, rX9_orders_75, rX9_orders_78, rX9_orders_79, rX9_orders_80, rX9_orders_81, rX9_orders_82, rX9_orders_83, rX9_orders_84, rX9_orders_87, rX9_orders_90, rX9_orders_91, rX9_orders_94, rX9_orders_95, rX9_orders_96, rX9_orders_97, rX9_orders_98, rX9_orders_99, rX9_orders_100, rX9_orders_101, rX9_orders_102, rX9_orders_103, rX9_orders_104, rX9_orders_105, rX9_orders_106, rX9_orders_109, rX9_orders_112, rX9_orders_115, e_ald0, e_bin, e_callV1, e_callV3, e_get, e_goto, e_iald, e_iast, e_icmp, e_if, e_ild1, e_ild2, e_ild3, e_ild4, e_inc3, e_inc4, e_ist3, e_ist4, e_nl0, e_nl1, e_nl2, e_push, e_pushn, e_pushs, e_put, e_retv, m_b0, m_b01, m_b1, m_em, Classical.not_not, Nat.reduceBEq, Nat.reduceLT, Nat.reduceLeDiff, Nat.reduceAdd, cond_true, cond_false, Bool.or_false, Bool.false_or, Bool.or_true, Bool.true_or, beq_iff_eq, true_and, and_true, true_or, or_true, forall_const, not_true_eq_false, not_false_eq_true, false_implies, implies_true, Nat.reduceEqDiff, List.length_nil, List.length_cons, ob_66, fv_66_0, fv_66_1, fv_66_2, fv_66_3, fv_66_4, fv_66_5, fs_66_5, fv_66_6, fv_66_7, fv_66_8, fs_66_8, fv_66_9, fs_66_9, fv_66_10, fv_66_11, fv_66_12, fv_66_13, fv_66_14, fv_66_15, fv_66_16, fv_66_17, fv_66_18, fv_66_19, fv_66_20, fv_66_21, fv_66_22, fv_66_23, fs_66_23, fv_66_24, fs_66_24, fv_66_25, fs_66_25, fv_66_26, fs_66_26, fv_66_27, fs_66_27, fv_66_28, fs_66_28, fv_66_29, fv_66_30, fv_66_31, fs_66_31, fv_66_32, fv_66_33, fv_66_34, fs_66_34, kd_68, ln_68, kd_87, ln_87, kd_88, ln_88, Int.toNat_natCast, Int.toNat_one]
    rw [hs]
    refine ⟨by omega, fun z => absurd (by omega) z, fun _ => ?_⟩
    refine p9_weaveOf hs hW hp0 ?_
    simp only [e_go, rX9_orders_0, rX9_orders_1, rX9_orders_2, rX9_orders_5, rX9_orders_6, rX9_orders_7, rX9_orders_10, rX9_orders_11, rX9_orders_14, rX9_orders_15, rX9_orders_16, rX9_orders_19, rX9_orders_22, rX9_orders_23, rX9_orders_24, rX9_orders_27, rX9_orders_30, rX9_orders_31, rX9_orders_32, rX9_orders_33, rX9_orders_36, rX9_orders_37, rX9_orders_39, rX9_orders_41, rX9_orders_42, rX9_orders_45, rX9_orders_46, rX9_orders_49, rX9_orders_51, rX9_orders_52, rX9_orders_55, rX9_orders_57, rX9_orders_58, rX9_orders_59, rX9_orders_62, rX9_orders_65, rX9_orders_66, rX9_orders_67, rX9_orders_68, rX9_orders_69, rX9_orders_70, rX9_orders_73, rX9_orders_74, rX9_orders_75, rX9_orders_78, rX9_orders_79, rX9_orders_80, rX9_orders_81, rX9_orders_82, rX9_orders_83, rX9_orders_84, rX9_orders_87, rX9_orders_90, rX9_orders_91, rX9_orders_94, rX9_orders_95, rX9_orders_96, rX9_orders_97, rX9_orders_98, rX9_orders_99, rX9_orders_100, rX9_orders_101, rX9_orders_102, rX9_orders_103, rX9_orders_104, rX9_orders_105, rX9_orders_106, rX9_orders_109, rX9_orders_112, rX9_orders_115, e_ald0, e_bin, e_callV1, e_callV3, e_get, e_goto, e_iald, e_iast, e_icmp, e_if, e_ild1, e_ild2, e_ild3, e_ild4, e_inc3, e_inc4, e_ist3, e_ist4, e_nl0, e_nl1, e_nl2, e_push, e_pushn, e_pushs, e_put, e_retv, m_b0, m_b01, m_b1, m_em, Classical.not_not, Nat.reduceBEq, Nat.reduceLT, Nat.reduceLeDiff, Nat.reduceAdd, cond_true, cond_false, Bool.or_false, Bool.false_or, Bool.or_true, Bool.true_or, beq_iff_eq, true_and, and_true, true_or, or_true, forall_const, not_true_eq_false, not_false_eq_true, false_implies, implies_true, Nat.reduceEqDiff, List.length_nil, List.length_cons, ob_66, fv_66_0, fv_66_1, fv_66_2, fv_66_3, fv_66_4, fv_66_5, fs_66_5, fv_66_6, fv_66_7, fv_66_8, fs_66_8, fv_66_9, fs_66_9, fv_66_10, fv_66_11, fv_66_12, fv_66_13, fv_66_14, fv_66_15, fv_66_16, fv_66_17, fv_66_18, fv_66_19, fv_66_20, fv_66_21, fv_66_22, fv_66_23, fs_66_23, fv_66_24, fs_66_24, fv_66_25, fs_66_25, fv_66_26, fs_66_26, fv_66_27, fs_66_27, fv_66_28, fs_66_28, fv_66_29, fv_66_30, fv_66_31, fs_66_31, fv_66_32, fv_66_33, fv_66_34, fs_66_34, kd_68, ln_68, kd_87, ln_87, kd_88, ln_88, Int.toNat_natCast, Int.toNat_one]
    have h31 := hS.1
    rw [h31]
    have wb := wv_b (s := s) (f := fun i => p.getD i 0) ((s 1).toNat - 1)
    change 0 ≤ wvo s (fun i => p.getD i 0) (s 1).toNat ∧ _ at wb
    have go : ¬ (0 ≤ st.1 ∧ st.1 ≤ wvo s (fun i => p.getD i 0) (s 1).toNat) → J 39 [some (.inr (.inr 66)), some (.inl p.length), some (.inl seen), some (.inl (wvo s (fun i => p.getD i 0) (s 1).toNat)), some (.inl (0 : Nat))] [] (m_up g 66 31 (wvo s (fun i => p.getD i 0) (s 1).toNat)) := fun hno => loop p.length 0 _ (by omega) ⟨fun j h1 _ _ => m_up_ne h1, fun k hk => by rw [m_up_eq, m_un hk], fun j _ => by rw [m_up_ne (by decide)]⟩ (by rw [m_up_eq, m_us]) (fun j hj => absurd hj (by omega)) hno
    refine ⟨fun c => go (fun z => by omega), fun c => ⟨fun c2 => go (fun z => by omega), fun c2 => ?_⟩⟩
    refine h g wr_F.rfl' ?_
    unfold wo_1
    rw [if_pos ⟨by omega, by omega⟩]
    exact hS
  | succ k ih =>
    intro d p seen st g s q hd hs hW hp hx h87 hsn hbit hS h
    have hz := hW.1
    obtain ⟨d, rfl⟩ : ∃ m, d = m + 1 := ⟨d - 1, by omega⟩
    show (m_wp 5 (kX9_orders (wX9_orders d))).1 _ _ _
    have ih := fun (p : List Nat) (seen : Int) (st : Int × List Nat) {g : m_G} {q : m_Post} => ih d p seen st (g := g) (s := s) (q := q) (by omega)
    generalize wX9_orders d = K at ih ⊢
    refine m_wp_of (by simp [m_fit]) (fun J hJ => ?_)
    simp only [m_ini, Nat.reduceSub, List.replicate]
    have loop : ∀ (m l : Nat) (g1 : m_G), l + m = (s 1).toNat → wr_F g g1 p.length → wr_S g1 (s 1).toNat (((List.range l).flatMap fun l => if l ∈ p then [] else wo_l (s 1).toNat k (p ++ [l])).foldl (fun st p => wo_1 s (s 1).toNat p st) st) → J 68 [some (.inr (.inr 66)), some (.inl p.length), some (.inl seen), some (.inl l), none] [] g1 := by
      intro m
      induction m with
      | zero =>
        intro l g1 hl hF hS1
        have es : g1 68 = s := (hF.1 68 (by decide) (by decide) (by decide)).trans hs
        refine m_run_ok hJ (fun pc => pc == 39 || pc == 68) 60 _ _ _ _ ?_
        simp only [e_go, rX9_orders_0, rX9_orders_1, rX9_orders_2, rX9_orders_5, rX9_orders_6, rX9_orders_7, rX9_orders_10, rX9_orders_11, rX9_orders_14, rX9_orders_15, rX9_orders_16, rX9_orders_19, rX9_orders_22, rX9_orders_23, rX9_orders_24, rX9_orders_27, rX9_orders_30, rX9_orders_31, rX9_orders_32, rX9_orders_33, rX9_orders_36, rX9_orders_37, rX9_orders_39, rX9_orders_41, rX9_orders_42, rX9_orders_45, rX9_orders_46, rX9_orders_49, rX9_orders_51, rX9_orders_52, rX9_orders_55, rX9_orders_57, rX9_orders_58, rX9_orders_59, rX9_orders_62, rX9_orders_65, rX9_orders_66, rX9_orders_67, rX9_orders_68, rX9_orders_69, rX9_orders_70, rX9_orders_73, rX9_orders_74, rX9_orders_75, rX9_orders_78, rX9_orders_79, rX9_orders_80, rX9_orders_81, rX9_orders_82, rX9_orders_83, rX9_orders_84, rX9_orders_87, rX9_orders_90, rX9_orders_91, rX9_orders_94, rX9_orders_95, rX9_orders_96, rX9_orders_97, rX9_orders_98, rX9_orders_99, rX9_orders_100, rX9_orders_101, rX9_orders_102, rX9_orders_103, rX9_orders_104, rX9_orders_105, rX9_orders_106, rX9_orders_109, rX9_orders_112, rX9_orders_115, e_ald0, e_bin, e_callV1, e_callV3, e_get, e_goto, e_iald, e_iast, e_icmp, e_if, e_ild1, e_ild2, e_ild3, e_ild4, e_inc3, e_inc4, e_ist3, e_ist4, e_nl0, e_nl1, e_nl2, e_push, e_pushn, e_pushs, e_put, e_retv, m_b0, m_b01, m_b1, m_em, Classical.not_not, Nat.reduceBEq, Nat.reduceLT, Nat.reduceLeDiff, Nat.reduceAdd, cond_true, cond_false, Bool.or_false, Bool.false_or, Bool.or_true, Bool.true_or, beq_iff_eq, true_and, and_true, true_or, or_true, forall_const, not_true_eq_false, not_false_eq_true, false_implies, implies_true, Nat.reduceEqDiff, List.length_nil, List.length_cons, ob_66, fv_66_0, fv_66_1, fv_66_2, fv_66_3, fv_66_4, fv_66_5, fs_66_5, fv_66_6, fv_66_7, fv_66_8, fs_66_8, fv_66_9, fs_66_9, fv_66_10, fv_66_11, fv_66_12, fv_66_13, fv_66_14, fv_66_15, fv_66_16, fv_66_17, fv_66_18, fv_66_19, fv_66_20, fv_66_21, fv_66_22, fv_66_23, fs_66_23, fv_66_24, fs_66_24, fv_66_25, fs_66_25, fv_66_26, fs_66_26, fv_66_27, fs_66_27, fv_66_28, fs_66_28, fv_66_29, fv_66_30, fv_66_31, fs_66_31, fv_66_32, fv_66_33, fv_66_34, fs_66_34, kd_68, ln_68, kd_87, ln_87, kd_88, ln_88, Int.toNat_natCast, Int.toNat_one]
        rw [es]
        refine ⟨by omega, fun _ => ?_, fun z => absurd z (by omega)⟩
        refine h g1 hF ?_
        rw [show l = (s 1).toNat by omega] at hS1
        exact hS1
      | succ m jh =>
        intro l g1 hl hF hS1
        have es : g1 68 = s := (hF.1 68 (by decide) (by decide) (by decide)).trans hs
        have nx := fun g2 hF2 hS2 => jh (l + 1) g2 (by omega) hF2 hS2
        simp only [List.range_succ, List.flatMap_append, List.foldl_append, List.flatMap_cons, List.flatMap_nil, List.append_nil] at nx
        have hb := hbit l (by omega)
        refine m_run_ok hJ (fun pc => pc == 39 || pc == 68) 60 _ _ _ _ ?_
        simp only [e_go, rX9_orders_0, rX9_orders_1, rX9_orders_2, rX9_orders_5, rX9_orders_6, rX9_orders_7, rX9_orders_10, rX9_orders_11, rX9_orders_14, rX9_orders_15, rX9_orders_16, rX9_orders_19, rX9_orders_22, rX9_orders_23, rX9_orders_24, rX9_orders_27, rX9_orders_30, rX9_orders_31, rX9_orders_32, rX9_orders_33, rX9_orders_36, rX9_orders_37, rX9_orders_39, rX9_orders_41, rX9_orders_42, rX9_orders_45, rX9_orders_46, rX9_orders_49, rX9_orders_51, rX9_orders_52, rX9_orders_55, rX9_orders_57, rX9_orders_58, rX9_orders_59, rX9_orders_62, rX9_orders_65, rX9_orders_66, rX9_orders_67, rX9_orders_68, rX9_orders_69, rX9_orders_70, rX9_orders_73, rX9_orders_74, rX9_orders_75, rX9_orders_78, rX9_orders_79, rX9_orders_80, rX9_orders_81, rX9_orders_82, rX9_orders_83, rX9_orders_84, rX9_orders_87, rX9_orders_90, rX9_orders_91, rX9_orders_94, rX9_orders_95, rX9_orders_96, rX9_orders_97, rX9_orders_98, rX9_orders_99, rX9_orders_100, rX9_orders_101, rX9_orders_102, rX9_orders_103, rX9_orders_104, rX9_orders_105, rX9_orders_106, rX9_orders_109, rX9_orders_112, rX9_orders_115, e_ald0, e_bin, e_callV1, e_callV3, e_get, e_goto, e_iald, e_iast, e_icmp, e_if, e_ild1, e_ild2, e_ild3, e_ild4, e_inc3, e_inc4, e_ist3, e_ist4, e_nl0, e_nl1, e_nl2, e_push, e_pushn, e_pushs, e_put, e_retv, m_b0, m_b01, m_b1, m_em, Classical.not_not, Nat.reduceBEq, Nat.reduceLT, Nat.reduceLeDiff, Nat.reduceAdd, cond_true, cond_false, Bool.or_false, Bool.false_or, Bool.or_true, Bool.true_or, beq_iff_eq, true_and, and_true, true_or, or_true, forall_const, not_true_eq_false, not_false_eq_true, false_implies, implies_true, Nat.reduceEqDiff, List.length_nil, List.length_cons, ob_66, fv_66_0, fv_66_1, fv_66_2, fv_66_3, fv_66_4, fv_66_5, fs_66_5, fv_66_6, fv_66_7, fv_66_8, fs_66_8, fv_66_9, fs_66_9, fv_66_10, fv_66_11, fv_66_12, fv_66_13, fv_66_14, fv_66_15, fv_66_16, fv_66_17, fv_66_18, fv_66_19, fv_66_20, fv_66_21, fv_66_22, fv_66_23, fs_66_23, fv_66_24, fs_66_24, fv_66_25, fs_66_25, fv_66_26, fs_66_26, fv_66_27, fs_66_27, fv_66_28, fs_66_28, fv_66_29, fv_66_30, fv_66_31, fs_66_31, fv_66_32, fv_66_33, fv_66_34, fs_66_34, kd_68, ln_68, kd_87, ln_87, kd_88, ln_88, Int.toNat_natCast, Int.toNat_one]
        rw [es, m_w2 (x := (l : Int) + 1) (by omega) (by omega), m_w2 (x := (p.length : Int) + 1) (by omega) (by omega)]
        rw [show (l : Int) + 1 = ((l + 1 : Nat) : Int) by omega]
        refine ⟨by omega, fun z => absurd z (by omega), fun _ => ⟨fun c => ⟨by omega, ?_⟩, fun c => ?_⟩⟩
        · have hnp : ¬ l ∈ p := fun z => c (hb.2 z)
          rw [if_neg hnp] at nx
          have hlp : (p ++ [l]).length = p.length + 1 := by rw [List.length_append]; rfl
          have hmk := m_mask seen.toNat (by omega) l (by omega)
          rw [Int.toNat_of_nonneg hsn.1] at hmk
          have hr := ih (p ++ [l]) (m_ior seen (m_ishl 1 l)) (((List.range l).flatMap fun l => if l ∈ p then [] else wo_l (s 1).toNat k (p ++ [l])).foldl (fun st p => wo_1 s (s 1).toNat p st) st) (g := m_up g1 87 p.length l) (q := fun x g' => J 68 [some (.inr (.inr 66)), some (.inl p.length), some (.inl seen), some (.inl ((l + 1 : Nat) : Int)), none] (m_push x []) g') ((m_up_ne (by decide)).trans es) hW (by omega) (fun x hx' => ?_) (fun i hi => ?_) hmk.1 (fun j hj => ?_) ?_ (fun g' hF' hS' => ?_)
          · rw [hlp] at hr
            exact hr
          · rcases List.mem_append.mp hx' with y | y
            · exact hx x y
            · rw [List.mem_singleton.mp y]; omega
          · rw [m_upv]
            by_cases e : i = p.length
            · rw [if_pos ⟨rfl, e⟩, e]
              simp
            · rw [if_neg (fun z => e z.2), hF.2.2 i (by omega), h87 i (by omega)]
              simp only [List.getD_eq_getElem?_getD]
              rw [List.getElem?_append_left (by omega)]
          · rw [(hmk.2 j hj)]
            simp only [List.mem_append, List.mem_singleton]
            constructor
            · rintro (y | y)
              · exact Or.inr y
              · exact Or.inl ((hbit j hj).1 y)
            · rintro (y | y)
              · exact Or.inr ((hbit j hj).2 y)
              · exact Or.inl y
          · refine ⟨by rw [m_up_ne (by decide)]; exact hS1.1, fun z i hi => by rw [m_up_ne (by decide)]; exact hS1.2 z i hi⟩
          · simp only [e_go, rX9_orders_0, rX9_orders_1, rX9_orders_2, rX9_orders_5, rX9_orders_6, rX9_orders_7, rX9_orders_10, rX9_orders_11, rX9_orders_14, rX9_orders_15, rX9_orders_16, rX9_orders_19, rX9_orders_22, rX9_orders_23, rX9_orders_24, rX9_orders_27, rX9_orders_30, rX9_orders_31, rX9_orders_32, rX9_orders_33, rX9_orders_36, rX9_orders_37, rX9_orders_39, rX9_orders_41, rX9_orders_42, rX9_orders_45, rX9_orders_46, rX9_orders_49, rX9_orders_51, rX9_orders_52, rX9_orders_55, rX9_orders_57, rX9_orders_58, rX9_orders_59, rX9_orders_62, rX9_orders_65, rX9_orders_66, rX9_orders_67, rX9_orders_68, rX9_orders_69, rX9_orders_70, rX9_orders_73, rX9_orders_74, rX9_orders_75, rX9_orders_78, rX9_orders_79, rX9_orders_80, rX9_orders_81, rX9_orders_82, rX9_orders_83, rX9_orders_84, rX9_orders_87, rX9_orders_90, rX9_orders_91, rX9_orders_94, rX9_orders_95, rX9_orders_96, rX9_orders_97, rX9_orders_98, rX9_orders_99, rX9_orders_100, rX9_orders_101, rX9_orders_102, rX9_orders_103, rX9_orders_104, rX9_orders_105, rX9_orders_106, rX9_orders_109, rX9_orders_112, rX9_orders_115, e_ald0, e_bin, e_callV1, e_callV3, e_get, e_goto, e_iald, e_iast, e_icmp, e_if, e_ild1, e_ild2, e_ild3, e_ild4, e_inc3, e_inc4, e_ist3, e_ist4, e_nl0, e_nl1, e_nl2, e_push, e_pushn, e_pushs, e_put, e_retv, m_b0, m_b01, m_b1, m_em, Classical.not_not, Nat.reduceBEq, Nat.reduceLT, Nat.reduceLeDiff, Nat.reduceAdd, cond_true, cond_false, Bool.or_false, Bool.false_or, Bool.or_true, Bool.true_or, beq_iff_eq, true_and, and_true, true_or, or_true, forall_const, not_true_eq_false, not_false_eq_true, false_implies, implies_true, Nat.reduceEqDiff, List.length_nil, List.length_cons, ob_66, fv_66_0, fv_66_1, fv_66_2, fv_66_3, fv_66_4, fv_66_5, fs_66_5, fv_66_6, fv_66_7, fv_66_8, fs_66_8, fv_66_9, fs_66_9, fv_66_10, fv_66_11, fv_66_12, fv_66_13, fv_66_14, fv_66_15, fv_66_16, fv_66_17, fv_66_18, fv_66_19, fv_66_20, fv_66_21, fv_66_22, fv_66_23, fs_66_23, fv_66_24, fs_66_24, fv_66_25, fs_66_25, fv_66_26, fs_66_26, fv_66_27, fs_66_27, fv_66_28, fs_66_28, fv_66_29, fv_66_30, fv_66_31, fs_66_31, fv_66_32, fv_66_33, fv_66_34, fs_66_34, kd_68, ln_68, kd_87, ln_87, kd_88, ln_88, Int.toNat_natCast, Int.toNat_one]
            refine nx g' (hF.trans (wr_F.trans (b := m_up g1 87 p.length l) ⟨fun j _ h2 _ => m_up_ne h2, fun k _ => by rw [m_up_ne (by decide)], fun i hi => by rw [m_upv, if_neg (by omega)]⟩ ⟨hF'.1, hF'.2.1, fun i hi => hF'.2.2 i (by omega)⟩)) hS'
        · rw [if_pos (hb.1 c)] at nx
          exact nx g1 hF hS1
    refine m_run_ok hJ (fun pc => pc == 39 || pc == 68) 60 _ _ _ _ ?_
    simp only [e_go, rX9_orders_0, rX9_orders_1, rX9_orders_2, rX9_orders_5, rX9_orders_6, rX9_orders_7, rX9_orders_10, rX9_orders_11, rX9_orders_14, rX9_orders_15, rX9_orders_16, rX9_orders_19, rX9_orders_22, rX9_orders_23, rX9_orders_24, rX9_orders_27, rX9_orders_30, rX9_orders_31, rX9_orders_32, rX9_orders_33, rX9_orders_36, rX9_orders_37, rX9_orders_39, rX9_orders_41, rX9_orders_42, rX9_orders_45, rX9_orders_46, rX9_orders_49, rX9_orders_51, rX9_orders_52, rX9_orders_55, rX9_orders_57, rX9_orders_58, rX9_orders_59, rX9_orders_62, rX9_orders_65, rX9_orders_66, rX9_orders_67, rX9_orders_68, rX9_orders_69, rX9_orders_70, rX9_orders_73, rX9_orders_74, rX9_orders_75, rX9_orders_78, rX9_orders_79, rX9_orders_80, rX9_orders_81, rX9_orders_82, rX9_orders_83, rX9_orders_84, rX9_orders_87, rX9_orders_90, rX9_orders_91, rX9_orders_94, rX9_orders_95, rX9_orders_96, rX9_orders_97, rX9_orders_98, rX9_orders_99, rX9_orders_100, rX9_orders_101, rX9_orders_102, rX9_orders_103, rX9_orders_104, rX9_orders_105, rX9_orders_106, rX9_orders_109, rX9_orders_112, rX9_orders_115, e_ald0, e_bin, e_callV1, e_callV3, e_get, e_goto, e_iald, e_iast, e_icmp, e_if, e_ild1, e_ild2, e_ild3, e_ild4, e_inc3, e_inc4, e_ist3, e_ist4, e_nl0, e_nl1, e_nl2, e_push, e_pushn, e_pushs, e_put, e_retv, m_b0, m_b01, m_b1, m_em, Classical.not_not, Nat.reduceBEq, Nat.reduceLT, Nat.reduceLeDiff, Nat.reduceAdd, cond_true, cond_false, Bool.or_false, Bool.false_or, Bool.or_true, Bool.true_or, beq_iff_eq, true_and, and_true, true_or, or_true, forall_const, not_true_eq_false, not_false_eq_true, false_implies, implies_true, Nat.reduceEqDiff, List.length_nil, List.length_cons, ob_66, fv_66_0, fv_66_1, fv_66_2, fv_66_3, fv_66_4, fv_66_5, fs_66_5, fv_66_6, fv_66_7, fv_66_8, fs_66_8, fv_66_9, fs_66_9, fv_66_10, fv_66_11, fv_66_12, fv_66_13, fv_66_14, fv_66_15, fv_66_16, fv_66_17, fv_66_18, fv_66_19, fv_66_20, fv_66_21, fv_66_22, fv_66_23, fs_66_23, fv_66_24, fs_66_24, fv_66_25, fs_66_25, fv_66_26, fs_66_26, fv_66_27, fs_66_27, fv_66_28, fs_66_28, fv_66_29, fv_66_30, fv_66_31, fs_66_31, fv_66_32, fv_66_33, fv_66_34, fs_66_34, kd_68, ln_68, kd_87, ln_87, kd_88, ln_88, Int.toNat_natCast, Int.toNat_one]
    rw [hs]
    refine ⟨by omega, fun _ => ?_, fun z => absurd z (by omega)⟩
    exact loop (s 1).toNat 0 g (by omega) wr_F.rfl' hS
