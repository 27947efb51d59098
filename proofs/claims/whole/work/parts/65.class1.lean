set_option maxRecDepth 20000
set_option maxHeartbeats 2000000
/-- the class's cells hold the state A -/
def c_M (g A : m_G) : Prop :=
  (h_R g 1 (A 68) ∧ h_Z g 1) ∧ (g 0 10 = A 66 5 ∧ (¬ A 66 5 = 0 → h_R g 8 (A 69) ∧ h_Z g 8)) ∧
  (g 36 0 = A 66 8 ∧ ∀ k : Nat, (k : Int) < A 66 8 → g 37 k = A 72 k) ∧
  (g 0 9 = A 66 34 ∧ ∀ k, k < 5 → g 64 k = A 90 k) ∧ ∀ k, k < 7 → g 65 k = A 67 k
def k_E (g g' A' : m_G) : Prop := c_M g' A' ∧ ∀ j, 66 ≤ j → g' j = g j
def c_same (g g' : m_G) : Prop := ∀ j, (j < 15 ∨ j = 36 ∨ j = 37 ∨ 64 ≤ j) → g' j = g j
theorem c_same.trans {a b c : m_G} (h : c_same a b) (h2 : c_same b c) : c_same a c := fun j hj => (h2 j hj).trans (h j hj)
theorem k_F.c {g g' : m_G} (h : k_F g g') : c_same g g' := fun j hj => h j (by omega)
theorem h_Z.same {g g' : m_G} {b : Nat} (h : h_Z g b) (hs : h_same g g' b) : h_Z g' b := fun k hk => by rw [hs 4 (by omega)]; exact h k hk
theorem c_M.same {g g' A : m_G} (h : c_M g A) (hs : c_same g g') : k_E g g' A := by
  obtain ⟨⟨a1, a2⟩, ⟨b1, b2⟩, ⟨c1, c2⟩, ⟨d1, d2⟩, e⟩ := h
  have s1 : h_same g g' 1 := fun j hj => hs _ (by omega)
  have s8 : h_same g g' 8 := fun j hj => hs _ (by omega)
  refine ⟨⟨⟨a1.same s1, a2.same s1⟩, ⟨by rw [hs 0 (by omega)]; exact b1, fun z => ⟨(b2 z).1.same s8, (b2 z).2.same s8⟩⟩, ⟨by rw [hs 36 (by omega)]; exact c1, fun k hk => by rw [hs 37 (by omega)]; exact c2 k hk⟩, ⟨by rw [hs 0 (by omega)]; exact d1, fun k hk => by rw [hs 64 (by omega)]; exact d2 k hk⟩, fun k hk => by rw [hs 65 (by omega)]; exact e k hk⟩, fun j hj => hs j (by omega)⟩
theorem k_F.h {g g' : m_G} {b : Nat} (hb : m_hs b) (h : k_F g g') : h_same g g' b := fun j hj => h _ (by unfold m_hs at hb; omega)
theorem fv00 {b : Nat} (h : b = 1) {g : m_G} : m_fv 0 0 g = .inr (.inr b) := by rw [h]; rfl
theorem fv01 {b : Nat} (h : b = 8) {g : m_G} : m_fv 0 1 g = .inr (.inr b) := by rw [h]; rfl
theorem fv58 {b : Nat} (h : b = 22) {g : m_G} : m_fv 58 0 g = .inr (.inr b) := by rw [h]; rfl
theorem fv36 {b : Nat} (h : b = 15) {g : m_G} : m_fv 36 3 g = .inr (.inr b) := by rw [h]; rfl
theorem q8_no {g A : m_G} {c : Int} {q : m_Post} (hM : c_M g A) (hc : -6 ≤ c ∧ c ≤ -1) (h : ∀ g', k_E g g' (x_no A c).2 → q (some (.inl (x_no A c).1)) g') : wX8_refuse.1 [.inr (.inr 0), .inl c] g q := by
  refine m_wp_of (by simp [m_fit]) (fun J hJ => ?_)
  simp only [m_ini, Nat.reduceSub, List.replicate]
  refine m_run_ok hJ (fun _ => false) 40 _ _ _ _ ?_
  simp only [e_go, rX8_refuse_0, rX8_refuse_1, rX8_refuse_2, rX8_refuse_3, rX8_refuse_4, rX8_refuse_5, rX8_refuse_8, rX8_refuse_9, rX8_refuse_11, rX8_refuse_14, rX8_refuse_15, rX8_refuse_18, rX8_refuse_19, rX8_refuse_20, rX8_refuse_21, rX8_refuse_22, rX8_refuse_23, rX8_refuse_24, rX8_refuse_25, e_ald0, e_bin, e_dup2, e_get, e_iald, e_iast, e_icmp, e_ild1, e_ild2, e_ist2, e_neg, e_nl0, e_nl1, e_nl2, e_push, e_ret, m_b0, m_b01, m_b1, m_em, Classical.not_not, Nat.reduceBEq, Nat.reduceLT, Nat.reduceLeDiff, Nat.reduceAdd, cond_true, cond_false, Bool.or_false, Bool.false_or, Bool.or_true, Bool.true_or, beq_iff_eq, true_and, and_true, true_or, or_true, forall_const, not_true_eq_false, not_false_eq_true, false_implies, implies_true, Nat.reduceEqDiff, List.length_nil, List.length_cons, ob_0, fv_0_0, fv_0_1, fv_0_2, fv_0_3, fv_0_4, fv_0_5, fv_0_6, fv_0_7, fv_0_8, fv_0_9, fs_0_9, fv_0_10, fs_0_10, kd_65, ln_65]
  rw [m_w1 (x := -c) (by omega) (by omega)]
  refine ⟨fun z => absurd z (by omega), fun _ => ⟨fun z => absurd z (by omega), fun _ => ⟨by omega, by omega, ?_⟩⟩⟩
  refine h _ ?_
  obtain ⟨⟨a1, a2⟩, ⟨b1, b2⟩, ⟨c1, c2⟩, ⟨d1, d2⟩, e⟩ := hM
  have s1 : h_same g (m_up g 65 (-c).toNat (m_wrap (g 65 (-c).toNat + 1))) 1 := fun j hj => m_up_ne (by omega)
  have s8 : h_same g (m_up g 65 (-c).toNat (m_wrap (g 65 (-c).toNat + 1))) 8 := fun j hj => m_up_ne (by omega)
  unfold x_no
  have o : ∀ j, j ≠ 67 → (m_up A 67 (-c).toNat (m_wrap (A 67 (-c).toNat + 1))) j = A j := fun j hj => m_up_ne hj
  refine ⟨⟨⟨?_, a2.same s1⟩, ⟨?_, fun z => ?_⟩, ⟨?_, fun k hk => ?_⟩, ⟨?_, fun k hk => ?_⟩, fun k hk => ?_⟩, fun j hj => m_up_ne (by omega)⟩
  · simp only [o 68 (by decide)]; exact a1.same s1
  · simp only [o 66 (by decide)]; rw [m_up_ne (by decide)]; exact b1
  · simp only [o 66 (by decide), o 69 (by decide)] at z ⊢; exact ⟨(b2 z).1.same s8, (b2 z).2.same s8⟩
  · simp only [o 66 (by decide)]; rw [m_up_ne (by decide)]; exact c1
  · simp only [o 66 (by decide), o 72 (by decide)] at hk ⊢; rw [m_up_ne (by decide)]; exact c2 k hk
  · simp only [o 66 (by decide)]; rw [m_up_ne (by decide)]; exact d1
  · simp only [o 90 (by decide)]; rw [m_up_ne (by decide)]; exact d2 k hk
  · simp only [m_upv]
    by_cases z : k = (-c).toNat
    · simp [z]; rw [e _ (by omega)]
    · simp [z]; exact e k hk
theorem p1_allCost {b : Nat} (hb : m_hs b) {g : m_G} {s : Nat → Int} {nd : Nat → Nat → Int} {q : m_Post} (hR : h_R g b s) (hW : h_W s) (hO : v_O g b (d_day s nd)) (h : q (some (.inl (d_cost s nd))) g) : wX1_allCost.1 [.inr (.inr 39)] g q := by
  have hz := hW.1
  have e7 : (g 39 7).toNat = b := by rw [hO.2.2.2.2]; rfl
  have e0 : g b 0 = s 0 := hR.1.1
  refine m_wp_of (by simp [m_fit]) (fun J hJ => ?_)
  simp only [m_ini, Nat.reduceSub, List.replicate]
  have loop : ∀ (m t : Nat), t + m = (s 0).toNat → J 4 [some (.inr (.inr 39)), some (.inl (d_costs s (d_day s nd) t)), some (.inl t)] [] g := by
    intro m
    induction m with
    | zero =>
      intro t ht
      refine m_run_ok hJ (fun pc => pc == 4) 60 _ _ _ _ ?_
      simp only [e_go, rX1_allCost_0, rX1_allCost_1, rX1_allCost_2, rX1_allCost_3, rX1_allCost_4, rX1_allCost_5, rX1_allCost_6, rX1_allCost_9, rX1_allCost_12, rX1_allCost_15, rX1_allCost_16, rX1_allCost_17, rX1_allCost_20, rX1_allCost_21, rX1_allCost_22, rX1_allCost_23, rX1_allCost_26, rX1_allCost_29, rX1_allCost_30, rX1_allCost_31, rX1_allCost_32, rX1_allCost_35, rX1_allCost_36, rX1_allCost_39, rX1_allCost_40, rX1_allCost_41, rX1_allCost_42, rX1_allCost_43, rX1_allCost_44, rX1_allCost_45, rX1_allCost_48, rX1_allCost_51, rX1_allCost_52, e_ald0, e_bin, e_get, e_goto, e_iald, e_icmp, e_ild1, e_ild2, e_inc2, e_ist1, e_ist2, e_nl0, e_nl1, e_nl2, e_push, e_ret, m_b0, m_b01, m_b1, m_em, Classical.not_not, Nat.reduceBEq, Nat.reduceLT, Nat.reduceLeDiff, Nat.reduceAdd, cond_true, cond_false, Bool.or_false, Bool.false_or, Bool.or_true, Bool.true_or, beq_iff_eq, true_and, and_true, true_or, or_true, forall_const, not_true_eq_false, not_false_eq_true, false_implies, implies_true, Nat.reduceEqDiff, List.length_nil, List.length_cons, ob_39, fv_39_0, fv_39_1, fv_39_2, fv_39_3, fv_39_4, fs_39_4, fv_39_5, fs_39_5, fv_39_6, fv_39_7, fs_39_7, fv_39_8, fs_39_8, fv_39_9, fs_39_9, fv_39_10, fs_39_10, kd_40, ln_40, kd_42, ln_42, obH hb, fvH0 hb, fsH0 hb, fvH1 hb, fsH1 hb, fvH2 hb, fvH3 hb, fvH4 hb, fvH5 hb, fvH6 hb, fvH7 hb, kdH1 hb, lnH1 hb, ltH1 hb, kdH2 hb, lnH2 hb, ltH2 hb, kdH3 hb, lnH3 hb, ltH3 hb, kdH4 hb, lnH4 hb, ltH4 hb, kdH5 hb, lnH5 hb, ltH5 hb, kdH6 hb, lnH6 hb, ltH6 hb, e7, e0, Int.toNat_natCast]
      refine ⟨fun _ => ?_, fun z => absurd z (by omega)⟩
      rw [show t = (s 0).toNat by omega]
      exact h
    | succ m ih =>
      intro t ht
      obtain ⟨o1, -, o3⟩ := hO.1 t (by omega)
      have hw := (hR.2.2.2.1 t (by omega)).2.1
      refine m_run_ok hJ (fun pc => pc == 4) 60 _ _ _ _ ?_
      simp only [e_go, rX1_allCost_0, rX1_allCost_1, rX1_allCost_2, rX1_allCost_3, rX1_allCost_4, rX1_allCost_5, rX1_allCost_6, rX1_allCost_9, rX1_allCost_12, rX1_allCost_15, rX1_allCost_16, rX1_allCost_17, rX1_allCost_20, rX1_allCost_21, rX1_allCost_22, rX1_allCost_23, rX1_allCost_26, rX1_allCost_29, rX1_allCost_30, rX1_allCost_31, rX1_allCost_32, rX1_allCost_35, rX1_allCost_36, rX1_allCost_39, rX1_allCost_40, rX1_allCost_41, rX1_allCost_42, rX1_allCost_43, rX1_allCost_44, rX1_allCost_45, rX1_allCost_48, rX1_allCost_51, rX1_allCost_52, e_ald0, e_bin, e_get, e_goto, e_iald, e_icmp, e_ild1, e_ild2, e_inc2, e_ist1, e_ist2, e_nl0, e_nl1, e_nl2, e_push, e_ret, m_b0, m_b01, m_b1, m_em, Classical.not_not, Nat.reduceBEq, Nat.reduceLT, Nat.reduceLeDiff, Nat.reduceAdd, cond_true, cond_false, Bool.or_false, Bool.false_or, Bool.or_true, Bool.true_or, beq_iff_eq, true_and, and_true, true_or, or_true, forall_const, not_true_eq_false, not_false_eq_true, false_implies, implies_true, Nat.reduceEqDiff, List.length_nil, List.length_cons, ob_39, fv_39_0, fv_39_1, fv_39_2, fv_39_3, fv_39_4, fs_39_4, fv_39_5, fs_39_5, fv_39_6, fv_39_7, fs_39_7, fv_39_8, fs_39_8, fv_39_9, fs_39_9, fv_39_10, fs_39_10, kd_40, ln_40, kd_42, ln_42, obH hb, fvH0 hb, fsH0 hb, fvH1 hb, fsH1 hb, fvH2 hb, fvH3 hb, fvH4 hb, fvH5 hb, fvH6 hb, fvH7 hb, kdH1 hb, lnH1 hb, ltH1 hb, kdH2 hb, lnH2 hb, ltH2 hb, kdH3 hb, lnH3 hb, ltH3 hb, kdH4 hb, lnH4 hb, ltH4 hb, kdH5 hb, lnH5 hb, ltH5 hb, kdH6 hb, lnH6 hb, ltH6 hb, e7, e0, Int.toNat_natCast]
      rw [o1, o3, hw, m_w2 (x := (t : Int) + 1) (by omega) (by omega)]
      exact ⟨fun z => absurd z (by omega), fun _ => ⟨by omega, by omega, by omega, ih (t + 1) (by omega)⟩⟩
  refine m_run_ok hJ (fun pc => pc == 4) 60 _ _ _ _ ?_
  simp only [e_go, rX1_allCost_0, rX1_allCost_1, rX1_allCost_2, rX1_allCost_3, rX1_allCost_4, rX1_allCost_5, rX1_allCost_6, rX1_allCost_9, rX1_allCost_12, rX1_allCost_15, rX1_allCost_16, rX1_allCost_17, rX1_allCost_20, rX1_allCost_21, rX1_allCost_22, rX1_allCost_23, rX1_allCost_26, rX1_allCost_29, rX1_allCost_30, rX1_allCost_31, rX1_allCost_32, rX1_allCost_35, rX1_allCost_36, rX1_allCost_39, rX1_allCost_40, rX1_allCost_41, rX1_allCost_42, rX1_allCost_43, rX1_allCost_44, rX1_allCost_45, rX1_allCost_48, rX1_allCost_51, rX1_allCost_52, e_ald0, e_bin, e_get, e_goto, e_iald, e_icmp, e_ild1, e_ild2, e_inc2, e_ist1, e_ist2, e_nl0, e_nl1, e_nl2, e_push, e_ret, m_b0, m_b01, m_b1, m_em, Classical.not_not, Nat.reduceBEq, Nat.reduceLT, Nat.reduceLeDiff, Nat.reduceAdd, cond_true, cond_false, Bool.or_false, Bool.false_or, Bool.or_true, Bool.true_or, beq_iff_eq, true_and, and_true, true_or, or_true, forall_const, not_true_eq_false, not_false_eq_true, false_implies, implies_true, Nat.reduceEqDiff, List.length_nil, List.length_cons, ob_39, fv_39_0, fv_39_1, fv_39_2, fv_39_3, fv_39_4, fs_39_4, fv_39_5, fs_39_5, fv_39_6, fv_39_7, fs_39_7, fv_39_8, fs_39_8, fv_39_9, fs_39_9, fv_39_10, fs_39_10, kd_40, ln_40, kd_42, ln_42, obH hb, fvH0 hb, fsH0 hb, fvH1 hb, fsH1 hb, fvH2 hb, fvH3 hb, fvH4 hb, fvH5 hb, fvH6 hb, fvH7 hb, kdH1 hb, lnH1 hb, ltH1 hb, kdH2 hb, lnH2 hb, ltH2 hb, kdH3 hb, lnH3 hb, ltH3 hb, kdH4 hb, lnH4 hb, ltH4 hb, kdH5 hb, lnH5 hb, ltH5 hb, kdH6 hb, lnH6 hb, ltH6 hb, e7, e0, Int.toNat_natCast]
  exact loop (s 0).toNat 0 (by omega)
theorem p1_allLeft {b : Nat} (hb : m_hs b) {g : m_G} {s : Nat → Int} {σ : d_S} {q : m_Post} (hR : h_R g b s) (hW : h_W s) (hO : v_O g b σ) (h : q (some (.inl (d_gone σ (s 0).toNat))) g) : wX1_allLeft.1 [.inr (.inr 39)] g q := by
  have hz := hW.1
  have e7 : (g 39 7).toNat = b := by rw [hO.2.2.2.2]; rfl
  have e0 : g b 0 = s 0 := hR.1.1
  refine m_wp_of (by simp [m_fit]) (fun J hJ => ?_)
  simp only [m_ini, Nat.reduceSub, List.replicate]
  have loop : ∀ (m t : Nat), t + m = (s 0).toNat → J 4 [some (.inr (.inr 39)), some (.inl (d_gone σ t)), some (.inl t)] [] g := by
    intro m
    induction m with
    | zero =>
      intro t ht
      refine m_run_ok hJ (fun pc => pc == 4) 60 _ _ _ _ ?_
      simp only [e_go, rX1_allLeft_0, rX1_allLeft_1, rX1_allLeft_2, rX1_allLeft_3, rX1_allLeft_4, rX1_allLeft_5, rX1_allLeft_6, rX1_allLeft_9, rX1_allLeft_12, rX1_allLeft_15, rX1_allLeft_16, rX1_allLeft_17, rX1_allLeft_20, rX1_allLeft_21, rX1_allLeft_22, rX1_allLeft_23, rX1_allLeft_24, rX1_allLeft_27, rX1_allLeft_30, rX1_allLeft_31, e_ald0, e_bin, e_get, e_goto, e_iald, e_icmp, e_ild1, e_ild2, e_inc2, e_ist1, e_ist2, e_nl0, e_nl1, e_nl2, e_push, e_ret, m_b0, m_b01, m_b1, m_em, Classical.not_not, Nat.reduceBEq, Nat.reduceLT, Nat.reduceLeDiff, Nat.reduceAdd, cond_true, cond_false, Bool.or_false, Bool.false_or, Bool.or_true, Bool.true_or, beq_iff_eq, true_and, and_true, true_or, or_true, forall_const, not_true_eq_false, not_false_eq_true, false_implies, implies_true, Nat.reduceEqDiff, List.length_nil, List.length_cons, ob_39, fv_39_0, fv_39_1, fv_39_2, fv_39_3, fv_39_4, fs_39_4, fv_39_5, fs_39_5, fv_39_6, fv_39_7, fs_39_7, fv_39_8, fs_39_8, fv_39_9, fs_39_9, fv_39_10, fs_39_10, kd_41, ln_41, obH hb, fvH0 hb, fsH0 hb, fvH1 hb, fsH1 hb, fvH2 hb, fvH3 hb, fvH4 hb, fvH5 hb, fvH6 hb, fvH7 hb, kdH1 hb, lnH1 hb, ltH1 hb, kdH2 hb, lnH2 hb, ltH2 hb, kdH3 hb, lnH3 hb, ltH3 hb, kdH4 hb, lnH4 hb, ltH4 hb, kdH5 hb, lnH5 hb, ltH5 hb, kdH6 hb, lnH6 hb, ltH6 hb, e7, e0, Int.toNat_natCast]
      refine ⟨fun _ => ?_, fun z => absurd z (by omega)⟩
      rw [show t = (s 0).toNat by omega]
      exact h
    | succ m ih =>
      intro t ht
      obtain ⟨-, o2, -⟩ := hO.1 t (by omega)
      have nx := ih (t + 1) (by omega)
      simp only [d_gone] at nx
      refine m_run_ok hJ (fun pc => pc == 4) 60 _ _ _ _ ?_
      simp only [e_go, rX1_allLeft_0, rX1_allLeft_1, rX1_allLeft_2, rX1_allLeft_3, rX1_allLeft_4, rX1_allLeft_5, rX1_allLeft_6, rX1_allLeft_9, rX1_allLeft_12, rX1_allLeft_15, rX1_allLeft_16, rX1_allLeft_17, rX1_allLeft_20, rX1_allLeft_21, rX1_allLeft_22, rX1_allLeft_23, rX1_allLeft_24, rX1_allLeft_27, rX1_allLeft_30, rX1_allLeft_31, e_ald0, e_bin, e_get, e_goto, e_iald, e_icmp, e_ild1, e_ild2, e_inc2, e_ist1, e_ist2, e_nl0, e_nl1, e_nl2, e_push, e_ret, m_b0, m_b01, m_b1, m_em, Classical.not_not, Nat.reduceBEq, Nat.reduceLT, Nat.reduceLeDiff, Nat.reduceAdd, cond_true, cond_false, Bool.or_false, Bool.false_or, Bool.or_true, Bool.true_or, beq_iff_eq, true_and, and_true, true_or, or_true, forall_const, not_true_eq_false, not_false_eq_true, false_implies, implies_true, Nat.reduceEqDiff, List.length_nil, List.length_cons, ob_39, fv_39_0, fv_39_1, fv_39_2, fv_39_3, fv_39_4, fs_39_4, fv_39_5, fs_39_5, fv_39_6, fv_39_7, fs_39_7, fv_39_8, fs_39_8, fv_39_9, fs_39_9, fv_39_10, fs_39_10, kd_41, ln_41, obH hb, fvH0 hb, fsH0 hb, fvH1 hb, fsH1 hb, fvH2 hb, fvH3 hb, fvH4 hb, fvH5 hb, fvH6 hb, fvH7 hb, kdH1 hb, lnH1 hb, ltH1 hb, kdH2 hb, lnH2 hb, ltH2 hb, kdH3 hb, lnH3 hb, ltH3 hb, kdH4 hb, lnH4 hb, ltH4 hb, kdH5 hb, lnH5 hb, ltH5 hb, kdH6 hb, lnH6 hb, ltH6 hb, e7, e0, Int.toNat_natCast]
      rw [o2, m_w2 (x := (t : Int) + 1) (by omega) (by omega)]
      exact ⟨fun z => absurd z (by omega), fun _ => ⟨by omega, nx⟩⟩
  refine m_run_ok hJ (fun pc => pc == 4) 60 _ _ _ _ ?_
  simp only [e_go, rX1_allLeft_0, rX1_allLeft_1, rX1_allLeft_2, rX1_allLeft_3, rX1_allLeft_4, rX1_allLeft_5, rX1_allLeft_6, rX1_allLeft_9, rX1_allLeft_12, rX1_allLeft_15, rX1_allLeft_16, rX1_allLeft_17, rX1_allLeft_20, rX1_allLeft_21, rX1_allLeft_22, rX1_allLeft_23, rX1_allLeft_24, rX1_allLeft_27, rX1_allLeft_30, rX1_allLeft_31, e_ald0, e_bin, e_get, e_goto, e_iald, e_icmp, e_ild1, e_ild2, e_inc2, e_ist1, e_ist2, e_nl0, e_nl1, e_nl2, e_push, e_ret, m_b0, m_b01, m_b1, m_em, Classical.not_not, Nat.reduceBEq, Nat.reduceLT, Nat.reduceLeDiff, Nat.reduceAdd, cond_true, cond_false, Bool.or_false, Bool.false_or, Bool.or_true, Bool.true_or, beq_iff_eq, true_and, and_true, true_or, or_true, forall_const, not_true_eq_false, not_false_eq_true, false_implies, implies_true, Nat.reduceEqDiff, List.length_nil, List.length_cons, ob_39, fv_39_0, fv_39_1, fv_39_2, fv_39_3, fv_39_4, fs_39_4, fv_39_5, fs_39_5, fv_39_6, fv_39_7, fs_39_7, fv_39_8, fs_39_8, fv_39_9, fs_39_9, fv_39_10, fs_39_10, kd_41, ln_41, obH hb, fvH0 hb, fsH0 hb, fvH1 hb, fsH1 hb, fvH2 hb, fvH3 hb, fvH4 hb, fvH5 hb, fvH6 hb, fvH7 hb, kdH1 hb, lnH1 hb, ltH1 hb, kdH2 hb, lnH2 hb, ltH2 hb, kdH3 hb, lnH3 hb, ltH3 hb, kdH4 hb, lnH4 hb, ltH4 hb, kdH5 hb, lnH5 hb, ltH5 hb, kdH6 hb, lnH6 hb, ltH6 hb, e7, e0, Int.toNat_natCast]
  exact loop (s 0).toNat 0 (by omega)
/-- what was not lost: all that come but the lost -/
theorem p1_keptOf {b : Nat} (hb : m_hs b) {g : m_G} {s : Nat → Int} {σ : d_S} {t : Nat} {q : m_Post} (hR : h_R g b s) (hW : h_W s) (hO : v_O g b σ) (ht : (t : Int) < s 0) (h6 : 0 ≤ σ.2 6 t ∧ σ.2 6 t ≤ 100000) (h : q (some (.inl ((d_qs s t 4 : Nat) - σ.2 6 t))) g) : wX1_keptOf.1 [.inr (.inr 39), .inl t] g q := by
  have hz := hW.1
  have e7 : (g 39 7).toNat = b := by rw [hO.2.2.2.2]; rfl
  have hc := (hW.2.2.1 t ht).2.2
  have h4 := d_qs_b hW ht
  refine m_wp_of (by simp [m_fit]) (fun J hJ => ?_)
  simp only [m_ini, Nat.reduceSub, List.replicate]
  have loop : ∀ (m k : Nat), k + m = 4 → (d_qs s t k ≤ 50 * k) → J 4 [some (.inr (.inr 39)), some (.inl t), some (.inl (d_qs s t k : Nat)), some (.inl k)] [] g := by
    intro m
    induction m with
    | zero =>
      intro k hk _
      have e : k = 4 := by omega
      subst e
      refine m_run_ok hJ (fun pc => pc == 4) 60 _ _ _ _ ?_
      simp only [e_go, rX1_keptOf_0, rX1_keptOf_1, rX1_keptOf_2, rX1_keptOf_3, rX1_keptOf_4, rX1_keptOf_5, rX1_keptOf_6, rX1_keptOf_9, rX1_keptOf_10, rX1_keptOf_11, rX1_keptOf_14, rX1_keptOf_15, rX1_keptOf_16, rX1_keptOf_19, rX1_keptOf_20, rX1_keptOf_21, rX1_keptOf_24, rX1_keptOf_27, rX1_keptOf_28, rX1_keptOf_29, rX1_keptOf_32, rX1_keptOf_33, rX1_keptOf_34, rX1_keptOf_35, e_ald0, e_bin, e_callV3, e_get, e_goto, e_iald, e_icmp, e_ild1, e_ild2, e_ild3, e_inc3, e_ist2, e_ist3, e_nl0, e_nl1, e_nl2, e_push, e_pushn, e_pushs, e_ret, m_b0, m_b01, m_b1, m_em, Classical.not_not, Nat.reduceBEq, Nat.reduceLT, Nat.reduceLeDiff, Nat.reduceAdd, cond_true, cond_false, Bool.or_false, Bool.false_or, Bool.or_true, Bool.true_or, beq_iff_eq, true_and, and_true, true_or, or_true, forall_const, not_true_eq_false, not_false_eq_true, false_implies, implies_true, Nat.reduceEqDiff, List.length_nil, List.length_cons, ob_39, fv_39_0, fv_39_1, fv_39_2, fv_39_3, fv_39_4, fs_39_4, fv_39_5, fs_39_5, fv_39_6, fv_39_7, fs_39_7, fv_39_8, fs_39_8, fv_39_9, fs_39_9, fv_39_10, fs_39_10, kd_42, ln_42, obH hb, fvH0 hb, fsH0 hb, fvH1 hb, fsH1 hb, fvH2 hb, fvH3 hb, fvH4 hb, fvH5 hb, fvH6 hb, fvH7 hb, kdH1 hb, lnH1 hb, ltH1 hb, kdH2 hb, lnH2 hb, ltH2 hb, kdH3 hb, lnH3 hb, ltH3 hb, kdH4 hb, lnH4 hb, ltH4 hb, kdH5 hb, lnH5 hb, ltH5 hb, kdH6 hb, lnH6 hb, ltH6 hb, e7, Int.toNat_natCast]
      refine ⟨fun _ => ⟨by omega, ?_⟩, fun z => absurd z (by omega)⟩
      rw [(hO.1 t (by omega)).2.2, m_w1 (by omega) (by omega)]
      exact h
    | succ m ih =>
      intro k hk hb5
      have hck := hc k (by omega)
      refine m_run_ok hJ (fun pc => pc == 4) 60 _ _ _ _ ?_
      simp only [e_go, rX1_keptOf_0, rX1_keptOf_1, rX1_keptOf_2, rX1_keptOf_3, rX1_keptOf_4, rX1_keptOf_5, rX1_keptOf_6, rX1_keptOf_9, rX1_keptOf_10, rX1_keptOf_11, rX1_keptOf_14, rX1_keptOf_15, rX1_keptOf_16, rX1_keptOf_19, rX1_keptOf_20, rX1_keptOf_21, rX1_keptOf_24, rX1_keptOf_27, rX1_keptOf_28, rX1_keptOf_29, rX1_keptOf_32, rX1_keptOf_33, rX1_keptOf_34, rX1_keptOf_35, e_ald0, e_bin, e_callV3, e_get, e_goto, e_iald, e_icmp, e_ild1, e_ild2, e_ild3, e_inc3, e_ist2, e_ist3, e_nl0, e_nl1, e_nl2, e_push, e_pushn, e_pushs, e_ret, m_b0, m_b01, m_b1, m_em, Classical.not_not, Nat.reduceBEq, Nat.reduceLT, Nat.reduceLeDiff, Nat.reduceAdd, cond_true, cond_false, Bool.or_false, Bool.false_or, Bool.or_true, Bool.true_or, beq_iff_eq, true_and, and_true, true_or, or_true, forall_const, not_true_eq_false, not_false_eq_true, false_implies, implies_true, Nat.reduceEqDiff, List.length_nil, List.length_cons, ob_39, fv_39_0, fv_39_1, fv_39_2, fv_39_3, fv_39_4, fs_39_4, fv_39_5, fs_39_5, fv_39_6, fv_39_7, fs_39_7, fv_39_8, fs_39_8, fv_39_9, fs_39_9, fv_39_10, fs_39_10, kd_42, ln_42, obH hb, fvH0 hb, fsH0 hb, fvH1 hb, fsH1 hb, fvH2 hb, fvH3 hb, fvH4 hb, fvH5 hb, fvH6 hb, fvH7 hb, kdH1 hb, lnH1 hb, ltH1 hb, kdH2 hb, lnH2 hb, ltH2 hb, kdH3 hb, lnH3 hb, ltH3 hb, kdH4 hb, lnH4 hb, ltH4 hb, kdH5 hb, lnH5 hb, ltH5 hb, kdH6 hb, lnH6 hb, ltH6 hb, e7, Int.toNat_natCast]
      refine ⟨fun z => absurd z (by omega), fun _ => ?_⟩
      refine p_comersOf hb hR ?_
      rw [if_pos ⟨⟨by omega, ht⟩, by omega, by omega⟩, Int.toNat_natCast, Int.toNat_natCast]
      simp only [e_go, rX1_keptOf_0, rX1_keptOf_1, rX1_keptOf_2, rX1_keptOf_3, rX1_keptOf_4, rX1_keptOf_5, rX1_keptOf_6, rX1_keptOf_9, rX1_keptOf_10, rX1_keptOf_11, rX1_keptOf_14, rX1_keptOf_15, rX1_keptOf_16, rX1_keptOf_19, rX1_keptOf_20, rX1_keptOf_21, rX1_keptOf_24, rX1_keptOf_27, rX1_keptOf_28, rX1_keptOf_29, rX1_keptOf_32, rX1_keptOf_33, rX1_keptOf_34, rX1_keptOf_35, e_ald0, e_bin, e_callV3, e_get, e_goto, e_iald, e_icmp, e_ild1, e_ild2, e_ild3, e_inc3, e_ist2, e_ist3, e_nl0, e_nl1, e_nl2, e_push, e_pushn, e_pushs, e_ret, m_b0, m_b01, m_b1, m_em, Classical.not_not, Nat.reduceBEq, Nat.reduceLT, Nat.reduceLeDiff, Nat.reduceAdd, cond_true, cond_false, Bool.or_false, Bool.false_or, Bool.or_true, Bool.true_or, beq_iff_eq, true_and, and_true, true_or, or_true, forall_const, not_true_eq_false, not_false_eq_true, false_implies, implies_true, Nat.reduceEqDiff, List.length_nil, List.length_cons, ob_39, fv_39_0, fv_39_1, fv_39_2, fv_39_3, fv_39_4, fs_39_4, fv_39_5, fs_39_5, fv_39_6, fv_39_7, fs_39_7, fv_39_8, fs_39_8, fv_39_9, fs_39_9, fv_39_10, fs_39_10, kd_42, ln_42, obH hb, fvH0 hb, fsH0 hb, fvH1 hb, fsH1 hb, fvH2 hb, fvH3 hb, fvH4 hb, fvH5 hb, fvH6 hb, fvH7 hb, kdH1 hb, lnH1 hb, ltH1 hb, kdH2 hb, lnH2 hb, ltH2 hb, kdH3 hb, lnH3 hb, ltH3 hb, kdH4 hb, lnH4 hb, ltH4 hb, kdH5 hb, lnH5 hb, ltH5 hb, kdH6 hb, lnH6 hb, ltH6 hb, e7, Int.toNat_natCast]
      rw [m_w2 (x := (k : Int) + 1) (by omega) (by omega), m_w2 (by omega) (by omega)]
      have nx := ih (k + 1) (by omega) (by simp only [d_qs]; omega)
      simp only [d_qs] at nx
      rw [show ((d_qs s t k + (s (12 + 6 * t + k)).toNat : Nat) : Int) = (d_qs s t k : Int) + s (12 + 6 * t + k) by omega] at nx
      exact nx
  refine m_run_ok hJ (fun pc => pc == 4) 60 _ _ _ _ ?_
  simp only [e_go, rX1_keptOf_0, rX1_keptOf_1, rX1_keptOf_2, rX1_keptOf_3, rX1_keptOf_4, rX1_keptOf_5, rX1_keptOf_6, rX1_keptOf_9, rX1_keptOf_10, rX1_keptOf_11, rX1_keptOf_14, rX1_keptOf_15, rX1_keptOf_16, rX1_keptOf_19, rX1_keptOf_20, rX1_keptOf_21, rX1_keptOf_24, rX1_keptOf_27, rX1_keptOf_28, rX1_keptOf_29, rX1_keptOf_32, rX1_keptOf_33, rX1_keptOf_34, rX1_keptOf_35, e_ald0, e_bin, e_callV3, e_get, e_goto, e_iald, e_icmp, e_ild1, e_ild2, e_ild3, e_inc3, e_ist2, e_ist3, e_nl0, e_nl1, e_nl2, e_push, e_pushn, e_pushs, e_ret, m_b0, m_b01, m_b1, m_em, Classical.not_not, Nat.reduceBEq, Nat.reduceLT, Nat.reduceLeDiff, Nat.reduceAdd, cond_true, cond_false, Bool.or_false, Bool.false_or, Bool.or_true, Bool.true_or, beq_iff_eq, true_and, and_true, true_or, or_true, forall_const, not_true_eq_false, not_false_eq_true, false_implies, implies_true, Nat.reduceEqDiff, List.length_nil, List.length_cons, ob_39, fv_39_0, fv_39_1, fv_39_2, fv_39_3, fv_39_4, fs_39_4, fv_39_5, fs_39_5, fv_39_6, fv_39_7, fs_39_7, fv_39_8, fs_39_8, fv_39_9, fs_39_9, fv_39_10, fs_39_10, kd_42, ln_42, obH hb, fvH0 hb, fsH0 hb, fvH1 hb, fsH1 hb, fvH2 hb, fvH3 hb, fvH4 hb, fvH5 hb, fvH6 hb, fvH7 hb, kdH1 hb, lnH1 hb, ltH1 hb, kdH2 hb, lnH2 hb, ltH2 hb, kdH3 hb, lnH3 hb, ltH3 hb, kdH4 hb, lnH4 hb, ltH4 hb, kdH5 hb, lnH5 hb, ltH5 hb, kdH6 hb, lnH6 hb, ltH6 hb, e7, Int.toNat_natCast]
  exact loop 4 0 (by omega) (by simp [d_qs])
