set_option maxRecDepth 20000
set_option maxHeartbeats 2000000
/-- the reference's rows hold a state of the day -/
def r_R (g : m_G) (σ : d_S) : Prop :=
  (∀ l, l < 6 → (g 78 l = ((σ.1 l).length : Int) ∧ g 79 l = σ.2 0 l ∧ g 80 l = σ.2 1 l ∧ g 85 l = σ.2 2 l ∧ g 86 l = σ.2 3 l) ∧ ∀ (i : Nat) (c : d_C), (σ.1 l)[i]? = some c → g 74 (60 * l + i) = c.1 ∧ g 75 (60 * l + i) = c.2.1 ∧ g 76 (60 * l + i) = c.2.2.1 ∧ g 77 (60 * l + i) = c.2.2.2) ∧
  (∀ t, t < 5 → g 81 t = σ.2 4 t ∧ g 83 t = σ.2 5 t ∧ g 84 t = σ.2 6 t ∧ g 82 t = σ.2 7 t) ∧ g 66 23 = σ.2 8 0 ∧ g 66 24 = σ.2 8 1 ∧ g 66 25 = σ.2 8 2
/-- what a day leaves alone -/
def r_F (g g' : m_G) : Prop := (∀ j, j < 66 ∨ (66 < j ∧ j < 74) ∨ 86 < j → g' j = g j) ∧ ∀ k, k ≠ 23 → k ≠ 24 → k ≠ 25 → g' 66 k = g 66 k
theorem r_F.rfl' {g : m_G} : r_F g g := ⟨fun _ _ => rfl, fun _ _ _ _ => rfl⟩
theorem r_F.trans {a b c : m_G} (h : r_F a b) (h2 : r_F b c) : r_F a c := ⟨fun j hj => (h2.1 j hj).trans (h.1 j hj), fun k h3 h4 h5 => (h2.2 k h3 h4 h5).trans (h.2 k h3 h4 h5)⟩
theorem d_need_b : ∀ L : List d_C, (∀ c ∈ L, 1 ≤ c.2.2.1 ∧ c.2.2.1 ≤ 99) → 0 ≤ d_need L ∧ d_need L ≤ 99 * L.length
  | [], _ => by simp [d_need]
  | c :: r, h => by
    have h1 := h c List.mem_cons_self
    have h2 := d_need_b r (fun x hx => h x (List.mem_cons_of_mem _ hx))
    simp only [d_need, List.length_cons]
    omega
theorem p9_loadOf {l now : Nat} {s : Nat → Int} {n0 : Nat} {σ : d_S} {g : m_G} {q : m_Post} (hl : l < 6) (hn : now < 7200) (hW : h_W s) (hR : r_R g σ) (hI : d_I s n0 σ) (hn0 : n0 ≤ 7200) (h : q (some (.inl (d_load σ l now))) g) : wX9_loadOf.1 [.inr (.inr 66), .inl l, .inl now] g q := by
  refine m_wp_of (by simp [m_fit]) (fun J hJ => ?_)
  simp only [m_ini, Nat.reduceSub, List.replicate]
  obtain ⟨⟨r1, r2, -⟩, r3⟩ := hR.1 l hl
  obtain ⟨⟨i1, -⟩, i2, i3, -⟩ := hI.1 l hl
  have w7 := hW.2.1.2.2.2.2.2.1.2
  clear hR hI hW
  unfold d_load at h
  generalize σ.1 l = L at r1 r3 i1 i2 h
  have loop : ∀ (n i : Nat) (v : Int), i + n = L.length → 1 ≤ i → 0 ≤ v → v + d_need (L.drop i) ≤ 20000 → q (some (.inl (v + d_need (L.drop i)))) g → J 5 [some (.inr (.inr 66)), some (.inl l), some (.inl now), some (.inl v), some (.inl i)] [] g := by
    intro n
    induction n with
    | zero =>
      intro i v hi h1 hv hb hq
      refine m_run_ok hJ (fun pc => pc == 5) 40 _ _ _ _ ?_
      simp only [e_go, rX9_loadOf_0, rX9_loadOf_1, rX9_loadOf_2, rX9_loadOf_3, rX9_loadOf_5, rX9_loadOf_7, rX9_loadOf_8, rX9_loadOf_11, rX9_loadOf_12, rX9_loadOf_13, rX9_loadOf_16, rX9_loadOf_18, rX9_loadOf_21, rX9_loadOf_22, rX9_loadOf_25, rX9_loadOf_26, rX9_loadOf_27, rX9_loadOf_30, rX9_loadOf_31, rX9_loadOf_32, rX9_loadOf_35, rX9_loadOf_36, rX9_loadOf_37, rX9_loadOf_38, rX9_loadOf_41, rX9_loadOf_42, rX9_loadOf_45, rX9_loadOf_46, rX9_loadOf_47, rX9_loadOf_48, rX9_loadOf_49, rX9_loadOf_52, rX9_loadOf_53, rX9_loadOf_54, rX9_loadOf_55, rX9_loadOf_58, rX9_loadOf_59, rX9_loadOf_60, rX9_loadOf_63, rX9_loadOf_65, rX9_loadOf_66, rX9_loadOf_67, rX9_loadOf_69, rX9_loadOf_70, rX9_loadOf_71, rX9_loadOf_72, rX9_loadOf_73, rX9_loadOf_76, rX9_loadOf_79, rX9_loadOf_80, e_ald0, e_bin, e_get, e_goto, e_iald, e_icmp, e_if, e_ild1, e_ild2, e_ild3, e_ild4, e_inc4, e_ist3, e_ist4, e_nl0, e_nl1, e_nl2, e_push, e_ret, m_b0, m_b01, m_b1, m_em, Classical.not_not, Nat.reduceBEq, Nat.reduceLT, Nat.reduceLeDiff, Nat.reduceAdd, cond_true, cond_false, Bool.or_false, Bool.false_or, Bool.or_true, Bool.true_or, beq_iff_eq, true_and, and_true, true_or, or_true, forall_const, not_true_eq_false, not_false_eq_true, false_implies, implies_true, Nat.reduceEqDiff, List.length_nil, List.length_cons, ob_66, fv_66_0, fv_66_1, fv_66_2, fv_66_3, fv_66_4, fv_66_5, fs_66_5, fv_66_6, fv_66_7, fv_66_8, fs_66_8, fv_66_9, fs_66_9, fv_66_10, fv_66_11, fv_66_12, fv_66_13, fv_66_14, fv_66_15, fv_66_16, fv_66_17, fv_66_18, fv_66_19, fv_66_20, fv_66_21, fv_66_22, fv_66_23, fs_66_23, fv_66_24, fs_66_24, fv_66_25, fs_66_25, fv_66_26, fs_66_26, fv_66_27, fs_66_27, fv_66_28, fs_66_28, fv_66_29, fv_66_30, fv_66_31, fs_66_31, fv_66_32, fv_66_33, fv_66_34, fs_66_34, kd_76, ln_76, kd_78, ln_78, kd_79, ln_79, Int.toNat_natCast]
      rw [List.drop_eq_nil_of_le (by omega)] at hq
      simp only [d_need, Int.add_zero] at hq
      exact ⟨by omega, fun _ => hq, fun z => absurd z (by omega)⟩
    | succ n ih =>
      intro i v hi h1 hv hb hq
      have hlt : i < L.length := by omega
      have hc := r3 i L[i] (List.getElem?_eq_getElem hlt)
      have hm := (i2 L[i] (List.getElem_mem hlt)).2.2.1
      have hdr : d_need (L.drop i) = (L[i]).2.2.1 + d_need (L.drop (i + 1)) := by
        rw [List.drop_eq_getElem_cons hlt]; rfl
      have hnb := (d_need_b (L.drop (i + 1)) (fun c hc => (i2 c (List.mem_of_mem_drop hc)).2.2.1)).1
      refine m_run_ok hJ (fun pc => pc == 5) 40 _ _ _ _ ?_
      simp only [e_go, rX9_loadOf_0, rX9_loadOf_1, rX9_loadOf_2, rX9_loadOf_3, rX9_loadOf_5, rX9_loadOf_7, rX9_loadOf_8, rX9_loadOf_11, rX9_loadOf_12, rX9_loadOf_13, rX9_loadOf_16, rX9_loadOf_18, rX9_loadOf_21, rX9_loadOf_22, rX9_loadOf_25, rX9_loadOf_26, rX9_loadOf_27, rX9_loadOf_30, rX9_loadOf_31, rX9_loadOf_32, rX9_loadOf_35, rX9_loadOf_36, rX9_loadOf_37, rX9_loadOf_38, rX9_loadOf_41, rX9_loadOf_42, rX9_loadOf_45, rX9_loadOf_46, rX9_loadOf_47, rX9_loadOf_48, rX9_loadOf_49, rX9_loadOf_52, rX9_loadOf_53, rX9_loadOf_54, rX9_loadOf_55, rX9_loadOf_58, rX9_loadOf_59, rX9_loadOf_60, rX9_loadOf_63, rX9_loadOf_65, rX9_loadOf_66, rX9_loadOf_67, rX9_loadOf_69, rX9_loadOf_70, rX9_loadOf_71, rX9_loadOf_72, rX9_loadOf_73, rX9_loadOf_76, rX9_loadOf_79, rX9_loadOf_80, e_ald0, e_bin, e_get, e_goto, e_iald, e_icmp, e_if, e_ild1, e_ild2, e_ild3, e_ild4, e_inc4, e_ist3, e_ist4, e_nl0, e_nl1, e_nl2, e_push, e_ret, m_b0, m_b01, m_b1, m_em, Classical.not_not, Nat.reduceBEq, Nat.reduceLT, Nat.reduceLeDiff, Nat.reduceAdd, cond_true, cond_false, Bool.or_false, Bool.false_or, Bool.or_true, Bool.true_or, beq_iff_eq, true_and, and_true, true_or, or_true, forall_const, not_true_eq_false, not_false_eq_true, false_implies, implies_true, Nat.reduceEqDiff, List.length_nil, List.length_cons, ob_66, fv_66_0, fv_66_1, fv_66_2, fv_66_3, fv_66_4, fv_66_5, fs_66_5, fv_66_6, fv_66_7, fv_66_8, fs_66_8, fv_66_9, fs_66_9, fv_66_10, fv_66_11, fv_66_12, fv_66_13, fv_66_14, fv_66_15, fv_66_16, fv_66_17, fv_66_18, fv_66_19, fv_66_20, fv_66_21, fv_66_22, fv_66_23, fs_66_23, fv_66_24, fs_66_24, fv_66_25, fs_66_25, fv_66_26, fs_66_26, fv_66_27, fs_66_27, fv_66_28, fs_66_28, fv_66_29, fv_66_30, fv_66_31, fs_66_31, fv_66_32, fv_66_33, fv_66_34, fs_66_34, kd_76, ln_76, kd_78, ln_78, kd_79, ln_79, Int.toNat_natCast]
      have ix : m_wrap (m_wrap (60 * (l : Int)) + i) = ((60 * l + i : Nat) : Int) := by
        rw [m_w2 (x := 60 * (l : Int)) (by omega) (by omega), m_w2 (by omega) (by omega)]; omega
      rw [ix, Int.toNat_natCast, hc.2.2.1, m_w2 (x := (i : Int) + 1) (by omega) (by omega), m_w2 (x := v + _) (by omega) (by omega)]
      refine ⟨by omega, fun z => absurd z (by omega), fun _ => ⟨fun _ => ⟨by omega, ?_⟩, fun z => absurd z (by omega)⟩⟩
      exact ih (i + 1) _ (by omega) (by omega) (by omega) (by omega) (by rw [hdr, ← Int.add_assoc] at hq; exact hq)
  refine m_run_ok hJ (fun pc => pc == 5) 40 _ _ _ _ ?_
  simp only [e_go, rX9_loadOf_0, rX9_loadOf_1, rX9_loadOf_2, rX9_loadOf_3, rX9_loadOf_5, rX9_loadOf_7, rX9_loadOf_8, rX9_loadOf_11, rX9_loadOf_12, rX9_loadOf_13, rX9_loadOf_16, rX9_loadOf_18, rX9_loadOf_21, rX9_loadOf_22, rX9_loadOf_25, rX9_loadOf_26, rX9_loadOf_27, rX9_loadOf_30, rX9_loadOf_31, rX9_loadOf_32, rX9_loadOf_35, rX9_loadOf_36, rX9_loadOf_37, rX9_loadOf_38, rX9_loadOf_41, rX9_loadOf_42, rX9_loadOf_45, rX9_loadOf_46, rX9_loadOf_47, rX9_loadOf_48, rX9_loadOf_49, rX9_loadOf_52, rX9_loadOf_53, rX9_loadOf_54, rX9_loadOf_55, rX9_loadOf_58, rX9_loadOf_59, rX9_loadOf_60, rX9_loadOf_63, rX9_loadOf_65, rX9_loadOf_66, rX9_loadOf_67, rX9_loadOf_69, rX9_loadOf_70, rX9_loadOf_71, rX9_loadOf_72, rX9_loadOf_73, rX9_loadOf_76, rX9_loadOf_79, rX9_loadOf_80, e_ald0, e_bin, e_get, e_goto, e_iald, e_icmp, e_if, e_ild1, e_ild2, e_ild3, e_ild4, e_inc4, e_ist3, e_ist4, e_nl0, e_nl1, e_nl2, e_push, e_ret, m_b0, m_b01, m_b1, m_em, Classical.not_not, Nat.reduceBEq, Nat.reduceLT, Nat.reduceLeDiff, Nat.reduceAdd, cond_true, cond_false, Bool.or_false, Bool.false_or, Bool.or_true, Bool.true_or, beq_iff_eq, true_and, and_true, true_or, or_true, forall_const, not_true_eq_false, not_false_eq_true, false_implies, implies_true, Nat.reduceEqDiff, List.length_nil, List.length_cons, ob_66, fv_66_0, fv_66_1, fv_66_2, fv_66_3, fv_66_4, fv_66_5, fs_66_5, fv_66_6, fv_66_7, fv_66_8, fs_66_8, fv_66_9, fs_66_9, fv_66_10, fv_66_11, fv_66_12, fv_66_13, fv_66_14, fv_66_15, fv_66_16, fv_66_17, fv_66_18, fv_66_19, fv_66_20, fv_66_21, fv_66_22, fv_66_23, fs_66_23, fv_66_24, fs_66_24, fv_66_25, fs_66_25, fv_66_26, fs_66_26, fv_66_27, fs_66_27, fv_66_28, fs_66_28, fv_66_29, fv_66_30, fv_66_31, fs_66_31, fv_66_32, fv_66_33, fv_66_34, fs_66_34, kd_76, ln_76, kd_78, ln_78, kd_79, ln_79, Int.toNat_natCast]
  have hz : J 5 [some (.inr (.inr 66)), some (.inl l), some (.inl now), some (.inl 0), some (.inl 0)] [] g := by
    cases L with
    | nil =>
      refine m_run_ok hJ (fun pc => pc == 5) 40 _ _ _ _ ?_
      simp only [e_go, rX9_loadOf_0, rX9_loadOf_1, rX9_loadOf_2, rX9_loadOf_3, rX9_loadOf_5, rX9_loadOf_7, rX9_loadOf_8, rX9_loadOf_11, rX9_loadOf_12, rX9_loadOf_13, rX9_loadOf_16, rX9_loadOf_18, rX9_loadOf_21, rX9_loadOf_22, rX9_loadOf_25, rX9_loadOf_26, rX9_loadOf_27, rX9_loadOf_30, rX9_loadOf_31, rX9_loadOf_32, rX9_loadOf_35, rX9_loadOf_36, rX9_loadOf_37, rX9_loadOf_38, rX9_loadOf_41, rX9_loadOf_42, rX9_loadOf_45, rX9_loadOf_46, rX9_loadOf_47, rX9_loadOf_48, rX9_loadOf_49, rX9_loadOf_52, rX9_loadOf_53, rX9_loadOf_54, rX9_loadOf_55, rX9_loadOf_58, rX9_loadOf_59, rX9_loadOf_60, rX9_loadOf_63, rX9_loadOf_65, rX9_loadOf_66, rX9_loadOf_67, rX9_loadOf_69, rX9_loadOf_70, rX9_loadOf_71, rX9_loadOf_72, rX9_loadOf_73, rX9_loadOf_76, rX9_loadOf_79, rX9_loadOf_80, e_ald0, e_bin, e_get, e_goto, e_iald, e_icmp, e_if, e_ild1, e_ild2, e_ild3, e_ild4, e_inc4, e_ist3, e_ist4, e_nl0, e_nl1, e_nl2, e_push, e_ret, m_b0, m_b01, m_b1, m_em, Classical.not_not, Nat.reduceBEq, Nat.reduceLT, Nat.reduceLeDiff, Nat.reduceAdd, cond_true, cond_false, Bool.or_false, Bool.false_or, Bool.or_true, Bool.true_or, beq_iff_eq, true_and, and_true, true_or, or_true, forall_const, not_true_eq_false, not_false_eq_true, false_implies, implies_true, Nat.reduceEqDiff, List.length_nil, List.length_cons, ob_66, fv_66_0, fv_66_1, fv_66_2, fv_66_3, fv_66_4, fv_66_5, fs_66_5, fv_66_6, fv_66_7, fv_66_8, fs_66_8, fv_66_9, fs_66_9, fv_66_10, fv_66_11, fv_66_12, fv_66_13, fv_66_14, fv_66_15, fv_66_16, fv_66_17, fv_66_18, fv_66_19, fv_66_20, fv_66_21, fv_66_22, fv_66_23, fs_66_23, fv_66_24, fs_66_24, fv_66_25, fs_66_25, fv_66_26, fs_66_26, fv_66_27, fs_66_27, fv_66_28, fs_66_28, fv_66_29, fv_66_30, fv_66_31, fs_66_31, fv_66_32, fv_66_33, fv_66_34, fs_66_34, kd_76, ln_76, kd_78, ln_78, kd_79, ln_79, Int.toNat_natCast]
      simp at r1
      exact ⟨by omega, fun _ => h, fun z => absurd z (by omega)⟩
    | cons c r =>
      have hc := r3 0 c rfl
      have hm := (i2 c List.mem_cons_self).2.2.1
      have hnb := d_need_b r (fun x hx => (i2 x (List.mem_cons_of_mem _ hx)).2.2.1)
      have hlp := loop r.length 1
      simp only [List.length_cons, List.drop_succ_cons, List.drop_zero] at hlp r1 i1
      simp only at h
      refine m_run_ok hJ (fun pc => pc == 5) 40 _ _ _ _ ?_
      simp only [e_go, rX9_loadOf_0, rX9_loadOf_1, rX9_loadOf_2, rX9_loadOf_3, rX9_loadOf_5, rX9_loadOf_7, rX9_loadOf_8, rX9_loadOf_11, rX9_loadOf_12, rX9_loadOf_13, rX9_loadOf_16, rX9_loadOf_18, rX9_loadOf_21, rX9_loadOf_22, rX9_loadOf_25, rX9_loadOf_26, rX9_loadOf_27, rX9_loadOf_30, rX9_loadOf_31, rX9_loadOf_32, rX9_loadOf_35, rX9_loadOf_36, rX9_loadOf_37, rX9_loadOf_38, rX9_loadOf_41, rX9_loadOf_42, rX9_loadOf_45, rX9_loadOf_46, rX9_loadOf_47, rX9_loadOf_48, rX9_loadOf_49, rX9_loadOf_52, rX9_loadOf_53, rX9_loadOf_54, rX9_loadOf_55, rX9_loadOf_58, rX9_loadOf_59, rX9_loadOf_60, rX9_loadOf_63, rX9_loadOf_65, rX9_loadOf_66, rX9_loadOf_67, rX9_loadOf_69, rX9_loadOf_70, rX9_loadOf_71, rX9_loadOf_72, rX9_loadOf_73, rX9_loadOf_76, rX9_loadOf_79, rX9_loadOf_80, e_ald0, e_bin, e_get, e_goto, e_iald, e_icmp, e_if, e_ild1, e_ild2, e_ild3, e_ild4, e_inc4, e_ist3, e_ist4, e_nl0, e_nl1, e_nl2, e_push, e_ret, m_b0, m_b01, m_b1, m_em, Classical.not_not, Nat.reduceBEq, Nat.reduceLT, Nat.reduceLeDiff, Nat.reduceAdd, cond_true, cond_false, Bool.or_false, Bool.false_or, Bool.or_true, Bool.true_or, beq_iff_eq, true_and, and_true, true_or, or_true, forall_const, not_true_eq_false, not_false_eq_true, false_implies, implies_true, Nat.reduceEqDiff, List.length_nil, List.length_cons, ob_66, fv_66_0, fv_66_1, fv_66_2, fv_66_3, fv_66_4, fv_66_5, fs_66_5, fv_66_6, fv_66_7, fv_66_8, fs_66_8, fv_66_9, fs_66_9, fv_66_10, fv_66_11, fv_66_12, fv_66_13, fv_66_14, fv_66_15, fv_66_16, fv_66_17, fv_66_18, fv_66_19, fv_66_20, fv_66_21, fv_66_22, fv_66_23, fs_66_23, fv_66_24, fs_66_24, fv_66_25, fs_66_25, fv_66_26, fs_66_26, fv_66_27, fs_66_27, fv_66_28, fs_66_28, fv_66_29, fv_66_30, fv_66_31, fs_66_31, fv_66_32, fv_66_33, fv_66_34, fs_66_34, kd_76, ln_76, kd_78, ln_78, kd_79, ln_79, Int.toNat_natCast]
      rw [r2, m_w2 (x := 60 * (l : Int)) (by omega) (by omega), Int.add_zero, m_w2 (x := 60 * (l : Int)) (by omega) (by omega), show (60 * (l : Int)).toNat = 60 * l by omega]
      rw [show 60 * l + 0 = 60 * l by omega] at hc
      rw [hc.2.2.1]
      simp only [Int.zero_add, Int.add_zero]
      rw [m_w2 (x := 1) (by decide) (by decide), m_w2 (x := 0) (by decide) (by decide), m_w2 (x := c.2.2.1) (by omega) (by omega)]
      refine ⟨by omega, fun z => absurd z (by omega), fun _ => ?_⟩
      refine ⟨by omega, fun z => ⟨by omega, ?_⟩, fun z => ?_⟩
      · rw [if_neg (by omega)] at h
        exact hlp c.2.2.1 (by omega) (by omega) (by omega) (by omega) h
      · rw [if_pos (by omega)] at h
        refine ⟨by omega, fun z2 => ?_, fun z2 => ⟨by omega, ?_⟩⟩
        · rw [if_neg (by omega)] at h
          exact hlp 0 (by omega) (by omega) (by omega) (by omega) h
        · rw [if_pos (by omega)] at h
          rw [m_w2 (x := σ.2 0 l - now) (by omega) (by omega), m_w2 (x := σ.2 0 l - now) (by omega) (by omega)]
          exact hlp _ (by omega) (by omega) (by omega) (by omega) h
  exact hz
