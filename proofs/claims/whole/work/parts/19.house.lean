theorem m_b0 {c : Prop} [Decidable c] : ((if c then (1 : Int) else 0) = 0) = (¬ c) := by by_cases h : c <;> simp [h]
theorem m_b01 {c : Prop} [Decidable c] : ((if c then (1 : Int) else 0) = 0 ∨ (if c then (1 : Int) else 0) = 1) = True := by by_cases h : c <;> simp [h]
theorem m_b1 {c : Prop} [Decidable c] : ((if c then (1 : Int) else 0) = 1) = c := by by_cases h : c <;> simp [h]
theorem m_em {c : Prop} : (¬ c ∨ c) = True := by by_cases h : c <;> simp [h]
theorem m_w1 {x : Int} (h : -2147483648 ≤ x) (h2 : x ≤ 2147483647) : m_wrap x = x := m_wrap_id ⟨h, h2⟩
theorem m_us {f : Nat → Int} {k : Nat} {x : Int} : m_u f k x k = x := by simp [m_u]
theorem m_un {f : Nat → Int} {k j : Nat} {x : Int} (h : j ≠ k) : m_u f k x j = f j := by simp [m_u, h]
theorem p_isQuarter {k : Int} {g : m_G} {q : m_Post} (h : q (some (.inl (if 0 ≤ k ∧ k < 4 then 1 else 0))) g) : wX8_isQuarter.1 [.inl k] g q := by
  refine m_wp_of (by simp [m_fit]) (fun J hJ => ?_)
  simp only [m_ini, Nat.reduceSub, List.replicate]
  refine m_run_ok hJ (fun _ => false) 20 _ _ _ _ ?_
  simp only [e_go, rX8_isQuarter_0, rX8_isQuarter_1, rX8_isQuarter_4, rX8_isQuarter_5, rX8_isQuarter_6, rX8_isQuarter_9, rX8_isQuarter_10, rX8_isQuarter_13, rX8_isQuarter_14, e_goto, e_icmp, e_if, e_ild0, e_push, e_retz, m_b0, m_b01, m_b1, m_em, Classical.not_not, Nat.reduceBEq, Nat.reduceLT, Nat.reduceLeDiff, Nat.reduceAdd, cond_true, cond_false, Bool.or_false, Bool.false_or, Bool.or_true, Bool.true_or, beq_iff_eq, true_and, and_true, true_or, or_true, forall_const, not_true_eq_false, not_false_eq_true, false_implies, implies_true, Nat.reduceEqDiff, List.length_nil, List.length_cons]
  grind
theorem p_hasBit {w k : Int} {g : m_G} {q : m_Post} (h : q (some (.inl (if m_iand (m_ishr w k) 1 = 1 then 1 else 0))) g) : wX8_hasBit.1 [.inl w, .inl k] g q := by
  refine m_wp_of (by simp [m_fit]) (fun J hJ => ?_)
  simp only [m_ini, Nat.reduceSub, List.replicate]
  refine m_run_ok hJ (fun _ => false) 20 _ _ _ _ ?_
  simp only [e_go, rX8_hasBit_0, rX8_hasBit_1, rX8_hasBit_2, rX8_hasBit_3, rX8_hasBit_4, rX8_hasBit_5, rX8_hasBit_6, rX8_hasBit_9, rX8_hasBit_10, rX8_hasBit_13, rX8_hasBit_14, e_bin, e_goto, e_icmp, e_ild0, e_ild1, e_push, e_retz, m_b0, m_b01, m_b1, m_em, Classical.not_not, Nat.reduceBEq, Nat.reduceLT, Nat.reduceLeDiff, Nat.reduceAdd, cond_true, cond_false, Bool.or_false, Bool.false_or, Bool.or_true, Bool.true_or, beq_iff_eq, true_and, and_true, true_or, or_true, forall_const, not_true_eq_false, not_false_eq_true, false_implies, implies_true, Nat.reduceEqDiff, List.length_nil, List.length_cons]
  grind
/-- a word's cell in the class and in the reference -/
def m_wr (x y : Int) : Prop := (x = -1 ∧ y = -9) ∨ (x = y ∧ 0 ≤ y ∧ y ≤ 31)
/-- a house of the class holds what the row s of the reference holds -/
def h_R (g : m_G) (b : Nat) (s : Nat → Int) : Prop :=
  (g b 0 = s 0 ∧ g b 1 = s 1) ∧ ((0 ≤ s 0 ∧ s 0 ≤ 5) ∧ 0 ≤ s 1 ∧ s 1 ≤ 6) ∧ (∀ k, k < 8 → g (b + 6) k = s (2 + k)) ∧
  (∀ t : Nat, (t : Int) < s 0 → g (b + 1) t = s (10 + 6 * t) ∧ g (b + 2) t = s (11 + 6 * t) ∧ ∀ k, k < 4 → g (b + 3) (4 * t + k) = s (12 + 6 * t + k)) ∧
  (∀ l : Nat, (l : Int) < s 1 → (∀ k, k < 4 → m_wr (g (b + 5) (4 * l + k)) (s (40 + 4 * l + k))) ∧ 0 ≤ s (40 + 4 * l))
theorem p_hasSort {b : Nat} (hb : m_hs b) {t : Int} {g : m_G} {s : Nat → Int} {q : m_Post} (hR : h_R g b s) (h : q (some (.inl (if 0 ≤ t ∧ t < s 0 then 1 else 0))) g) : wX2_hasSort.1 [.inr (.inr b), .inl t] g q := by
  have e := hR.1.1
  refine m_wp_of (by simp [m_fit]) (fun J hJ => ?_)
  simp only [m_ini, Nat.reduceSub, List.replicate]
  refine m_run_ok hJ (fun _ => false) 20 _ _ _ _ ?_
  simp only [e_go, rX2_hasSort_0, rX2_hasSort_1, rX2_hasSort_4, rX2_hasSort_5, rX2_hasSort_6, rX2_hasSort_9, rX2_hasSort_12, rX2_hasSort_13, rX2_hasSort_16, rX2_hasSort_17, e_ald0, e_get, e_goto, e_icmp, e_if, e_ild1, e_push, e_retz, m_b0, m_b01, m_b1, m_em, Classical.not_not, Nat.reduceBEq, Nat.reduceLT, Nat.reduceLeDiff, Nat.reduceAdd, cond_true, cond_false, Bool.or_false, Bool.false_or, Bool.or_true, Bool.true_or, beq_iff_eq, true_and, and_true, true_or, or_true, forall_const, not_true_eq_false, not_false_eq_true, false_implies, implies_true, Nat.reduceEqDiff, List.length_nil, List.length_cons, obH hb, fvH0 hb, fsH0 hb, fvH1 hb, fsH1 hb, fvH2 hb, fvH3 hb, fvH4 hb, fvH5 hb, fvH6 hb, fvH7 hb, kdH1 hb, lnH1 hb, ltH1 hb, kdH2 hb, lnH2 hb, ltH2 hb, kdH3 hb, lnH3 hb, ltH3 hb, kdH4 hb, lnH4 hb, ltH4 hb, kdH5 hb, lnH5 hb, ltH5 hb, kdH6 hb, lnH6 hb, ltH6 hb]
  grind
theorem p_hasLane {b : Nat} (hb : m_hs b) {t : Int} {g : m_G} {s : Nat → Int} {q : m_Post} (hR : h_R g b s) (h : q (some (.inl (if 0 ≤ t ∧ t < s 1 then 1 else 0))) g) : wX2_hasLane.1 [.inr (.inr b), .inl t] g q := by
  have e := hR.1.2
  refine m_wp_of (by simp [m_fit]) (fun J hJ => ?_)
  simp only [m_ini, Nat.reduceSub, List.replicate]
  refine m_run_ok hJ (fun _ => false) 20 _ _ _ _ ?_
  simp only [e_go, rX2_hasLane_0, rX2_hasLane_1, rX2_hasLane_4, rX2_hasLane_5, rX2_hasLane_6, rX2_hasLane_9, rX2_hasLane_12, rX2_hasLane_13, rX2_hasLane_16, rX2_hasLane_17, e_ald0, e_get, e_goto, e_icmp, e_if, e_ild1, e_push, e_retz, m_b0, m_b01, m_b1, m_em, Classical.not_not, Nat.reduceBEq, Nat.reduceLT, Nat.reduceLeDiff, Nat.reduceAdd, cond_true, cond_false, Bool.or_false, Bool.false_or, Bool.or_true, Bool.true_or, beq_iff_eq, true_and, and_true, true_or, or_true, forall_const, not_true_eq_false, not_false_eq_true, false_implies, implies_true, Nat.reduceEqDiff, List.length_nil, List.length_cons, obH hb, fvH0 hb, fsH0 hb, fvH1 hb, fsH1 hb, fvH2 hb, fvH3 hb, fvH4 hb, fvH5 hb, fvH6 hb, fvH7 hb, kdH1 hb, lnH1 hb, ltH1 hb, kdH2 hb, lnH2 hb, ltH2 hb, kdH3 hb, lnH3 hb, ltH3 hb, kdH4 hb, lnH4 hb, ltH4 hb, kdH5 hb, lnH5 hb, ltH5 hb, kdH6 hb, lnH6 hb, ltH6 hb]
  grind
theorem m_ix {t k : Int} (h : 0 ≤ t) (h2 : t < 6) (h3 : 0 ≤ k) (h4 : k < 4) : m_wrap (m_wrap (t * 4) + k) = 4 * t + k := by
  simp only [m_wrap_eq]; omega
theorem m_ixN {t k : Int} (h : 0 ≤ t) (h2 : 0 ≤ k) : (4 * t + k).toNat = 4 * t.toNat + k.toNat := by omega
theorem h_R.com {g : m_G} {b : Nat} {s : Nat → Int} (h : h_R g b s) {t k : Int} (h0 : 0 ≤ t) (h1 : t < s 0) (h2 : 0 ≤ k) (h3 : k < 4) : g (b + 3) (4 * t + k).toNat = s (12 + 6 * t.toNat + k.toNat) := by
  rw [m_ixN h0 h2]
  exact (h.2.2.2.1 t.toNat (by omega)).2.2 k.toNat (by omega)
theorem p_comersOf {b : Nat} (hb : m_hs b) {t k : Int} {g : m_G} {s : Nat → Int} {q : m_Post} (hR : h_R g b s) (h : q (some (.inl (if (0 ≤ t ∧ t < s 0) ∧ 0 ≤ k ∧ k < 4 then s (12 + 6 * t.toNat + k.toNat) else 0))) g) : wX2_comersOf.1 [.inr (.inr b), .inl t, .inl k] g q := by
  have hz := hR.2.1
  refine m_wp_of (by simp [m_fit]) (fun J hJ => ?_)
  simp only [m_ini, Nat.reduceSub, List.replicate]
  refine m_run_ok hJ (fun _ => false) 30 _ _ _ _ ?_
  simp only [e_go, rX2_comersOf_0, rX2_comersOf_1, rX2_comersOf_2, rX2_comersOf_5, rX2_comersOf_8, rX2_comersOf_9, rX2_comersOf_12, rX2_comersOf_15, rX2_comersOf_16, rX2_comersOf_19, rX2_comersOf_20, rX2_comersOf_21, rX2_comersOf_22, rX2_comersOf_23, rX2_comersOf_24, rX2_comersOf_25, rX2_comersOf_28, rX2_comersOf_29, e_ald0, e_bin, e_callS1, e_callV2, e_get, e_goto, e_iald, e_if, e_ild1, e_ild2, e_push, e_pushn, e_pushs, e_ret, m_b0, m_b01, m_b1, m_em, Classical.not_not, Nat.reduceBEq, Nat.reduceLT, Nat.reduceLeDiff, Nat.reduceAdd, cond_true, cond_false, Bool.or_false, Bool.false_or, Bool.or_true, Bool.true_or, beq_iff_eq, true_and, and_true, true_or, or_true, forall_const, not_true_eq_false, not_false_eq_true, false_implies, implies_true, Nat.reduceEqDiff, List.length_nil, List.length_cons, obH hb, fvH0 hb, fsH0 hb, fvH1 hb, fsH1 hb, fvH2 hb, fvH3 hb, fvH4 hb, fvH5 hb, fvH6 hb, fvH7 hb, kdH1 hb, lnH1 hb, ltH1 hb, kdH2 hb, lnH2 hb, ltH2 hb, kdH3 hb, lnH3 hb, ltH3 hb, kdH4 hb, lnH4 hb, ltH4 hb, kdH5 hb, lnH5 hb, ltH5 hb, kdH6 hb, lnH6 hb, ltH6 hb]
  refine p_hasSort hb hR ?_
  simp only [e_go, rX2_comersOf_0, rX2_comersOf_1, rX2_comersOf_2, rX2_comersOf_5, rX2_comersOf_8, rX2_comersOf_9, rX2_comersOf_12, rX2_comersOf_15, rX2_comersOf_16, rX2_comersOf_19, rX2_comersOf_20, rX2_comersOf_21, rX2_comersOf_22, rX2_comersOf_23, rX2_comersOf_24, rX2_comersOf_25, rX2_comersOf_28, rX2_comersOf_29, e_ald0, e_bin, e_callS1, e_callV2, e_get, e_goto, e_iald, e_if, e_ild1, e_ild2, e_push, e_pushn, e_pushs, e_ret, m_b0, m_b01, m_b1, m_em, Classical.not_not, Nat.reduceBEq, Nat.reduceLT, Nat.reduceLeDiff, Nat.reduceAdd, cond_true, cond_false, Bool.or_false, Bool.false_or, Bool.or_true, Bool.true_or, beq_iff_eq, true_and, and_true, true_or, or_true, forall_const, not_true_eq_false, not_false_eq_true, false_implies, implies_true, Nat.reduceEqDiff, List.length_nil, List.length_cons, obH hb, fvH0 hb, fsH0 hb, fvH1 hb, fsH1 hb, fvH2 hb, fvH3 hb, fvH4 hb, fvH5 hb, fvH6 hb, fvH7 hb, kdH1 hb, lnH1 hb, ltH1 hb, kdH2 hb, lnH2 hb, ltH2 hb, kdH3 hb, lnH3 hb, ltH3 hb, kdH4 hb, lnH4 hb, ltH4 hb, kdH5 hb, lnH5 hb, ltH5 hb, kdH6 hb, lnH6 hb, ltH6 hb]
  refine ⟨fun c1 => ?_, fun c1 => ?_⟩
  · rw [if_neg (fun z => c1 z.1)] at h; exact h
  · refine p_isQuarter ?_
    simp only [e_go, rX2_comersOf_0, rX2_comersOf_1, rX2_comersOf_2, rX2_comersOf_5, rX2_comersOf_8, rX2_comersOf_9, rX2_comersOf_12, rX2_comersOf_15, rX2_comersOf_16, rX2_comersOf_19, rX2_comersOf_20, rX2_comersOf_21, rX2_comersOf_22, rX2_comersOf_23, rX2_comersOf_24, rX2_comersOf_25, rX2_comersOf_28, rX2_comersOf_29, e_ald0, e_bin, e_callS1, e_callV2, e_get, e_goto, e_iald, e_if, e_ild1, e_ild2, e_push, e_pushn, e_pushs, e_ret, m_b0, m_b01, m_b1, m_em, Classical.not_not, Nat.reduceBEq, Nat.reduceLT, Nat.reduceLeDiff, Nat.reduceAdd, cond_true, cond_false, Bool.or_false, Bool.false_or, Bool.or_true, Bool.true_or, beq_iff_eq, true_and, and_true, true_or, or_true, forall_const, not_true_eq_false, not_false_eq_true, false_implies, implies_true, Nat.reduceEqDiff, List.length_nil, List.length_cons, obH hb, fvH0 hb, fsH0 hb, fvH1 hb, fsH1 hb, fvH2 hb, fvH3 hb, fvH4 hb, fvH5 hb, fvH6 hb, fvH7 hb, kdH1 hb, lnH1 hb, ltH1 hb, kdH2 hb, lnH2 hb, ltH2 hb, kdH3 hb, lnH3 hb, ltH3 hb, kdH4 hb, lnH4 hb, ltH4 hb, kdH5 hb, lnH5 hb, ltH5 hb, kdH6 hb, lnH6 hb, ltH6 hb]
    refine ⟨fun c2 => ?_, fun c2 => ?_⟩
    · rw [if_neg (fun z => c2 z.2)] at h; exact h
    · rw [if_pos ⟨c1, c2⟩] at h
      rw [m_ix c1.1 (by omega) c2.1 c2.2, hR.com c1.1 c1.2 c2.1 c2.2]
      exact ⟨by omega, h⟩
theorem p_tellComers {b : Nat} (hb : m_hs b) {t k v : Int} {g : m_G} {s : Nat → Int} {q : m_Post} (hR : h_R g b s) (ht : 0 ≤ t ∧ t < s 0) (hk : 0 ≤ k ∧ k < 4) (h : q none (m_up g (b + 3) (4 * t + k).toNat v)) : wX2_tellComers.1 [.inr (.inr b), .inl t, .inl k, .inl v] g q := by
  have hz := hR.2.1
  refine m_wp_of (by simp [m_fit]) (fun J hJ => ?_)
  simp only [m_ini, Nat.reduceSub, List.replicate]
  refine m_run_ok hJ (fun _ => false) 30 _ _ _ _ ?_
  simp only [e_go, rX2_tellComers_0, rX2_tellComers_1, rX2_tellComers_2, rX2_tellComers_5, rX2_tellComers_8, rX2_tellComers_9, rX2_tellComers_12, rX2_tellComers_15, rX2_tellComers_16, rX2_tellComers_19, rX2_tellComers_20, rX2_tellComers_21, rX2_tellComers_22, rX2_tellComers_23, rX2_tellComers_24, rX2_tellComers_25, rX2_tellComers_26, e_ald0, e_bin, e_callS1, e_callV2, e_get, e_iast, e_if, e_ild1, e_ild2, e_ild3, e_push, e_pushn, e_pushs, e_retv, m_b0, m_b01, m_b1, m_em, Classical.not_not, Nat.reduceBEq, Nat.reduceLT, Nat.reduceLeDiff, Nat.reduceAdd, cond_true, cond_false, Bool.or_false, Bool.false_or, Bool.or_true, Bool.true_or, beq_iff_eq, true_and, and_true, true_or, or_true, forall_const, not_true_eq_false, not_false_eq_true, false_implies, implies_true, Nat.reduceEqDiff, List.length_nil, List.length_cons, obH hb, fvH0 hb, fsH0 hb, fvH1 hb, fsH1 hb, fvH2 hb, fvH3 hb, fvH4 hb, fvH5 hb, fvH6 hb, fvH7 hb, kdH1 hb, lnH1 hb, ltH1 hb, kdH2 hb, lnH2 hb, ltH2 hb, kdH3 hb, lnH3 hb, ltH3 hb, kdH4 hb, lnH4 hb, ltH4 hb, kdH5 hb, lnH5 hb, ltH5 hb, kdH6 hb, lnH6 hb, ltH6 hb]
  refine p_hasSort hb hR ?_
  simp only [e_go, rX2_tellComers_0, rX2_tellComers_1, rX2_tellComers_2, rX2_tellComers_5, rX2_tellComers_8, rX2_tellComers_9, rX2_tellComers_12, rX2_tellComers_15, rX2_tellComers_16, rX2_tellComers_19, rX2_tellComers_20, rX2_tellComers_21, rX2_tellComers_22, rX2_tellComers_23, rX2_tellComers_24, rX2_tellComers_25, rX2_tellComers_26, e_ald0, e_bin, e_callS1, e_callV2, e_get, e_iast, e_if, e_ild1, e_ild2, e_ild3, e_push, e_pushn, e_pushs, e_retv, m_b0, m_b01, m_b1, m_em, Classical.not_not, Nat.reduceBEq, Nat.reduceLT, Nat.reduceLeDiff, Nat.reduceAdd, cond_true, cond_false, Bool.or_false, Bool.false_or, Bool.or_true, Bool.true_or, beq_iff_eq, true_and, and_true, true_or, or_true, forall_const, not_true_eq_false, not_false_eq_true, false_implies, implies_true, Nat.reduceEqDiff, List.length_nil, List.length_cons, obH hb, fvH0 hb, fsH0 hb, fvH1 hb, fsH1 hb, fvH2 hb, fvH3 hb, fvH4 hb, fvH5 hb, fvH6 hb, fvH7 hb, kdH1 hb, lnH1 hb, ltH1 hb, kdH2 hb, lnH2 hb, ltH2 hb, kdH3 hb, lnH3 hb, ltH3 hb, kdH4 hb, lnH4 hb, ltH4 hb, kdH5 hb, lnH5 hb, ltH5 hb, kdH6 hb, lnH6 hb, ltH6 hb]
  refine ⟨fun c1 => absurd ht c1, fun c1 => ?_⟩
  refine p_isQuarter ?_
  simp only [e_go, rX2_tellComers_0, rX2_tellComers_1, rX2_tellComers_2, rX2_tellComers_5, rX2_tellComers_8, rX2_tellComers_9, rX2_tellComers_12, rX2_tellComers_15, rX2_tellComers_16, rX2_tellComers_19, rX2_tellComers_20, rX2_tellComers_21, rX2_tellComers_22, rX2_tellComers_23, rX2_tellComers_24, rX2_tellComers_25, rX2_tellComers_26, e_ald0, e_bin, e_callS1, e_callV2, e_get, e_iast, e_if, e_ild1, e_ild2, e_ild3, e_push, e_pushn, e_pushs, e_retv, m_b0, m_b01, m_b1, m_em, Classical.not_not, Nat.reduceBEq, Nat.reduceLT, Nat.reduceLeDiff, Nat.reduceAdd, cond_true, cond_false, Bool.or_false, Bool.false_or, Bool.or_true, Bool.true_or, beq_iff_eq, true_and, and_true, true_or, or_true, forall_const, not_true_eq_false, not_false_eq_true, false_implies, implies_true, Nat.reduceEqDiff, List.length_nil, List.length_cons, obH hb, fvH0 hb, fsH0 hb, fvH1 hb, fsH1 hb, fvH2 hb, fvH3 hb, fvH4 hb, fvH5 hb, fvH6 hb, fvH7 hb, kdH1 hb, lnH1 hb, ltH1 hb, kdH2 hb, lnH2 hb, ltH2 hb, kdH3 hb, lnH3 hb, ltH3 hb, kdH4 hb, lnH4 hb, ltH4 hb, kdH5 hb, lnH5 hb, ltH5 hb, kdH6 hb, lnH6 hb, ltH6 hb]
  refine ⟨fun c2 => absurd hk c2, fun c2 => ?_⟩
  rw [m_ix c1.1 (by omega) c2.1 c2.2]
  exact ⟨by omega, h⟩
/-- the row behind a told number of comers -/
theorem h_R.tell {g : m_G} {b : Nat} (hb : m_hs b) {s : Nat → Int} (h : h_R g b s) {t k v : Int} (h0 : 0 ≤ t) (h1 : t < s 0) (h2 : 0 ≤ k) (h3 : k < 4) : h_R (m_up g (b + 3) (4 * t + k).toNat v) b (m_u s (12 + 6 * t.toNat + k.toNat) v) := by
  rw [m_ixN h0 h2]
  obtain ⟨⟨a1, a2⟩, a3, a4, a5, a6⟩ := h
  have ne : ∀ j, j ≠ b + 3 → m_up g (b + 3) (4 * t.toNat + k.toNat) v j = g j := fun j hj => m_up_ne hj
  have us : ∀ j, j < 10 ∨ 40 ≤ j → m_u s (12 + 6 * t.toNat + k.toNat) v j = s j := fun j hj => m_un (by omega)
  unfold h_R
  rw [ne b (by omega), us 0 (by omega), us 1 (by omega)]
  refine ⟨⟨a1, a2⟩, a3, fun j hj => ?_, fun j hj => ?_, fun j hj => ⟨fun i hi => ?_, ?_⟩⟩
  · rw [ne _ (by omega), us _ (by omega)]; exact a4 j hj
  · obtain ⟨c1, c2, c3⟩ := a5 j hj
    rw [ne _ (by omega), ne _ (by omega), m_un (by omega), m_un (by omega)]
    refine ⟨c1, c2, fun i hi => ?_⟩
    rw [m_up_eq]
    by_cases e : 4 * j + i = 4 * t.toNat + k.toNat
    · rw [e, m_us, show 12 + 6 * j + i = 12 + 6 * t.toNat + k.toNat by omega, m_us]
    · rw [m_un e, m_un (by omega)]; exact c3 i hi
  · rw [ne _ (by omega), us _ (by omega)]; exact (a6 j hj).1 i hi
  · rw [us _ (by omega)]; exact (a6 j hj).2
theorem p_tellNeed {b : Nat} (hb : m_hs b) {t k v : Int} {g : m_G} {s : Nat → Int} {q : m_Post} (hR : h_R g b s) (ht : 0 ≤ t ∧ t < s 0) (hk : 0 ≤ k ∧ k < 4) (h : q none (m_up g (b + 4) (4 * t + k).toNat v)) : wX2_tellNeed.1 [.inr (.inr b), .inl t, .inl k, .inl v] g q := by
  have hz := hR.2.1
  refine m_wp_of (by simp [m_fit]) (fun J hJ => ?_)
  simp only [m_ini, Nat.reduceSub, List.replicate]
  refine m_run_ok hJ (fun _ => false) 30 _ _ _ _ ?_
  simp only [e_go, rX2_tellNeed_0, rX2_tellNeed_1, rX2_tellNeed_2, rX2_tellNeed_5, rX2_tellNeed_8, rX2_tellNeed_9, rX2_tellNeed_12, rX2_tellNeed_15, rX2_tellNeed_16, rX2_tellNeed_19, rX2_tellNeed_20, rX2_tellNeed_21, rX2_tellNeed_22, rX2_tellNeed_23, rX2_tellNeed_24, rX2_tellNeed_25, rX2_tellNeed_26, e_ald0, e_bin, e_callS1, e_callV2, e_get, e_iast, e_if, e_ild1, e_ild2, e_ild3, e_push, e_pushn, e_pushs, e_retv, m_b0, m_b01, m_b1, m_em, Classical.not_not, Nat.reduceBEq, Nat.reduceLT, Nat.reduceLeDiff, Nat.reduceAdd, cond_true, cond_false, Bool.or_false, Bool.false_or, Bool.or_true, Bool.true_or, beq_iff_eq, true_and, and_true, true_or, or_true, forall_const, not_true_eq_false, not_false_eq_true, false_implies, implies_true, Nat.reduceEqDiff, List.length_nil, List.length_cons, obH hb, fvH0 hb, fsH0 hb, fvH1 hb, fsH1 hb, fvH2 hb, fvH3 hb, fvH4 hb, fvH5 hb, fvH6 hb, fvH7 hb, kdH1 hb, lnH1 hb, ltH1 hb, kdH2 hb, lnH2 hb, ltH2 hb, kdH3 hb, lnH3 hb, ltH3 hb, kdH4 hb, lnH4 hb, ltH4 hb, kdH5 hb, lnH5 hb, ltH5 hb, kdH6 hb, lnH6 hb, ltH6 hb]
  refine p_hasSort hb hR ?_
  simp only [e_go, rX2_tellNeed_0, rX2_tellNeed_1, rX2_tellNeed_2, rX2_tellNeed_5, rX2_tellNeed_8, rX2_tellNeed_9, rX2_tellNeed_12, rX2_tellNeed_15, rX2_tellNeed_16, rX2_tellNeed_19, rX2_tellNeed_20, rX2_tellNeed_21, rX2_tellNeed_22, rX2_tellNeed_23, rX2_tellNeed_24, rX2_tellNeed_25, rX2_tellNeed_26, e_ald0, e_bin, e_callS1, e_callV2, e_get, e_iast, e_if, e_ild1, e_ild2, e_ild3, e_push, e_pushn, e_pushs, e_retv, m_b0, m_b01, m_b1, m_em, Classical.not_not, Nat.reduceBEq, Nat.reduceLT, Nat.reduceLeDiff, Nat.reduceAdd, cond_true, cond_false, Bool.or_false, Bool.false_or, Bool.or_true, Bool.true_or, beq_iff_eq, true_and, and_true, true_or, or_true, forall_const, not_true_eq_false, not_false_eq_true, false_implies, implies_true, Nat.reduceEqDiff, List.length_nil, List.length_cons, obH hb, fvH0 hb, fsH0 hb, fvH1 hb, fsH1 hb, fvH2 hb, fvH3 hb, fvH4 hb, fvH5 hb, fvH6 hb, fvH7 hb, kdH1 hb, lnH1 hb, ltH1 hb, kdH2 hb, lnH2 hb, ltH2 hb, kdH3 hb, lnH3 hb, ltH3 hb, kdH4 hb, lnH4 hb, ltH4 hb, kdH5 hb, lnH5 hb, ltH5 hb, kdH6 hb, lnH6 hb, ltH6 hb]
  refine ⟨fun c1 => absurd ht c1, fun c1 => ?_⟩
  refine p_isQuarter ?_
  simp only [e_go, rX2_tellNeed_0, rX2_tellNeed_1, rX2_tellNeed_2, rX2_tellNeed_5, rX2_tellNeed_8, rX2_tellNeed_9, rX2_tellNeed_12, rX2_tellNeed_15, rX2_tellNeed_16, rX2_tellNeed_19, rX2_tellNeed_20, rX2_tellNeed_21, rX2_tellNeed_22, rX2_tellNeed_23, rX2_tellNeed_24, rX2_tellNeed_25, rX2_tellNeed_26, e_ald0, e_bin, e_callS1, e_callV2, e_get, e_iast, e_if, e_ild1, e_ild2, e_ild3, e_push, e_pushn, e_pushs, e_retv, m_b0, m_b01, m_b1, m_em, Classical.not_not, Nat.reduceBEq, Nat.reduceLT, Nat.reduceLeDiff, Nat.reduceAdd, cond_true, cond_false, Bool.or_false, Bool.false_or, Bool.or_true, Bool.true_or, beq_iff_eq, true_and, and_true, true_or, or_true, forall_const, not_true_eq_false, not_false_eq_true, false_implies, implies_true, Nat.reduceEqDiff, List.length_nil, List.length_cons, obH hb, fvH0 hb, fsH0 hb, fvH1 hb, fsH1 hb, fvH2 hb, fvH3 hb, fvH4 hb, fvH5 hb, fvH6 hb, fvH7 hb, kdH1 hb, lnH1 hb, ltH1 hb, kdH2 hb, lnH2 hb, ltH2 hb, kdH3 hb, lnH3 hb, ltH3 hb, kdH4 hb, lnH4 hb, ltH4 hb, kdH5 hb, lnH5 hb, ltH5 hb, kdH6 hb, lnH6 hb, ltH6 hb]
  refine ⟨fun c2 => absurd hk c2, fun c2 => ?_⟩
  rw [m_ix c1.1 (by omega) c2.1 c2.2]
  exact ⟨by omega, h⟩
/-- what one of sort t that comes in quarter k needs -/
def h_N (g : m_G) (b : Nat) (s : Nat → Int) (nd : Nat → Nat → Int) : Prop := ∀ t k : Nat, (t : Int) < s 0 → k < 4 → nd t k = if g (b + 4) (4 * t + k) = 0 then s (10 + 6 * t) else g (b + 4) (4 * t + k)
theorem p_needOf {b : Nat} (hb : m_hs b) {t k : Int} {g : m_G} {s : Nat → Int} {nd : Nat → Nat → Int} {q : m_Post} (hR : h_R g b s) (hN : h_N g b s nd) (ht : 0 ≤ t ∧ t < s 0) (hk : 0 ≤ k ∧ k < 4) (h : q (some (.inl (nd t.toNat k.toNat))) g) : wX2_needOf.1 [.inr (.inr b), .inl t, .inl k] g q := by
  have hz := hR.2.1
  refine m_wp_of (by simp [m_fit]) (fun J hJ => ?_)
  simp only [m_ini, Nat.reduceSub, List.replicate]
  refine m_run_ok hJ (fun _ => false) 30 _ _ _ _ ?_
  simp only [e_go, rX2_needOf_0, rX2_needOf_1, rX2_needOf_2, rX2_needOf_5, rX2_needOf_8, rX2_needOf_9, rX2_needOf_12, rX2_needOf_15, rX2_needOf_16, rX2_needOf_17, rX2_needOf_18, rX2_needOf_21, rX2_needOf_22, rX2_needOf_23, rX2_needOf_24, rX2_needOf_25, rX2_needOf_26, rX2_needOf_27, rX2_needOf_28, rX2_needOf_29, rX2_needOf_32, rX2_needOf_33, rX2_needOf_36, rX2_needOf_37, rX2_needOf_38, rX2_needOf_41, rX2_needOf_42, e_ald0, e_bin, e_callS1, e_callV2, e_get, e_goto, e_iald, e_if, e_ild1, e_ild2, e_ild3, e_ist3, e_nl0, e_nl1, e_nl2, e_push, e_pushn, e_pushs, e_ret, m_b0, m_b01, m_b1, m_em, Classical.not_not, Nat.reduceBEq, Nat.reduceLT, Nat.reduceLeDiff, Nat.reduceAdd, cond_true, cond_false, Bool.or_false, Bool.false_or, Bool.or_true, Bool.true_or, beq_iff_eq, true_and, and_true, true_or, or_true, forall_const, not_true_eq_false, not_false_eq_true, false_implies, implies_true, Nat.reduceEqDiff, List.length_nil, List.length_cons, obH hb, fvH0 hb, fsH0 hb, fvH1 hb, fsH1 hb, fvH2 hb, fvH3 hb, fvH4 hb, fvH5 hb, fvH6 hb, fvH7 hb, kdH1 hb, lnH1 hb, ltH1 hb, kdH2 hb, lnH2 hb, ltH2 hb, kdH3 hb, lnH3 hb, ltH3 hb, kdH4 hb, lnH4 hb, ltH4 hb, kdH5 hb, lnH5 hb, ltH5 hb, kdH6 hb, lnH6 hb, ltH6 hb]
  refine p_hasSort hb hR ?_
  simp only [e_go, rX2_needOf_0, rX2_needOf_1, rX2_needOf_2, rX2_needOf_5, rX2_needOf_8, rX2_needOf_9, rX2_needOf_12, rX2_needOf_15, rX2_needOf_16, rX2_needOf_17, rX2_needOf_18, rX2_needOf_21, rX2_needOf_22, rX2_needOf_23, rX2_needOf_24, rX2_needOf_25, rX2_needOf_26, rX2_needOf_27, rX2_needOf_28, rX2_needOf_29, rX2_needOf_32, rX2_needOf_33, rX2_needOf_36, rX2_needOf_37, rX2_needOf_38, rX2_needOf_41, rX2_needOf_42, e_ald0, e_bin, e_callS1, e_callV2, e_get, e_goto, e_iald, e_if, e_ild1, e_ild2, e_ild3, e_ist3, e_nl0, e_nl1, e_nl2, e_push, e_pushn, e_pushs, e_ret, m_b0, m_b01, m_b1, m_em, Classical.not_not, Nat.reduceBEq, Nat.reduceLT, Nat.reduceLeDiff, Nat.reduceAdd, cond_true, cond_false, Bool.or_false, Bool.false_or, Bool.or_true, Bool.true_or, beq_iff_eq, true_and, and_true, true_or, or_true, forall_const, not_true_eq_false, not_false_eq_true, false_implies, implies_true, Nat.reduceEqDiff, List.length_nil, List.length_cons, obH hb, fvH0 hb, fsH0 hb, fvH1 hb, fsH1 hb, fvH2 hb, fvH3 hb, fvH4 hb, fvH5 hb, fvH6 hb, fvH7 hb, kdH1 hb, lnH1 hb, ltH1 hb, kdH2 hb, lnH2 hb, ltH2 hb, kdH3 hb, lnH3 hb, ltH3 hb, kdH4 hb, lnH4 hb, ltH4 hb, kdH5 hb, lnH5 hb, ltH5 hb, kdH6 hb, lnH6 hb, ltH6 hb]
  refine ⟨fun c1 => absurd ht c1, fun c1 => ?_⟩
  refine p_isQuarter ?_
  simp only [e_go, rX2_needOf_0, rX2_needOf_1, rX2_needOf_2, rX2_needOf_5, rX2_needOf_8, rX2_needOf_9, rX2_needOf_12, rX2_needOf_15, rX2_needOf_16, rX2_needOf_17, rX2_needOf_18, rX2_needOf_21, rX2_needOf_22, rX2_needOf_23, rX2_needOf_24, rX2_needOf_25, rX2_needOf_26, rX2_needOf_27, rX2_needOf_28, rX2_needOf_29, rX2_needOf_32, rX2_needOf_33, rX2_needOf_36, rX2_needOf_37, rX2_needOf_38, rX2_needOf_41, rX2_needOf_42, e_ald0, e_bin, e_callS1, e_callV2, e_get, e_goto, e_iald, e_if, e_ild1, e_ild2, e_ild3, e_ist3, e_nl0, e_nl1, e_nl2, e_push, e_pushn, e_pushs, e_ret, m_b0, m_b01, m_b1, m_em, Classical.not_not, Nat.reduceBEq, Nat.reduceLT, Nat.reduceLeDiff, Nat.reduceAdd, cond_true, cond_false, Bool.or_false, Bool.false_or, Bool.or_true, Bool.true_or, beq_iff_eq, true_and, and_true, true_or, or_true, forall_const, not_true_eq_false, not_false_eq_true, false_implies, implies_true, Nat.reduceEqDiff, List.length_nil, List.length_cons, obH hb, fvH0 hb, fsH0 hb, fvH1 hb, fsH1 hb, fvH2 hb, fvH3 hb, fvH4 hb, fvH5 hb, fvH6 hb, fvH7 hb, kdH1 hb, lnH1 hb, ltH1 hb, kdH2 hb, lnH2 hb, ltH2 hb, kdH3 hb, lnH3 hb, ltH3 hb, kdH4 hb, lnH4 hb, ltH4 hb, kdH5 hb, lnH5 hb, ltH5 hb, kdH6 hb, lnH6 hb, ltH6 hb]
  refine ⟨fun c2 => ?_, fun c2 => absurd hk c2⟩
  have hn := hN t.toNat k.toNat (by omega) (by omega)
  have hs := (hR.2.2.2.1 t.toNat (by omega)).1
  rw [m_ix c1.1 (by omega) c2.1 c2.2, m_ixN ht.1 hk.1]
  refine ⟨by omega, fun c3 => ?_, fun c3 => ?_⟩
  · rw [if_neg c3] at hn; rw [hn] at h; exact h
  · rw [if_pos c3] at hn; rw [hn] at h
    rw [hs]; exact ⟨by omega, h⟩
/-- the word of lane l in quarter k -/
def wd (s : Nat → Int) (l : Nat) : Nat → Int
  | 0 => s (40 + 4 * l)
  | k + 1 => if s (40 + 4 * l + (k + 1)) < 0 then wd s l k else s (40 + 4 * l + (k + 1))
