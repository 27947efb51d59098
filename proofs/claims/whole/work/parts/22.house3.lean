set_option maxRecDepth 20000
set_option maxHeartbeats 2000000
theorem m_ixW {l k : Nat} (h : l < 6) (h2 : k < 4) : m_wrap (m_wrap ((l : Int) * 4) + (k : Int)) = ((4 * l + k : Nat) : Int) := by
  rw [m_ix (by omega) (by omega) (by omega) (by omega)]; omega
theorem m_ixZ {l : Nat} (h : l < 6) : m_wrap ((l : Int) * 4) = ((4 * l : Nat) : Int) := by
  rw [m_w1 (by omega) (by omega)]; omega
theorem h_R.word {g : m_G} {b : Nat} {s : Nat → Int} (h : h_R g b s) {l k : Nat} {v : Int} (hk : k < 4) (hv : 0 ≤ v ∧ v ≤ 31) : h_R (m_up g (b + 5) (4 * l + k) v) b (m_u s (40 + 4 * l + k) v) := by
  obtain ⟨⟨a1, a2⟩, a3, a4, a5, a6⟩ := h
  have ne : ∀ j, j ≠ b + 5 → m_up g (b + 5) (4 * l + k) v j = g j := fun j hj => m_up_ne hj
  have us : ∀ j, j < 40 → m_u s (40 + 4 * l + k) v j = s j := fun j hj => m_un (by omega)
  unfold h_R
  rw [ne b (by omega), us 0 (by omega), us 1 (by omega)]
  refine ⟨⟨a1, a2⟩, a3, fun j hj => ?_, fun j hj => ?_, fun j hj => ⟨fun i hi => ?_, ?_⟩⟩
  · rw [ne _ (by omega), us _ (by omega)]; exact a4 j hj
  · obtain ⟨c1, c2, c3⟩ := a5 j hj
    rw [ne _ (by omega), ne _ (by omega), us _ (by omega), us _ (by omega)]
    refine ⟨c1, c2, fun i hi => ?_⟩
    rw [ne _ (by omega), us _ (by omega)]
    exact c3 i hi
  · rw [m_up_eq]
    by_cases e : 4 * j + i = 4 * l + k
    · rw [e, m_us, show 40 + 4 * j + i = 40 + 4 * l + k by omega, m_us]; exact Or.inr ⟨rfl, hv⟩
    · rw [m_un e, m_un (by omega)]; exact (a6 j hj).1 i hi
  · by_cases e : 40 + 4 * j = 40 + 4 * l + k
    · rw [e, m_us]; exact hv.1
    · rw [m_un e]; exact (a6 j hj).2
theorem p_tellWord {b : Nat} (hb : m_hs b) {l k : Nat} {v : Int} {g : m_G} {s : Nat → Int} {q : m_Post} (hR : h_R g b s) (ht : (l : Int) < s 1) (hk : k < 4) (h : q none (m_up g (b + 5) (4 * l + k) v)) : wX2_tellWord.1 [.inr (.inr b), .inl l, .inl k, .inl v] g q := by
  have hz := hR.2.1
  have hl : l < 6 := by omega
  have e2 := m_ixW hl hk
  refine m_wp_of (by simp [m_fit]) (fun J hJ => ?_)
  simp only [m_ini, Nat.reduceSub, List.replicate]
  refine m_run_ok hJ (fun _ => false) 30 _ _ _ _ ?_
  simp only [e_go, rX2_tellWord_0, rX2_tellWord_1, rX2_tellWord_2, rX2_tellWord_5, rX2_tellWord_8, rX2_tellWord_9, rX2_tellWord_12, rX2_tellWord_15, rX2_tellWord_16, rX2_tellWord_19, rX2_tellWord_20, rX2_tellWord_21, rX2_tellWord_22, rX2_tellWord_23, rX2_tellWord_24, rX2_tellWord_25, rX2_tellWord_26, e_ald0, e_bin, e_callS1, e_callV2, e_get, e_iast, e_if, e_ild1, e_ild2, e_ild3, e_push, e_pushn, e_pushs, e_retv, m_b0, m_b01, m_b1, m_em, Classical.not_not, Nat.reduceBEq, Nat.reduceLT, Nat.reduceLeDiff, Nat.reduceAdd, cond_true, cond_false, Bool.or_false, Bool.false_or, Bool.or_true, Bool.true_or, beq_iff_eq, true_and, and_true, true_or, or_true, forall_const, not_true_eq_false, not_false_eq_true, false_implies, implies_true, Nat.reduceEqDiff, List.length_nil, List.length_cons, obH hb, fvH0 hb, fsH0 hb, fvH1 hb, fsH1 hb, fvH2 hb, fvH3 hb, fvH4 hb, fvH5 hb, fvH6 hb, fvH7 hb, kdH1 hb, lnH1 hb, ltH1 hb, kdH2 hb, lnH2 hb, ltH2 hb, kdH3 hb, lnH3 hb, ltH3 hb, kdH4 hb, lnH4 hb, ltH4 hb, kdH5 hb, lnH5 hb, ltH5 hb, kdH6 hb, lnH6 hb, ltH6 hb, e2, Int.toNat_natCast]
  refine p_hasLane hb hR ?_
  simp only [e_go, rX2_tellWord_0, rX2_tellWord_1, rX2_tellWord_2, rX2_tellWord_5, rX2_tellWord_8, rX2_tellWord_9, rX2_tellWord_12, rX2_tellWord_15, rX2_tellWord_16, rX2_tellWord_19, rX2_tellWord_20, rX2_tellWord_21, rX2_tellWord_22, rX2_tellWord_23, rX2_tellWord_24, rX2_tellWord_25, rX2_tellWord_26, e_ald0, e_bin, e_callS1, e_callV2, e_get, e_iast, e_if, e_ild1, e_ild2, e_ild3, e_push, e_pushn, e_pushs, e_retv, m_b0, m_b01, m_b1, m_em, Classical.not_not, Nat.reduceBEq, Nat.reduceLT, Nat.reduceLeDiff, Nat.reduceAdd, cond_true, cond_false, Bool.or_false, Bool.false_or, Bool.or_true, Bool.true_or, beq_iff_eq, true_and, and_true, true_or, or_true, forall_const, not_true_eq_false, not_false_eq_true, false_implies, implies_true, Nat.reduceEqDiff, List.length_nil, List.length_cons, obH hb, fvH0 hb, fsH0 hb, fvH1 hb, fsH1 hb, fvH2 hb, fvH3 hb, fvH4 hb, fvH5 hb, fvH6 hb, fvH7 hb, kdH1 hb, lnH1 hb, ltH1 hb, kdH2 hb, lnH2 hb, ltH2 hb, kdH3 hb, lnH3 hb, ltH3 hb, kdH4 hb, lnH4 hb, ltH4 hb, kdH5 hb, lnH5 hb, ltH5 hb, kdH6 hb, lnH6 hb, ltH6 hb, e2, Int.toNat_natCast]
  refine ⟨fun c1 => absurd ⟨by omega, ht⟩ c1, fun c1 => ?_⟩
  refine p_isQuarter ?_
  simp only [e_go, rX2_tellWord_0, rX2_tellWord_1, rX2_tellWord_2, rX2_tellWord_5, rX2_tellWord_8, rX2_tellWord_9, rX2_tellWord_12, rX2_tellWord_15, rX2_tellWord_16, rX2_tellWord_19, rX2_tellWord_20, rX2_tellWord_21, rX2_tellWord_22, rX2_tellWord_23, rX2_tellWord_24, rX2_tellWord_25, rX2_tellWord_26, e_ald0, e_bin, e_callS1, e_callV2, e_get, e_iast, e_if, e_ild1, e_ild2, e_ild3, e_push, e_pushn, e_pushs, e_retv, m_b0, m_b01, m_b1, m_em, Classical.not_not, Nat.reduceBEq, Nat.reduceLT, Nat.reduceLeDiff, Nat.reduceAdd, cond_true, cond_false, Bool.or_false, Bool.false_or, Bool.or_true, Bool.true_or, beq_iff_eq, true_and, and_true, true_or, or_true, forall_const, not_true_eq_false, not_false_eq_true, false_implies, implies_true, Nat.reduceEqDiff, List.length_nil, List.length_cons, obH hb, fvH0 hb, fsH0 hb, fvH1 hb, fsH1 hb, fvH2 hb, fvH3 hb, fvH4 hb, fvH5 hb, fvH6 hb, fvH7 hb, kdH1 hb, lnH1 hb, ltH1 hb, kdH2 hb, lnH2 hb, ltH2 hb, kdH3 hb, lnH3 hb, ltH3 hb, kdH4 hb, lnH4 hb, ltH4 hb, kdH5 hb, lnH5 hb, ltH5 hb, kdH6 hb, lnH6 hb, ltH6 hb, e2, Int.toNat_natCast]
  refine ⟨fun c2 => absurd ⟨by omega, by omega⟩ c2, fun c2 => ?_⟩
  exact ⟨by omega, h⟩
/-- a word from quarter 0 on, no changes -/
def s_alone (s : Nat → Int) (l : Nat) (v : Int) : Nat → Int := fun j => if j = 40 + 4 * l then v else if 40 + 4 * l < j ∧ j < 44 + 4 * l then -9 else s j
theorem p_tellWordAlone {b : Nat} (hb : m_hs b) {l : Nat} {v : Int} {g : m_G} {q : m_Post} (ht : (l : Int) < g b 1) (hl : l < 6) (h : ∀ g' : m_G, (∀ j, j ≠ b + 5 → g' j = g j) → (∀ n, g' (b + 5) n = if n = 4 * l then v else if 4 * l < n ∧ n < 4 * l + 4 then -1 else g (b + 5) n) → q none g') : wX2_tellWordAlone.1 [.inr (.inr b), .inl l, .inl v] g q := by
  refine m_wp_of (by simp [m_fit]) (fun J hJ => ?_)
  simp only [m_ini, Nat.reduceSub, List.replicate]
  have e0 := m_ixZ hl
  have loop : ∀ (n i : Nat) (g' : m_G), i + n = 4 → 1 ≤ i → (∀ j, j ≠ b + 5 → g' j = g j) → (∀ n, g' (b + 5) n = if n = 4 * l then v else if 4 * l < n ∧ n < 4 * l + i then -1 else g (b + 5) n) → J 24 [some (.inr (.inr b)), some (.inl l), some (.inl v), some (.inl (i : Int))] [] g' := by
    intro n
    induction n with
    | zero =>
      intro i g' hi h1 hg1 hg2
      refine m_run_ok hJ (fun pc => pc == 24) 60 _ _ _ _ ?_
      simp only [e_go, rX2_tellWordAlone_0, rX2_tellWordAlone_1, rX2_tellWordAlone_4, rX2_tellWordAlone_5, rX2_tellWordAlone_6, rX2_tellWordAlone_9, rX2_tellWordAlone_12, rX2_tellWordAlone_13, rX2_tellWordAlone_14, rX2_tellWordAlone_17, rX2_tellWordAlone_18, rX2_tellWordAlone_19, rX2_tellWordAlone_20, rX2_tellWordAlone_21, rX2_tellWordAlone_22, rX2_tellWordAlone_23, rX2_tellWordAlone_24, rX2_tellWordAlone_25, rX2_tellWordAlone_26, rX2_tellWordAlone_29, rX2_tellWordAlone_30, rX2_tellWordAlone_33, rX2_tellWordAlone_34, rX2_tellWordAlone_35, rX2_tellWordAlone_36, rX2_tellWordAlone_37, rX2_tellWordAlone_38, rX2_tellWordAlone_39, rX2_tellWordAlone_40, rX2_tellWordAlone_43, rX2_tellWordAlone_46, e_ald0, e_bin, e_get, e_goto, e_iast, e_icmp, e_if, e_ild1, e_ild2, e_ild3, e_inc3, e_ist3, e_nl0, e_nl1, e_nl2, e_push, e_retv, m_b0, m_b01, m_b1, m_em, Classical.not_not, Nat.reduceBEq, Nat.reduceLT, Nat.reduceLeDiff, Nat.reduceAdd, cond_true, cond_false, Bool.or_false, Bool.false_or, Bool.or_true, Bool.true_or, beq_iff_eq, true_and, and_true, true_or, or_true, forall_const, not_true_eq_false, not_false_eq_true, false_implies, implies_true, Nat.reduceEqDiff, List.length_nil, List.length_cons, obH hb, fvH0 hb, fsH0 hb, fvH1 hb, fsH1 hb, fvH2 hb, fvH3 hb, fvH4 hb, fvH5 hb, fvH6 hb, fvH7 hb, kdH1 hb, lnH1 hb, ltH1 hb, kdH2 hb, lnH2 hb, ltH2 hb, kdH3 hb, lnH3 hb, ltH3 hb, kdH4 hb, lnH4 hb, ltH4 hb, kdH5 hb, lnH5 hb, ltH5 hb, kdH6 hb, lnH6 hb, ltH6 hb]
      refine ⟨fun _ => ?_, fun c => absurd c (by omega)⟩
      rw [show i = 4 by omega] at hg2
      exact h g' hg1 hg2
    | succ n ih =>
      intro i g' hi h1 hg1 hg2
      refine m_run_ok hJ (fun pc => pc == 24) 60 _ _ _ _ ?_
      simp only [e_go, rX2_tellWordAlone_0, rX2_tellWordAlone_1, rX2_tellWordAlone_4, rX2_tellWordAlone_5, rX2_tellWordAlone_6, rX2_tellWordAlone_9, rX2_tellWordAlone_12, rX2_tellWordAlone_13, rX2_tellWordAlone_14, rX2_tellWordAlone_17, rX2_tellWordAlone_18, rX2_tellWordAlone_19, rX2_tellWordAlone_20, rX2_tellWordAlone_21, rX2_tellWordAlone_22, rX2_tellWordAlone_23, rX2_tellWordAlone_24, rX2_tellWordAlone_25, rX2_tellWordAlone_26, rX2_tellWordAlone_29, rX2_tellWordAlone_30, rX2_tellWordAlone_33, rX2_tellWordAlone_34, rX2_tellWordAlone_35, rX2_tellWordAlone_36, rX2_tellWordAlone_37, rX2_tellWordAlone_38, rX2_tellWordAlone_39, rX2_tellWordAlone_40, rX2_tellWordAlone_43, rX2_tellWordAlone_46, e_ald0, e_bin, e_get, e_goto, e_iast, e_icmp, e_if, e_ild1, e_ild2, e_ild3, e_inc3, e_ist3, e_nl0, e_nl1, e_nl2, e_push, e_retv, m_b0, m_b01, m_b1, m_em, Classical.not_not, Nat.reduceBEq, Nat.reduceLT, Nat.reduceLeDiff, Nat.reduceAdd, cond_true, cond_false, Bool.or_false, Bool.false_or, Bool.or_true, Bool.true_or, beq_iff_eq, true_and, and_true, true_or, or_true, forall_const, not_true_eq_false, not_false_eq_true, false_implies, implies_true, Nat.reduceEqDiff, List.length_nil, List.length_cons, obH hb, fvH0 hb, fsH0 hb, fvH1 hb, fsH1 hb, fvH2 hb, fvH3 hb, fvH4 hb, fvH5 hb, fvH6 hb, fvH7 hb, kdH1 hb, lnH1 hb, ltH1 hb, kdH2 hb, lnH2 hb, ltH2 hb, kdH3 hb, lnH3 hb, ltH3 hb, kdH4 hb, lnH4 hb, ltH4 hb, kdH5 hb, lnH5 hb, ltH5 hb, kdH6 hb, lnH6 hb, ltH6 hb]
      refine ⟨fun c => absurd c (by omega), fun _ => ?_⟩
      rw [m_ixW hl (by omega), Int.toNat_natCast, m_w2 (by omega) (by omega)]
      refine ⟨by omega, ?_⟩
      refine ih (i + 1) _ (by omega) (by omega) (fun j hj => ?_) (fun n => ?_)
      · rw [m_up_ne hj]; exact hg1 j hj
      · rw [m_up_eq]
        by_cases e : n = 4 * l + i
        · rw [e, m_us, if_neg (by omega), if_pos (by omega)]
        · rw [m_un e, hg2 n]
          by_cases e2 : n = 4 * l
          · rw [if_pos e2, if_pos e2]
          · rw [if_neg e2, if_neg e2]
            by_cases e3 : 4 * l < n ∧ n < 4 * l + i
            · rw [if_pos e3, if_pos (by omega)]
            · rw [if_neg e3, if_neg (by omega)]
  refine m_run_ok hJ (fun pc => pc == 24) 60 _ _ _ _ ?_
  simp only [e_go, rX2_tellWordAlone_0, rX2_tellWordAlone_1, rX2_tellWordAlone_4, rX2_tellWordAlone_5, rX2_tellWordAlone_6, rX2_tellWordAlone_9, rX2_tellWordAlone_12, rX2_tellWordAlone_13, rX2_tellWordAlone_14, rX2_tellWordAlone_17, rX2_tellWordAlone_18, rX2_tellWordAlone_19, rX2_tellWordAlone_20, rX2_tellWordAlone_21, rX2_tellWordAlone_22, rX2_tellWordAlone_23, rX2_tellWordAlone_24, rX2_tellWordAlone_25, rX2_tellWordAlone_26, rX2_tellWordAlone_29, rX2_tellWordAlone_30, rX2_tellWordAlone_33, rX2_tellWordAlone_34, rX2_tellWordAlone_35, rX2_tellWordAlone_36, rX2_tellWordAlone_37, rX2_tellWordAlone_38, rX2_tellWordAlone_39, rX2_tellWordAlone_40, rX2_tellWordAlone_43, rX2_tellWordAlone_46, e_ald0, e_bin, e_get, e_goto, e_iast, e_icmp, e_if, e_ild1, e_ild2, e_ild3, e_inc3, e_ist3, e_nl0, e_nl1, e_nl2, e_push, e_retv, m_b0, m_b01, m_b1, m_em, Classical.not_not, Nat.reduceBEq, Nat.reduceLT, Nat.reduceLeDiff, Nat.reduceAdd, cond_true, cond_false, Bool.or_false, Bool.false_or, Bool.or_true, Bool.true_or, beq_iff_eq, true_and, and_true, true_or, or_true, forall_const, not_true_eq_false, not_false_eq_true, false_implies, implies_true, Nat.reduceEqDiff, List.length_nil, List.length_cons, obH hb, fvH0 hb, fsH0 hb, fvH1 hb, fsH1 hb, fvH2 hb, fvH3 hb, fvH4 hb, fvH5 hb, fvH6 hb, fvH7 hb, kdH1 hb, lnH1 hb, ltH1 hb, kdH2 hb, lnH2 hb, ltH2 hb, kdH3 hb, lnH3 hb, ltH3 hb, kdH4 hb, lnH4 hb, ltH4 hb, kdH5 hb, lnH5 hb, ltH5 hb, kdH6 hb, lnH6 hb, ltH6 hb]
  refine ⟨fun c => absurd c (by omega), fun _ => ⟨fun _ => ?_, fun c => absurd ht c⟩⟩
  rw [e0, Int.toNat_natCast]
  refine ⟨by omega, ?_⟩
  refine loop 3 1 _ (by omega) (by omega) (fun j hj => m_up_ne hj) (fun n => ?_)
  rw [m_up_eq]
  by_cases e : n = 4 * l
  · rw [e, m_us, if_pos rfl]
  · rw [m_un e, if_neg e, if_neg (by omega)]
theorem h_R.alone {g g' : m_G} {b : Nat} {s : Nat → Int} (h : h_R g b s) {l : Nat} {v : Int} (hv : 0 ≤ v ∧ v ≤ 31) (h1 : ∀ j, j ≠ b + 5 → g' j = g j) (h2 : ∀ n, g' (b + 5) n = if n = 4 * l then v else if 4 * l < n ∧ n < 4 * l + 4 then -1 else g (b + 5) n) : h_R g' b (s_alone s l v) := by
  obtain ⟨⟨a1, a2⟩, a3, a4, a5, a6⟩ := h
  have us : ∀ j, j < 40 → s_alone s l v j = s j := fun j hj => by unfold s_alone; rw [if_neg (by omega), if_neg (by omega)]
  unfold h_R
  rw [h1 b (by omega), us 0 (by omega), us 1 (by omega)]
  refine ⟨⟨a1, a2⟩, a3, fun j hj => ?_, fun j hj => ?_, fun j hj => ⟨fun i hi => ?_, ?_⟩⟩
  · rw [h1 _ (by omega), us _ (by omega)]; exact a4 j hj
  · obtain ⟨c1, c2, c3⟩ := a5 j hj
    rw [h1 _ (by omega), h1 _ (by omega), us _ (by omega), us _ (by omega)]
    refine ⟨c1, c2, fun i hi => ?_⟩
    rw [h1 _ (by omega), us _ (by omega)]
    exact c3 i hi
  · rw [h2]; unfold s_alone
    by_cases e : 4 * j + i = 4 * l
    · rw [if_pos e, if_pos (by omega)]; exact Or.inr ⟨rfl, hv⟩
    · have e' : ¬ 40 + 4 * j + i = 40 + 4 * l := by omega
      rw [if_neg e, if_neg e']
      by_cases e2 : 4 * l < 4 * j + i ∧ 4 * j + i < 4 * l + 4
      · rw [if_pos e2, if_pos (by omega)]; exact Or.inl ⟨rfl, rfl⟩
      · rw [if_neg e2, if_neg (by omega)]; exact (a6 j hj).1 i hi
  · unfold s_alone
    by_cases e : 40 + 4 * j = 40 + 4 * l
    · rw [if_pos e]; exact hv.1
    · rw [if_neg e, if_neg (by omega)]; exact (a6 j hj).2
theorem m_low : ∀ n : Nat, n < 32 → 0 ≤ m_iand n (-n) ∧ m_iand n (-n) ≤ 31 := by decide +kernel
theorem m_lowW {x : Int} (h : 0 ≤ x) (h2 : x ≤ 31) : 0 ≤ m_iand x (m_wrap (-x)) ∧ m_iand x (m_wrap (-x)) ≤ 31 := by
  rw [m_w1 (by omega) (by omega)]
  have := m_low x.toNat (by omega)
  rw [show ((x.toNat : Nat) : Int) = x by omega] at this
  exact this
theorem m_low0 : m_iand 0 (m_wrap (-0)) = 0 := by rw [m_w1 (by decide) (by decide)]; decide +kernel
/-- of each word told the least sort alone -/
noncomputable def s_narrow (s : Nat → Int) : Nat → Int := fun j => if 40 ≤ j ∧ 0 < s j then m_iand (s j) (m_wrap (-(s j))) else s j
theorem p_narrowWords {b : Nat} (hb : m_hs b) {g : m_G} {s : Nat → Int} {q : m_Post} (hR : h_R g b s) (h : ∀ g' : m_G, (∀ j, j ≠ b + 5 → g' j = g j) → (∀ n : Nat, (n : Int) < 4 * s 1 → g' (b + 5) n = if g (b + 5) n = -1 then -1 else m_iand (g (b + 5) n) (m_wrap (-(g (b + 5) n)))) → q none g') : wX2_narrowWords.1 [.inr (.inr b)] g q := by
  have hz := hR.2.1.2
  have e0 := hR.1.2
  refine m_wp_of (by simp [m_fit]) (fun J hJ => ?_)
  simp only [m_ini, Nat.reduceSub, List.replicate]
  have loop : ∀ (n i : Nat) (g' : m_G), i + n = (4 * s 1).toNat → (∀ j, j ≠ b + 5 → g' j = g j) → (∀ n, i ≤ n → g' (b + 5) n = g (b + 5) n) → (∀ n, n < i → g' (b + 5) n = if g (b + 5) n = -1 then -1 else m_iand (g (b + 5) n) (m_wrap (-(g (b + 5) n)))) → J 2 [some (.inr (.inr b)), some (.inl (i : Int))] [] g' := by
    intro n
    induction n with
    | zero =>
      intro i g' hi hg1 hg2 hg3
      refine m_run_ok hJ (fun pc => pc == 2) 60 _ _ _ _ ?_
      simp only [e_go, rX2_narrowWords_0, rX2_narrowWords_1, rX2_narrowWords_2, rX2_narrowWords_3, rX2_narrowWords_4, rX2_narrowWords_7, rX2_narrowWords_8, rX2_narrowWords_9, rX2_narrowWords_12, rX2_narrowWords_13, rX2_narrowWords_16, rX2_narrowWords_17, rX2_narrowWords_18, rX2_narrowWords_19, rX2_narrowWords_22, rX2_narrowWords_23, rX2_narrowWords_26, rX2_narrowWords_27, rX2_narrowWords_28, rX2_narrowWords_31, rX2_narrowWords_32, rX2_narrowWords_33, rX2_narrowWords_34, rX2_narrowWords_37, rX2_narrowWords_38, rX2_narrowWords_39, rX2_narrowWords_40, rX2_narrowWords_41, rX2_narrowWords_42, rX2_narrowWords_45, rX2_narrowWords_48, e_ald0, e_bin, e_get, e_goto, e_iald, e_iast, e_icmp, e_ild1, e_inc1, e_ist1, e_neg, e_nl0, e_nl1, e_nl2, e_push, e_retv, m_b0, m_b01, m_b1, m_em, Classical.not_not, Nat.reduceBEq, Nat.reduceLT, Nat.reduceLeDiff, Nat.reduceAdd, cond_true, cond_false, Bool.or_false, Bool.false_or, Bool.or_true, Bool.true_or, beq_iff_eq, true_and, and_true, true_or, or_true, forall_const, not_true_eq_false, not_false_eq_true, false_implies, implies_true, Nat.reduceEqDiff, List.length_nil, List.length_cons, obH hb, fvH0 hb, fsH0 hb, fvH1 hb, fsH1 hb, fvH2 hb, fvH3 hb, fvH4 hb, fvH5 hb, fvH6 hb, fvH7 hb, kdH1 hb, lnH1 hb, ltH1 hb, kdH2 hb, lnH2 hb, ltH2 hb, kdH3 hb, lnH3 hb, ltH3 hb, kdH4 hb, lnH4 hb, ltH4 hb, kdH5 hb, lnH5 hb, ltH5 hb, kdH6 hb, lnH6 hb, ltH6 hb]
      rw [hg1 b (by omega), e0, m_w1 (x := s 1 * 4) (by omega) (by omega)]
      refine ⟨fun _ => ?_, fun c => absurd c (by omega)⟩
      exact h g' hg1 (fun n hn => hg3 n (by omega))
    | succ n ih =>
      intro i g' hi hg1 hg2 hg3
      refine m_run_ok hJ (fun pc => pc == 2) 60 _ _ _ _ ?_
      simp only [e_go, rX2_narrowWords_0, rX2_narrowWords_1, rX2_narrowWords_2, rX2_narrowWords_3, rX2_narrowWords_4, rX2_narrowWords_7, rX2_narrowWords_8, rX2_narrowWords_9, rX2_narrowWords_12, rX2_narrowWords_13, rX2_narrowWords_16, rX2_narrowWords_17, rX2_narrowWords_18, rX2_narrowWords_19, rX2_narrowWords_22, rX2_narrowWords_23, rX2_narrowWords_26, rX2_narrowWords_27, rX2_narrowWords_28, rX2_narrowWords_31, rX2_narrowWords_32, rX2_narrowWords_33, rX2_narrowWords_34, rX2_narrowWords_37, rX2_narrowWords_38, rX2_narrowWords_39, rX2_narrowWords_40, rX2_narrowWords_41, rX2_narrowWords_42, rX2_narrowWords_45, rX2_narrowWords_48, e_ald0, e_bin, e_get, e_goto, e_iald, e_iast, e_icmp, e_ild1, e_inc1, e_ist1, e_neg, e_nl0, e_nl1, e_nl2, e_push, e_retv, m_b0, m_b01, m_b1, m_em, Classical.not_not, Nat.reduceBEq, Nat.reduceLT, Nat.reduceLeDiff, Nat.reduceAdd, cond_true, cond_false, Bool.or_false, Bool.false_or, Bool.or_true, Bool.true_or, beq_iff_eq, true_and, and_true, true_or, or_true, forall_const, not_true_eq_false, not_false_eq_true, false_implies, implies_true, Nat.reduceEqDiff, List.length_nil, List.length_cons, obH hb, fvH0 hb, fsH0 hb, fvH1 hb, fsH1 hb, fvH2 hb, fvH3 hb, fvH4 hb, fvH5 hb, fvH6 hb, fvH7 hb, kdH1 hb, lnH1 hb, ltH1 hb, kdH2 hb, lnH2 hb, ltH2 hb, kdH3 hb, lnH3 hb, ltH3 hb, kdH4 hb, lnH4 hb, ltH4 hb, kdH5 hb, lnH5 hb, ltH5 hb, kdH6 hb, lnH6 hb, ltH6 hb]
      have hi24 : i < 24 := by omega
      rw [hg1 b (by omega), e0, m_w1 (x := s 1 * 4) (by omega) (by omega), m_w2 (x := (i : Int) + 1) (by omega) (by omega), Int.toNat_natCast]
      refine ⟨fun c => absurd c (by omega), fun _ => ⟨by omega, fun c => ?_, fun c => ?_⟩⟩
      · refine ih (i + 1) g' (by omega) hg1 (fun n hn => hg2 n (by omega)) (fun n hn => ?_)
        by_cases e : n = i
        · subst e; have := hg2 n (Nat.le_refl _); rw [if_pos (by rw [← this]; exact c)]; exact c
        · exact hg3 n (by omega)
      · refine ⟨by omega, by omega, by omega, ?_⟩
        refine ih (i + 1) _ (by omega) (fun j hj => ?_) (fun n hn => ?_) (fun n hn => ?_)
        · rw [m_up_ne hj]; exact hg1 j hj
        · rw [m_up_eq, m_un (by omega)]; exact hg2 n (by omega)
        · rw [m_up_eq]
          by_cases e : n = i
          · subst e; have := hg2 n (Nat.le_refl _); rw [m_us, if_neg (by rw [← this]; exact c), this]
          · rw [m_un e]; exact hg3 n (by omega)
  refine m_run_ok hJ (fun pc => pc == 2) 60 _ _ _ _ ?_
  simp only [e_go, rX2_narrowWords_0, rX2_narrowWords_1, rX2_narrowWords_2, rX2_narrowWords_3, rX2_narrowWords_4, rX2_narrowWords_7, rX2_narrowWords_8, rX2_narrowWords_9, rX2_narrowWords_12, rX2_narrowWords_13, rX2_narrowWords_16, rX2_narrowWords_17, rX2_narrowWords_18, rX2_narrowWords_19, rX2_narrowWords_22, rX2_narrowWords_23, rX2_narrowWords_26, rX2_narrowWords_27, rX2_narrowWords_28, rX2_narrowWords_31, rX2_narrowWords_32, rX2_narrowWords_33, rX2_narrowWords_34, rX2_narrowWords_37, rX2_narrowWords_38, rX2_narrowWords_39, rX2_narrowWords_40, rX2_narrowWords_41, rX2_narrowWords_42, rX2_narrowWords_45, rX2_narrowWords_48, e_ald0, e_bin, e_get, e_goto, e_iald, e_iast, e_icmp, e_ild1, e_inc1, e_ist1, e_neg, e_nl0, e_nl1, e_nl2, e_push, e_retv, m_b0, m_b01, m_b1, m_em, Classical.not_not, Nat.reduceBEq, Nat.reduceLT, Nat.reduceLeDiff, Nat.reduceAdd, cond_true, cond_false, Bool.or_false, Bool.false_or, Bool.or_true, Bool.true_or, beq_iff_eq, true_and, and_true, true_or, or_true, forall_const, not_true_eq_false, not_false_eq_true, false_implies, implies_true, Nat.reduceEqDiff, List.length_nil, List.length_cons, obH hb, fvH0 hb, fsH0 hb, fvH1 hb, fsH1 hb, fvH2 hb, fvH3 hb, fvH4 hb, fvH5 hb, fvH6 hb, fvH7 hb, kdH1 hb, lnH1 hb, ltH1 hb, kdH2 hb, lnH2 hb, ltH2 hb, kdH3 hb, lnH3 hb, ltH3 hb, kdH4 hb, lnH4 hb, ltH4 hb, kdH5 hb, lnH5 hb, ltH5 hb, kdH6 hb, lnH6 hb, ltH6 hb]
  exact loop (4 * s 1).toNat 0 g (by omega) (fun _ _ => rfl) (fun _ _ => rfl) (fun n hn => absurd hn (by omega))
theorem h_R.narrow {g g' : m_G} {b : Nat} {s : Nat → Int} (h : h_R g b s) (h1 : ∀ j, j ≠ b + 5 → g' j = g j) (h2 : ∀ n : Nat, (n : Int) < 4 * s 1 → g' (b + 5) n = if g (b + 5) n = -1 then -1 else m_iand (g (b + 5) n) (m_wrap (-(g (b + 5) n)))) : h_R g' b (s_narrow s) := by
  obtain ⟨⟨a1, a2⟩, a3, a4, a5, a6⟩ := h
  have us : ∀ j, j < 40 → s_narrow s j = s j := fun j hj => by unfold s_narrow; rw [if_neg (by omega)]
  unfold h_R
  rw [h1 b (by omega), us 0 (by omega), us 1 (by omega)]
  refine ⟨⟨a1, a2⟩, a3, fun j hj => ?_, fun j hj => ?_, fun j hj => ⟨fun i hi => ?_, ?_⟩⟩
  · rw [h1 _ (by omega), us _ (by omega)]; exact a4 j hj
  · obtain ⟨c1, c2, c3⟩ := a5 j hj
    rw [h1 _ (by omega), h1 _ (by omega), us _ (by omega), us _ (by omega)]
    refine ⟨c1, c2, fun i hi => ?_⟩
    rw [h1 _ (by omega), us _ (by omega)]
    exact c3 i hi
  · rw [h2 _ (by omega)]; unfold s_narrow
    rcases (a6 j hj).1 i hi with ⟨w1, w2⟩ | ⟨w1, w2, w3⟩
    · rw [if_pos w1, w2, if_neg (by omega)]; exact Or.inl ⟨rfl, rfl⟩
    · rw [if_neg (by omega), w1]
      by_cases e : 0 < s (40 + 4 * j + i)
      · rw [if_pos ⟨by omega, e⟩]; exact Or.inr ⟨rfl, m_lowW w2 w3⟩
      · rw [if_neg (by omega), show s (40 + 4 * j + i) = 0 by omega, m_low0]; exact Or.inr ⟨rfl, by omega, by omega⟩
  · unfold s_narrow
    have h6 := a6 j hj
    have h7 := h6.1 0 (by omega)
    rw [show 40 + 4 * j + 0 = 40 + 4 * j by omega] at h7
    by_cases e : 40 ≤ 40 + 4 * j ∧ 0 < s (40 + 4 * j)
    · rw [if_pos e]
      rcases h7 with ⟨w1, w2⟩ | ⟨w1, w2, w3⟩
      · omega
      · exact (m_lowW w2 w3).1
    · rw [if_neg e]; exact h6.2
