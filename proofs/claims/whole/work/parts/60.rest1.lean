set_option maxRecDepth 20000
set_option maxHeartbeats 2000000
/-! RESTS, told -/
noncomputable section
def rs_sum (s : Nat → Int) (H : Nat → Int) (l : Int) (but : Nat) : Nat → Int
  | 0 => 0
  | t + 1 => rs_sum s H l but t + (if ¬ t = but ∧ H t = l then s (12 + 6 * t) * s (10 + 6 * t) else 0)
def rs_go (s : Nat → Int) (H : Nat → Int) (t : Nat) : Nat → Int × Int
  | 0 => (-9, 0)
  | l + 1 => if d_bit (wd s l 0) t ∧ ¬ (0 ≤ (rs_go s H t l).1 ∧ (rs_go s H t l).2 ≤ rs_sum s H l t (s 0).toNat) then ((l : Int), rs_sum s H l t (s 0).toNat) else rs_go s H t l
def rs_rd (s : Nat → Int) (H : Nat → Int) : Nat → (Nat → Int) × Int
  | 0 => (H, 0)
  | t + 1 => (m_u (rs_rd s H t).1 t (rs_go s (rs_rd s H t).1 t (s 1).toNat).1, if ¬ (rs_go s (rs_rd s H t).1 t (s 1).toNat).1 = (rs_rd s H t).1 t ∨ (rs_rd s H t).2 = 1 then 1 else 0)
def rs_f (s : Nat → Int) (t : Nat) : Nat → Int
  | 0 => -9
  | l + 1 => if 0 ≤ rs_f s t l then rs_f s t l else if d_bit (wd s l 0) t then (l : Int) else -9
def rs_lp (s : Nat → Int) : Nat → (Nat → Int) × Int
  | 0 => (fun t => rs_f s t (s 1).toNat, 1)
  | r + 1 => if (rs_lp s r).2 = 1 then rs_rd s (rs_lp s r).1 (s 0).toNat else rs_lp s r
def x_rests (A : m_G) (t : Int) : Int × m_G := if 0 ≤ t ∧ t < A 68 0 then ((rs_lp (A 68) 20).1 t.toNat, A) else x_no A (-1)
end
theorem rs_own_b {s : Nat → Int} (hW : h_W s) {t : Nat} (ht : (t : Int) < s 0) : 0 ≤ s (12 + 6 * t) * s (10 + 6 * t) ∧ s (12 + 6 * t) * s (10 + 6 * t) ≤ 3000 := by
  have h := hW.2.2.1 t ht
  have h0 := h.2.2 0 (by decide)
  have h1 := h.1
  rw [Nat.add_zero] at h0
  refine ⟨Int.mul_nonneg h0.1 (by omega), ?_⟩
  have := Int.mul_le_mul h0.2 h1.2 (by omega) (by decide : (0 : Int) ≤ 50)
  omega
theorem rs_sum_b {s : Nat → Int} {H : Nat → Int} {l : Int} {but : Nat} (hW : h_W s) : ∀ n : Nat, (n : Int) ≤ s 0 → 0 ≤ rs_sum s H l but n ∧ rs_sum s H l but n ≤ 3000 * n
  | 0, _ => by simp [rs_sum]
  | n + 1, hn => by
    have ih := rs_sum_b (H := H) (l := l) (but := but) hW n (by omega)
    have := rs_own_b hW (t := n) (by omega)
    simp only [rs_sum]
    split <;> omega
theorem rs_go_b (s : Nat → Int) (H : Nat → Int) (t : Nat) : ∀ l : Nat, ((rs_go s H t l).1 = -9 ∨ 0 ≤ (rs_go s H t l).1) ∧ (rs_go s H t l).1 < (l : Int)
  | 0 => by simp [rs_go]
  | l + 1 => by
    have := rs_go_b s H t l
    simp only [rs_go]
    split
    · simp only; omega
    · omega
theorem rs_go_same {s : Nat → Int} {H H' : Nat → Int} {t : Nat} (h : ∀ i : Nat, (i : Int) < s 0 → H' i = H i) : ∀ l : Nat, rs_go s H' t l = rs_go s H t l := by
  have hs : ∀ (l : Int) (n : Nat), (n : Int) ≤ s 0 → rs_sum s H' l t n = rs_sum s H l t n := by
    intro l n
    induction n with
    | zero => intro _; rfl
    | succ n ih => intro hn; simp only [rs_sum]; rw [ih (by omega), h n (by omega)]
  intro l
  induction l with
  | zero => rfl
  | succ l ih =>
    simp only [rs_go]
    rw [ih]
    by_cases c : 0 ≤ s 0
    · rw [hs _ _ (by omega)]
    · rw [show (s 0).toNat = 0 by omega]; rfl
/-- the least lane whose word has it -/
def rs_P (s : Nat → Int) (t l L : Nat) (v : Int) : Prop := (v = -9 ∧ ∀ j, l ≤ j → j < L → ¬ d_bit (wd s j 0) t) ∨ ∃ k : Nat, v = (k : Int) ∧ l ≤ k ∧ k < L ∧ d_bit (wd s k 0) t ∧ ∀ j, l ≤ j → j < k → ¬ d_bit (wd s j 0) t
theorem rs_f_P (s : Nat → Int) (t : Nat) : ∀ L : Nat, rs_P s t 0 L (rs_f s t L)
  | 0 => Or.inl ⟨rfl, fun j _ h => absurd h (by omega)⟩
  | L + 1 => by
    have ih := rs_f_P s t L
    simp only [rs_f]
    rcases ih with ⟨e, h⟩ | ⟨k, e, h1, h2, h3, h4⟩
    · rw [e, if_neg (by decide)]
      split
      · rename_i c
        exact Or.inr ⟨L, rfl, by omega, by omega, c, fun j h0 hj => h j h0 hj⟩
      · rename_i c
        refine Or.inl ⟨rfl, fun j h0 hj => ?_⟩
        by_cases e2 : j = L
        · subst e2; exact c
        · exact h j h0 (by omega)
    · rw [e, if_pos (by omega)]
      exact Or.inr ⟨k, rfl, h1, by omega, h3, h4⟩
theorem rs_P_u {s : Nat → Int} {t L : Nat} {v w : Int} (h : rs_P s t 0 L v) (h' : rs_P s t 0 L w) : v = w := by
  rcases h with ⟨e, h⟩ | ⟨k, e, h1, h2, h3, h4⟩
  · rcases h' with ⟨e', h'⟩ | ⟨k', e', h1', h2', h3', h4'⟩
    · rw [e, e']
    · exact absurd h3' (h k' (by omega) h2')
  · rcases h' with ⟨e', h'⟩ | ⟨k', e', h1', h2', h3', h4'⟩
    · exact absurd h3 (h' k (by omega) h2)
    · rw [e, e']
      by_cases c : k < k'
      · exact absurd h3 (h4' k (by omega) c)
      · by_cases c2 : k' < k
        · exact absurd h3' (h4 k' (by omega) c2)
        · omega
theorem p9_sumAt {l : Int} {t : Nat} {g : m_G} {s H : Nat → Int} {q : m_Post} (hs : g 68 = s) (hW : h_W s) (hH : ∀ i : Nat, (i : Int) < s 0 → g 89 i = H i) (h : q (some (.inl (rs_sum s H l t (s 0).toNat))) g) : wX9_sumAt.1 [.inr (.inr 66), .inl l, .inl t] g q := by
  have hz := hW.1
  refine m_wp_of (by simp [m_fit]) (fun J hJ => ?_)
  simp only [m_ini, Nat.reduceSub, List.replicate]
  have loop : ∀ (m i : Nat), i + m = (s 0).toNat → J 5 [some (.inr (.inr 66)), some (.inl l), some (.inl t), some (.inl (rs_sum s H l t i)), some (.inl i)] [] g := by
    intro m
    induction m with
    | zero =>
      intro i hi
      refine m_run_ok hJ (fun pc => pc == 5) 60 _ _ _ _ ?_
      simp only [e_go, rX9_sumAt_0, rX9_sumAt_1, rX9_sumAt_2, rX9_sumAt_3, rX9_sumAt_5, rX9_sumAt_7, rX9_sumAt_8, rX9_sumAt_11, rX9_sumAt_12, rX9_sumAt_13, rX9_sumAt_16, rX9_sumAt_17, rX9_sumAt_19, rX9_sumAt_20, rX9_sumAt_23, rX9_sumAt_24, rX9_sumAt_27, rX9_sumAt_29, rX9_sumAt_30, rX9_sumAt_31, rX9_sumAt_34, rX9_sumAt_35, rX9_sumAt_36, rX9_sumAt_38, rX9_sumAt_41, rX9_sumAt_42, rX9_sumAt_44, rX9_sumAt_47, rX9_sumAt_48, rX9_sumAt_51, rX9_sumAt_52, rX9_sumAt_53, rX9_sumAt_54, rX9_sumAt_57, rX9_sumAt_60, rX9_sumAt_61, e_ald0, e_bin, e_callV2, e_callV3, e_get, e_goto, e_iald, e_icmp, e_ild1, e_ild2, e_ild3, e_ild4, e_inc4, e_ist3, e_ist4, e_nl0, e_nl1, e_nl2, e_push, e_pushn, e_pushs, e_ret, m_b0, m_b01, m_b1, m_em, Classical.not_not, Nat.reduceBEq, Nat.reduceLT, Nat.reduceLeDiff, Nat.reduceAdd, cond_true, cond_false, Bool.or_false, Bool.false_or, Bool.or_true, Bool.true_or, beq_iff_eq, true_and, and_true, true_or, or_true, forall_const, not_true_eq_false, not_false_eq_true, false_implies, implies_true, Nat.reduceEqDiff, List.length_nil, List.length_cons, ob_66, fv_66_0, fv_66_1, fv_66_2, fv_66_3, fv_66_4, fv_66_5, fs_66_5, fv_66_6, fv_66_7, fv_66_8, fs_66_8, fv_66_9, fs_66_9, fv_66_10, fv_66_11, fv_66_12, fv_66_13, fv_66_14, fv_66_15, fv_66_16, fv_66_17, fv_66_18, fv_66_19, fv_66_20, fv_66_21, fv_66_22, fv_66_23, fs_66_23, fv_66_24, fs_66_24, fv_66_25, fs_66_25, fv_66_26, fs_66_26, fv_66_27, fs_66_27, fv_66_28, fs_66_28, fv_66_29, fv_66_30, fv_66_31, fs_66_31, fv_66_32, fv_66_33, fv_66_34, fs_66_34, kd_68, ln_68, kd_89, ln_89, Int.toNat_natCast, Int.toNat_zero]
      rw [hs]
      refine ⟨by omega, fun _ => ?_, fun z => absurd z (by omega)⟩
      rw [show i = (s 0).toNat by omega]
      exact h
    | succ m ih =>
      intro i hi
      have hb := rs_sum_b (H := H) (l := l) (but := t) hW i (by omega)
      have ho := rs_own_b hW (t := i) (by omega)
      have nx := ih (i + 1) (by omega)
      simp only [rs_sum] at nx
      refine m_run_ok hJ (fun pc => pc == 5) 60 _ _ _ _ ?_
      simp only [e_go, rX9_sumAt_0, rX9_sumAt_1, rX9_sumAt_2, rX9_sumAt_3, rX9_sumAt_5, rX9_sumAt_7, rX9_sumAt_8, rX9_sumAt_11, rX9_sumAt_12, rX9_sumAt_13, rX9_sumAt_16, rX9_sumAt_17, rX9_sumAt_19, rX9_sumAt_20, rX9_sumAt_23, rX9_sumAt_24, rX9_sumAt_27, rX9_sumAt_29, rX9_sumAt_30, rX9_sumAt_31, rX9_sumAt_34, rX9_sumAt_35, rX9_sumAt_36, rX9_sumAt_38, rX9_sumAt_41, rX9_sumAt_42, rX9_sumAt_44, rX9_sumAt_47, rX9_sumAt_48, rX9_sumAt_51, rX9_sumAt_52, rX9_sumAt_53, rX9_sumAt_54, rX9_sumAt_57, rX9_sumAt_60, rX9_sumAt_61, e_ald0, e_bin, e_callV2, e_callV3, e_get, e_goto, e_iald, e_icmp, e_ild1, e_ild2, e_ild3, e_ild4, e_inc4, e_ist3, e_ist4, e_nl0, e_nl1, e_nl2, e_push, e_pushn, e_pushs, e_ret, m_b0, m_b01, m_b1, m_em, Classical.not_not, Nat.reduceBEq, Nat.reduceLT, Nat.reduceLeDiff, Nat.reduceAdd, cond_true, cond_false, Bool.or_false, Bool.false_or, Bool.or_true, Bool.true_or, beq_iff_eq, true_and, and_true, true_or, or_true, forall_const, not_true_eq_false, not_false_eq_true, false_implies, implies_true, Nat.reduceEqDiff, List.length_nil, List.length_cons, ob_66, fv_66_0, fv_66_1, fv_66_2, fv_66_3, fv_66_4, fv_66_5, fs_66_5, fv_66_6, fv_66_7, fv_66_8, fs_66_8, fv_66_9, fs_66_9, fv_66_10, fv_66_11, fv_66_12, fv_66_13, fv_66_14, fv_66_15, fv_66_16, fv_66_17, fv_66_18, fv_66_19, fv_66_20, fv_66_21, fv_66_22, fv_66_23, fs_66_23, fv_66_24, fs_66_24, fv_66_25, fs_66_25, fv_66_26, fs_66_26, fv_66_27, fs_66_27, fv_66_28, fs_66_28, fv_66_29, fv_66_30, fv_66_31, fs_66_31, fv_66_32, fv_66_33, fv_66_34, fs_66_34, kd_68, ln_68, kd_89, ln_89, Int.toNat_natCast, Int.toNat_zero]
      rw [hs, hH i (by omega)]
      refine ⟨by omega, fun z => absurd z (by omega), fun _ => ⟨fun c => ?_, fun c => ⟨by omega, fun c2 => ?_, fun c2 => ?_⟩⟩⟩
      · rw [if_neg (fun z => z.1 (by omega))] at nx
        rw [m_w2 (x := (i : Int) + 1) (by omega) (by omega), m_w2 (by omega) (by omega)]
        exact nx
      · rw [if_neg (fun z => c2 z.2)] at nx
        rw [m_w2 (x := (i : Int) + 1) (by omega) (by omega), m_w2 (by omega) (by omega)]
        exact nx
      · rw [if_pos ⟨by omega, by simpa using c2⟩] at nx
        refine p9_comeIn (k := 0) (by omega) (by omega) ?_
        simp only [e_go, rX9_sumAt_0, rX9_sumAt_1, rX9_sumAt_2, rX9_sumAt_3, rX9_sumAt_5, rX9_sumAt_7, rX9_sumAt_8, rX9_sumAt_11, rX9_sumAt_12, rX9_sumAt_13, rX9_sumAt_16, rX9_sumAt_17, rX9_sumAt_19, rX9_sumAt_20, rX9_sumAt_23, rX9_sumAt_24, rX9_sumAt_27, rX9_sumAt_29, rX9_sumAt_30, rX9_sumAt_31, rX9_sumAt_34, rX9_sumAt_35, rX9_sumAt_36, rX9_sumAt_38, rX9_sumAt_41, rX9_sumAt_42, rX9_sumAt_44, rX9_sumAt_47, rX9_sumAt_48, rX9_sumAt_51, rX9_sumAt_52, rX9_sumAt_53, rX9_sumAt_54, rX9_sumAt_57, rX9_sumAt_60, rX9_sumAt_61, e_ald0, e_bin, e_callV2, e_callV3, e_get, e_goto, e_iald, e_icmp, e_ild1, e_ild2, e_ild3, e_ild4, e_inc4, e_ist3, e_ist4, e_nl0, e_nl1, e_nl2, e_push, e_pushn, e_pushs, e_ret, m_b0, m_b01, m_b1, m_em, Classical.not_not, Nat.reduceBEq, Nat.reduceLT, Nat.reduceLeDiff, Nat.reduceAdd, cond_true, cond_false, Bool.or_false, Bool.false_or, Bool.or_true, Bool.true_or, beq_iff_eq, true_and, and_true, true_or, or_true, forall_const, not_true_eq_false, not_false_eq_true, false_implies, implies_true, Nat.reduceEqDiff, List.length_nil, List.length_cons, ob_66, fv_66_0, fv_66_1, fv_66_2, fv_66_3, fv_66_4, fv_66_5, fs_66_5, fv_66_6, fv_66_7, fv_66_8, fs_66_8, fv_66_9, fs_66_9, fv_66_10, fv_66_11, fv_66_12, fv_66_13, fv_66_14, fv_66_15, fv_66_16, fv_66_17, fv_66_18, fv_66_19, fv_66_20, fv_66_21, fv_66_22, fv_66_23, fs_66_23, fv_66_24, fs_66_24, fv_66_25, fs_66_25, fv_66_26, fs_66_26, fv_66_27, fs_66_27, fv_66_28, fs_66_28, fv_66_29, fv_66_30, fv_66_31, fs_66_31, fv_66_32, fv_66_33, fv_66_34, fs_66_34, kd_68, ln_68, kd_89, ln_89, Int.toNat_natCast, Int.toNat_zero]
        refine p9_secondsOf (by omega) ?_
        simp only [e_go, rX9_sumAt_0, rX9_sumAt_1, rX9_sumAt_2, rX9_sumAt_3, rX9_sumAt_5, rX9_sumAt_7, rX9_sumAt_8, rX9_sumAt_11, rX9_sumAt_12, rX9_sumAt_13, rX9_sumAt_16, rX9_sumAt_17, rX9_sumAt_19, rX9_sumAt_20, rX9_sumAt_23, rX9_sumAt_24, rX9_sumAt_27, rX9_sumAt_29, rX9_sumAt_30, rX9_sumAt_31, rX9_sumAt_34, rX9_sumAt_35, rX9_sumAt_36, rX9_sumAt_38, rX9_sumAt_41, rX9_sumAt_42, rX9_sumAt_44, rX9_sumAt_47, rX9_sumAt_48, rX9_sumAt_51, rX9_sumAt_52, rX9_sumAt_53, rX9_sumAt_54, rX9_sumAt_57, rX9_sumAt_60, rX9_sumAt_61, e_ald0, e_bin, e_callV2, e_callV3, e_get, e_goto, e_iald, e_icmp, e_ild1, e_ild2, e_ild3, e_ild4, e_inc4, e_ist3, e_ist4, e_nl0, e_nl1, e_nl2, e_push, e_pushn, e_pushs, e_ret, m_b0, m_b01, m_b1, m_em, Classical.not_not, Nat.reduceBEq, Nat.reduceLT, Nat.reduceLeDiff, Nat.reduceAdd, cond_true, cond_false, Bool.or_false, Bool.false_or, Bool.or_true, Bool.true_or, beq_iff_eq, true_and, and_true, true_or, or_true, forall_const, not_true_eq_false, not_false_eq_true, false_implies, implies_true, Nat.reduceEqDiff, List.length_nil, List.length_cons, ob_66, fv_66_0, fv_66_1, fv_66_2, fv_66_3, fv_66_4, fv_66_5, fs_66_5, fv_66_6, fv_66_7, fv_66_8, fs_66_8, fv_66_9, fs_66_9, fv_66_10, fv_66_11, fv_66_12, fv_66_13, fv_66_14, fv_66_15, fv_66_16, fv_66_17, fv_66_18, fv_66_19, fv_66_20, fv_66_21, fv_66_22, fv_66_23, fs_66_23, fv_66_24, fs_66_24, fv_66_25, fs_66_25, fv_66_26, fs_66_26, fv_66_27, fs_66_27, fv_66_28, fs_66_28, fv_66_29, fv_66_30, fv_66_31, fs_66_31, fv_66_32, fv_66_33, fv_66_34, fs_66_34, kd_68, ln_68, kd_89, ln_89, Int.toNat_natCast, Int.toNat_zero]
        rw [hs, Nat.add_zero, m_w2 (x := (i : Int) + 1) (by omega) (by omega), m_w2 (x := s (12 + 6 * i) * s (10 + 6 * i)) (by omega) (by omega), m_w2 (by omega) (by omega)]
        exact nx
  refine m_run_ok hJ (fun pc => pc == 5) 60 _ _ _ _ ?_
  simp only [e_go, rX9_sumAt_0, rX9_sumAt_1, rX9_sumAt_2, rX9_sumAt_3, rX9_sumAt_5, rX9_sumAt_7, rX9_sumAt_8, rX9_sumAt_11, rX9_sumAt_12, rX9_sumAt_13, rX9_sumAt_16, rX9_sumAt_17, rX9_sumAt_19, rX9_sumAt_20, rX9_sumAt_23, rX9_sumAt_24, rX9_sumAt_27, rX9_sumAt_29, rX9_sumAt_30, rX9_sumAt_31, rX9_sumAt_34, rX9_sumAt_35, rX9_sumAt_36, rX9_sumAt_38, rX9_sumAt_41, rX9_sumAt_42, rX9_sumAt_44, rX9_sumAt_47, rX9_sumAt_48, rX9_sumAt_51, rX9_sumAt_52, rX9_sumAt_53, rX9_sumAt_54, rX9_sumAt_57, rX9_sumAt_60, rX9_sumAt_61, e_ald0, e_bin, e_callV2, e_callV3, e_get, e_goto, e_iald, e_icmp, e_ild1, e_ild2, e_ild3, e_ild4, e_inc4, e_ist3, e_ist4, e_nl0, e_nl1, e_nl2, e_push, e_pushn, e_pushs, e_ret, m_b0, m_b01, m_b1, m_em, Classical.not_not, Nat.reduceBEq, Nat.reduceLT, Nat.reduceLeDiff, Nat.reduceAdd, cond_true, cond_false, Bool.or_false, Bool.false_or, Bool.or_true, Bool.true_or, beq_iff_eq, true_and, and_true, true_or, or_true, forall_const, not_true_eq_false, not_false_eq_true, false_implies, implies_true, Nat.reduceEqDiff, List.length_nil, List.length_cons, ob_66, fv_66_0, fv_66_1, fv_66_2, fv_66_3, fv_66_4, fv_66_5, fs_66_5, fv_66_6, fv_66_7, fv_66_8, fs_66_8, fv_66_9, fs_66_9, fv_66_10, fv_66_11, fv_66_12, fv_66_13, fv_66_14, fv_66_15, fv_66_16, fv_66_17, fv_66_18, fv_66_19, fv_66_20, fv_66_21, fv_66_22, fv_66_23, fs_66_23, fv_66_24, fs_66_24, fv_66_25, fs_66_25, fv_66_26, fs_66_26, fv_66_27, fs_66_27, fv_66_28, fs_66_28, fv_66_29, fv_66_30, fv_66_31, fs_66_31, fv_66_32, fv_66_33, fv_66_34, fs_66_34, kd_68, ln_68, kd_89, ln_89, Int.toNat_natCast, Int.toNat_zero]
  exact loop (s 0).toNat 0 (by omega)
theorem p9_goesOver {t : Nat} {g : m_G} {s H : Nat → Int} {q : m_Post} (hs : g 68 = s) (hW : h_W s) (ht : (t : Int) < s 0) (hH : ∀ i : Nat, (i : Int) < s 0 → g 89 i = H i)
    (h : q (some (.inl (if ¬ (rs_go s H t (s 1).toNat).1 = H t then 1 else 0))) (m_up g 89 t (rs_go s H t (s 1).toNat).1)) : wX9_goesOver.1 [.inr (.inr 66), .inl t] g q := by
  have hz := hW.1
  refine m_wp_of (by simp [m_fit]) (fun J hJ => ?_)
  simp only [m_ini, Nat.reduceSub, List.replicate]
  have loop : ∀ (m l : Nat) (x5 : Option m_V), m_nl x5 → l + m = (s 1).toNat → J 8 [some (.inr (.inr 66)), some (.inl t), some (.inl (rs_go s H t l).1), some (.inl (rs_go s H t l).2), some (.inl l), x5] [] g := by
    intro m
    induction m with
    | zero =>
      intro l x5 n5 hl
      refine m_run_ok hJ (fun pc => pc == 8) 80 _ _ _ _ ?_
      simp only [e_go, rX9_goesOver_0, rX9_goesOver_2, rX9_goesOver_3, rX9_goesOver_4, rX9_goesOver_5, rX9_goesOver_6, rX9_goesOver_8, rX9_goesOver_10, rX9_goesOver_11, rX9_goesOver_14, rX9_goesOver_15, rX9_goesOver_16, rX9_goesOver_19, rX9_goesOver_20, rX9_goesOver_22, rX9_goesOver_23, rX9_goesOver_26, rX9_goesOver_27, rX9_goesOver_28, rX9_goesOver_29, rX9_goesOver_30, rX9_goesOver_33, rX9_goesOver_36, rX9_goesOver_37, rX9_goesOver_39, rX9_goesOver_40, rX9_goesOver_43, rX9_goesOver_45, rX9_goesOver_46, rX9_goesOver_49, rX9_goesOver_51, rX9_goesOver_52, rX9_goesOver_55, rX9_goesOver_58, rX9_goesOver_60, rX9_goesOver_61, rX9_goesOver_63, rX9_goesOver_64, rX9_goesOver_67, rX9_goesOver_70, rX9_goesOver_71, rX9_goesOver_72, rX9_goesOver_75, rX9_goesOver_76, rX9_goesOver_77, rX9_goesOver_80, rX9_goesOver_81, rX9_goesOver_84, rX9_goesOver_85, rX9_goesOver_87, rX9_goesOver_88, rX9_goesOver_91, rX9_goesOver_92, rX9_goesOver_93, rX9_goesOver_94, rX9_goesOver_96, e_ald0, e_bin, e_callV3, e_get, e_goto, e_iald, e_iast, e_icmp, e_if, e_ild1, e_ild2, e_ild3, e_ild4, e_ild5, e_inc4, e_ist2, e_ist3, e_ist4, e_ist5, e_nl0, e_nl1, e_nl2, e_push, e_pushn, e_pushs, e_retz, m_b0, m_b01, m_b1, m_em, Classical.not_not, Nat.reduceBEq, Nat.reduceLT, Nat.reduceLeDiff, Nat.reduceAdd, cond_true, cond_false, Bool.or_false, Bool.false_or, Bool.or_true, Bool.true_or, beq_iff_eq, true_and, and_true, true_or, or_true, forall_const, not_true_eq_false, not_false_eq_true, false_implies, implies_true, Nat.reduceEqDiff, List.length_nil, List.length_cons, ob_66, fv_66_0, fv_66_1, fv_66_2, fv_66_3, fv_66_4, fv_66_5, fs_66_5, fv_66_6, fv_66_7, fv_66_8, fs_66_8, fv_66_9, fs_66_9, fv_66_10, fv_66_11, fv_66_12, fv_66_13, fv_66_14, fv_66_15, fv_66_16, fv_66_17, fv_66_18, fv_66_19, fv_66_20, fv_66_21, fv_66_22, fv_66_23, fs_66_23, fv_66_24, fs_66_24, fv_66_25, fs_66_25, fv_66_26, fs_66_26, fv_66_27, fs_66_27, fv_66_28, fs_66_28, fv_66_29, fv_66_30, fv_66_31, fs_66_31, fv_66_32, fv_66_33, fv_66_34, fs_66_34, kd_68, ln_68, kd_89, ln_89, Int.toNat_natCast, Int.toNat_zero, Int.toNat_one]
      rw [hs, hH t ht]
      rw [show l = (s 1).toNat by omega]
      refine ⟨by omega, fun _ => ?_, fun z => absurd z (by omega)⟩
      by_cases c : (rs_go s H t (s 1).toNat).1 = H t
      · rw [if_neg (fun z => z c)] at h
        exact ⟨by omega, fun _ => ⟨by omega, h⟩, fun z => absurd c z⟩
      · rw [if_pos c] at h
        exact ⟨by omega, fun z => absurd z c, fun _ => ⟨by omega, h⟩⟩
    | succ m ih =>
      intro l x5 n5 hl
      have nx := fun x5 n5 => ih (l + 1) x5 n5 (by omega)
      simp only [rs_go] at nx
      refine m_run_ok hJ (fun pc => pc == 8) 80 _ _ _ _ ?_
      simp only [e_go, rX9_goesOver_0, rX9_goesOver_2, rX9_goesOver_3, rX9_goesOver_4, rX9_goesOver_5, rX9_goesOver_6, rX9_goesOver_8, rX9_goesOver_10, rX9_goesOver_11, rX9_goesOver_14, rX9_goesOver_15, rX9_goesOver_16, rX9_goesOver_19, rX9_goesOver_20, rX9_goesOver_22, rX9_goesOver_23, rX9_goesOver_26, rX9_goesOver_27, rX9_goesOver_28, rX9_goesOver_29, rX9_goesOver_30, rX9_goesOver_33, rX9_goesOver_36, rX9_goesOver_37, rX9_goesOver_39, rX9_goesOver_40, rX9_goesOver_43, rX9_goesOver_45, rX9_goesOver_46, rX9_goesOver_49, rX9_goesOver_51, rX9_goesOver_52, rX9_goesOver_55, rX9_goesOver_58, rX9_goesOver_60, rX9_goesOver_61, rX9_goesOver_63, rX9_goesOver_64, rX9_goesOver_67, rX9_goesOver_70, rX9_goesOver_71, rX9_goesOver_72, rX9_goesOver_75, rX9_goesOver_76, rX9_goesOver_77, rX9_goesOver_80, rX9_goesOver_81, rX9_goesOver_84, rX9_goesOver_85, rX9_goesOver_87, rX9_goesOver_88, rX9_goesOver_91, rX9_goesOver_92, rX9_goesOver_93, rX9_goesOver_94, rX9_goesOver_96, e_ald0, e_bin, e_callV3, e_get, e_goto, e_iald, e_iast, e_icmp, e_if, e_ild1, e_ild2, e_ild3, e_ild4, e_ild5, e_inc4, e_ist2, e_ist3, e_ist4, e_ist5, e_nl0, e_nl1, e_nl2, e_push, e_pushn, e_pushs, e_retz, m_b0, m_b01, m_b1, m_em, Classical.not_not, Nat.reduceBEq, Nat.reduceLT, Nat.reduceLeDiff, Nat.reduceAdd, cond_true, cond_false, Bool.or_false, Bool.false_or, Bool.or_true, Bool.true_or, beq_iff_eq, true_and, and_true, true_or, or_true, forall_const, not_true_eq_false, not_false_eq_true, false_implies, implies_true, Nat.reduceEqDiff, List.length_nil, List.length_cons, ob_66, fv_66_0, fv_66_1, fv_66_2, fv_66_3, fv_66_4, fv_66_5, fs_66_5, fv_66_6, fv_66_7, fv_66_8, fs_66_8, fv_66_9, fs_66_9, fv_66_10, fv_66_11, fv_66_12, fv_66_13, fv_66_14, fv_66_15, fv_66_16, fv_66_17, fv_66_18, fv_66_19, fv_66_20, fv_66_21, fv_66_22, fv_66_23, fs_66_23, fv_66_24, fs_66_24, fv_66_25, fs_66_25, fv_66_26, fs_66_26, fv_66_27, fs_66_27, fv_66_28, fs_66_28, fv_66_29, fv_66_30, fv_66_31, fs_66_31, fv_66_32, fv_66_33, fv_66_34, fs_66_34, kd_68, ln_68, kd_89, ln_89, Int.toNat_natCast, Int.toNat_zero, Int.toNat_one]
      rw [hs]
      refine ⟨by omega, fun z => absurd z (by omega), fun _ => ?_⟩
      refine p9_wordOf (k := 0) (by omega) (by decide) ?_
      simp only [e_go, rX9_goesOver_0, rX9_goesOver_2, rX9_goesOver_3, rX9_goesOver_4, rX9_goesOver_5, rX9_goesOver_6, rX9_goesOver_8, rX9_goesOver_10, rX9_goesOver_11, rX9_goesOver_14, rX9_goesOver_15, rX9_goesOver_16, rX9_goesOver_19, rX9_goesOver_20, rX9_goesOver_22, rX9_goesOver_23, rX9_goesOver_26, rX9_goesOver_27, rX9_goesOver_28, rX9_goesOver_29, rX9_goesOver_30, rX9_goesOver_33, rX9_goesOver_36, rX9_goesOver_37, rX9_goesOver_39, rX9_goesOver_40, rX9_goesOver_43, rX9_goesOver_45, rX9_goesOver_46, rX9_goesOver_49, rX9_goesOver_51, rX9_goesOver_52, rX9_goesOver_55, rX9_goesOver_58, rX9_goesOver_60, rX9_goesOver_61, rX9_goesOver_63, rX9_goesOver_64, rX9_goesOver_67, rX9_goesOver_70, rX9_goesOver_71, rX9_goesOver_72, rX9_goesOver_75, rX9_goesOver_76, rX9_goesOver_77, rX9_goesOver_80, rX9_goesOver_81, rX9_goesOver_84, rX9_goesOver_85, rX9_goesOver_87, rX9_goesOver_88, rX9_goesOver_91, rX9_goesOver_92, rX9_goesOver_93, rX9_goesOver_94, rX9_goesOver_96, e_ald0, e_bin, e_callV3, e_get, e_goto, e_iald, e_iast, e_icmp, e_if, e_ild1, e_ild2, e_ild3, e_ild4, e_ild5, e_inc4, e_ist2, e_ist3, e_ist4, e_ist5, e_nl0, e_nl1, e_nl2, e_push, e_pushn, e_pushs, e_retz, m_b0, m_b01, m_b1, m_em, Classical.not_not, Nat.reduceBEq, Nat.reduceLT, Nat.reduceLeDiff, Nat.reduceAdd, cond_true, cond_false, Bool.or_false, Bool.false_or, Bool.or_true, Bool.true_or, beq_iff_eq, true_and, and_true, true_or, or_true, forall_const, not_true_eq_false, not_false_eq_true, false_implies, implies_true, Nat.reduceEqDiff, List.length_nil, List.length_cons, ob_66, fv_66_0, fv_66_1, fv_66_2, fv_66_3, fv_66_4, fv_66_5, fs_66_5, fv_66_6, fv_66_7, fv_66_8, fs_66_8, fv_66_9, fs_66_9, fv_66_10, fv_66_11, fv_66_12, fv_66_13, fv_66_14, fv_66_15, fv_66_16, fv_66_17, fv_66_18, fv_66_19, fv_66_20, fv_66_21, fv_66_22, fv_66_23, fs_66_23, fv_66_24, fs_66_24, fv_66_25, fs_66_25, fv_66_26, fs_66_26, fv_66_27, fs_66_27, fv_66_28, fs_66_28, fv_66_29, fv_66_30, fv_66_31, fs_66_31, fv_66_32, fv_66_33, fv_66_34, fs_66_34, kd_68, ln_68, kd_89, ln_89, Int.toNat_natCast, Int.toNat_zero, Int.toNat_one]
      rw [hs, m_w2 (x := (l : Int) + 1) (by omega) (by omega)]
      have hbt := wd_b hW (l := l) (by omega) 0 (by decide)
      have hb01 := m_bit01 (w := wd s l 0) (t := (t : Int)) hbt.1 hbt.2 (by omega) (by omega)
      have el : (l : Int) + 1 = ((l + 1 : Nat) : Int) := by omega
      rw [el]
      refine ⟨fun c => ?_, fun c => ?_⟩
      · have hbit : d_bit (wd s l 0) t := by rcases hb01 with z | z; exact absurd z c; exact z
        refine p9_sumAt hs hW hH ?_
        simp only [e_go, rX9_goesOver_0, rX9_goesOver_2, rX9_goesOver_3, rX9_goesOver_4, rX9_goesOver_5, rX9_goesOver_6, rX9_goesOver_8, rX9_goesOver_10, rX9_goesOver_11, rX9_goesOver_14, rX9_goesOver_15, rX9_goesOver_16, rX9_goesOver_19, rX9_goesOver_20, rX9_goesOver_22, rX9_goesOver_23, rX9_goesOver_26, rX9_goesOver_27, rX9_goesOver_28, rX9_goesOver_29, rX9_goesOver_30, rX9_goesOver_33, rX9_goesOver_36, rX9_goesOver_37, rX9_goesOver_39, rX9_goesOver_40, rX9_goesOver_43, rX9_goesOver_45, rX9_goesOver_46, rX9_goesOver_49, rX9_goesOver_51, rX9_goesOver_52, rX9_goesOver_55, rX9_goesOver_58, rX9_goesOver_60, rX9_goesOver_61, rX9_goesOver_63, rX9_goesOver_64, rX9_goesOver_67, rX9_goesOver_70, rX9_goesOver_71, rX9_goesOver_72, rX9_goesOver_75, rX9_goesOver_76, rX9_goesOver_77, rX9_goesOver_80, rX9_goesOver_81, rX9_goesOver_84, rX9_goesOver_85, rX9_goesOver_87, rX9_goesOver_88, rX9_goesOver_91, rX9_goesOver_92, rX9_goesOver_93, rX9_goesOver_94, rX9_goesOver_96, e_ald0, e_bin, e_callV3, e_get, e_goto, e_iald, e_iast, e_icmp, e_if, e_ild1, e_ild2, e_ild3, e_ild4, e_ild5, e_inc4, e_ist2, e_ist3, e_ist4, e_ist5, e_nl0, e_nl1, e_nl2, e_push, e_pushn, e_pushs, e_retz, m_b0, m_b01, m_b1, m_em, Classical.not_not, Nat.reduceBEq, Nat.reduceLT, Nat.reduceLeDiff, Nat.reduceAdd, cond_true, cond_false, Bool.or_false, Bool.false_or, Bool.or_true, Bool.true_or, beq_iff_eq, true_and, and_true, true_or, or_true, forall_const, not_true_eq_false, not_false_eq_true, false_implies, implies_true, Nat.reduceEqDiff, List.length_nil, List.length_cons, ob_66, fv_66_0, fv_66_1, fv_66_2, fv_66_3, fv_66_4, fv_66_5, fs_66_5, fv_66_6, fv_66_7, fv_66_8, fs_66_8, fv_66_9, fs_66_9, fv_66_10, fv_66_11, fv_66_12, fv_66_13, fv_66_14, fv_66_15, fv_66_16, fv_66_17, fv_66_18, fv_66_19, fv_66_20, fv_66_21, fv_66_22, fv_66_23, fs_66_23, fv_66_24, fs_66_24, fv_66_25, fs_66_25, fv_66_26, fs_66_26, fv_66_27, fs_66_27, fv_66_28, fs_66_28, fv_66_29, fv_66_30, fv_66_31, fs_66_31, fv_66_32, fv_66_33, fv_66_34, fs_66_34, kd_68, ln_68, kd_89, ln_89, Int.toNat_natCast, Int.toNat_zero, Int.toNat_one]
        have e1 : m_wrap ((l : Int) + 1) = ((l + 1 : Nat) : Int) := by rw [m_w2 (by omega) (by omega)]; omega
        rw [e1]
        refine ⟨fun c2 => ?_, fun c2 => ⟨fun c3 => ?_, fun c3 => ?_⟩⟩
        · rw [if_pos ⟨hbit, fun z => by omega⟩] at nx
          exact nx _ (by trivial)
        · rw [if_pos ⟨hbit, fun z => by omega⟩] at nx
          exact nx _ (by trivial)
        · rw [if_neg (fun z => z.2 ⟨by omega, by omega⟩)] at nx
          exact nx _ (by trivial)
      · rw [if_neg (fun z => by have := z.1; omega)] at nx
        exact nx _ n5
  refine m_run_ok hJ (fun pc => pc == 8) 80 _ _ _ _ ?_
  simp only [e_go, rX9_goesOver_0, rX9_goesOver_2, rX9_goesOver_3, rX9_goesOver_4, rX9_goesOver_5, rX9_goesOver_6, rX9_goesOver_8, rX9_goesOver_10, rX9_goesOver_11, rX9_goesOver_14, rX9_goesOver_15, rX9_goesOver_16, rX9_goesOver_19, rX9_goesOver_20, rX9_goesOver_22, rX9_goesOver_23, rX9_goesOver_26, rX9_goesOver_27, rX9_goesOver_28, rX9_goesOver_29, rX9_goesOver_30, rX9_goesOver_33, rX9_goesOver_36, rX9_goesOver_37, rX9_goesOver_39, rX9_goesOver_40, rX9_goesOver_43, rX9_goesOver_45, rX9_goesOver_46, rX9_goesOver_49, rX9_goesOver_51, rX9_goesOver_52, rX9_goesOver_55, rX9_goesOver_58, rX9_goesOver_60, rX9_goesOver_61, rX9_goesOver_63, rX9_goesOver_64, rX9_goesOver_67, rX9_goesOver_70, rX9_goesOver_71, rX9_goesOver_72, rX9_goesOver_75, rX9_goesOver_76, rX9_goesOver_77, rX9_goesOver_80, rX9_goesOver_81, rX9_goesOver_84, rX9_goesOver_85, rX9_goesOver_87, rX9_goesOver_88, rX9_goesOver_91, rX9_goesOver_92, rX9_goesOver_93, rX9_goesOver_94, rX9_goesOver_96, e_ald0, e_bin, e_callV3, e_get, e_goto, e_iald, e_iast, e_icmp, e_if, e_ild1, e_ild2, e_ild3, e_ild4, e_ild5, e_inc4, e_ist2, e_ist3, e_ist4, e_ist5, e_nl0, e_nl1, e_nl2, e_push, e_pushn, e_pushs, e_retz, m_b0, m_b01, m_b1, m_em, Classical.not_not, Nat.reduceBEq, Nat.reduceLT, Nat.reduceLeDiff, Nat.reduceAdd, cond_true, cond_false, Bool.or_false, Bool.false_or, Bool.or_true, Bool.true_or, beq_iff_eq, true_and, and_true, true_or, or_true, forall_const, not_true_eq_false, not_false_eq_true, false_implies, implies_true, Nat.reduceEqDiff, List.length_nil, List.length_cons, ob_66, fv_66_0, fv_66_1, fv_66_2, fv_66_3, fv_66_4, fv_66_5, fs_66_5, fv_66_6, fv_66_7, fv_66_8, fs_66_8, fv_66_9, fs_66_9, fv_66_10, fv_66_11, fv_66_12, fv_66_13, fv_66_14, fv_66_15, fv_66_16, fv_66_17, fv_66_18, fv_66_19, fv_66_20, fv_66_21, fv_66_22, fv_66_23, fs_66_23, fv_66_24, fs_66_24, fv_66_25, fs_66_25, fv_66_26, fs_66_26, fv_66_27, fs_66_27, fv_66_28, fs_66_28, fv_66_29, fv_66_30, fv_66_31, fs_66_31, fv_66_32, fv_66_33, fv_66_34, fs_66_34, kd_68, ln_68, kd_89, ln_89, Int.toNat_natCast, Int.toNat_zero, Int.toNat_one]
  exact loop (s 1).toNat 0 none trivial (by omega)
