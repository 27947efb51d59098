set_option maxRecDepth 20000
set_option maxHeartbeats 2000000
/-- a pointer into the quarters of a sort -/
def c_P (s : Nat → Int) (t q k : Nat) : Prop := (q < 4 ∧ (k : Int) ≤ s (12 + 6 * t + q)) ∨ (q = 4 ∧ k = 0)
/-- v is the second of a sort's next one behind the first c; 3600 if none -/
def c_S (s : Nat → Int) (t c v : Nat) : Prop := (v < 3600 ∧ d_at s t v = true ∧ d_arr s t v = c) ∨ (v = 3600 ∧ c = d_qs s t 4)
theorem c_S.of {s : Nat → Int} (hW : h_W s) {t q k N : Nat} (ht : (t : Int) < s 0) (hq : q < 4) (hN : s (12 + 6 * t + q) = (N : Int)) (hk : k < N) : c_S s t (d_qs s t q + k) (900 * q + k * 900 / N) ∧ 900 * q + k * 900 / N < 900 * (q + 1) := by
  have hc := (hW.2.2.1 t ht).2.2 q hq
  have h0 : 0 < N := by omega
  have h1 : k * 900 / N < 900 := by rw [Nat.div_lt_iff_lt_mul h0]; omega
  have h2 := Nat.div_mul_le_self (k * 900) N
  have h3 := Nat.lt_div_mul_add (a := k * 900) h0
  have ex : ∀ x : Nat, x = k * 900 / N → ∃ k, k < N ∧ k * 900 / N = x := fun x hx => ⟨k, hk, hx.symm⟩
  have ex := ex _ rfl
  generalize k * 900 / N = X at h1 h2 h3 ex ⊢
  have e1 : (900 * q + X) / 900 = q := by omega
  have e2 : (900 * q + X) % 900 = X := by omega
  refine ⟨Or.inl ⟨by omega, ?_, ?_⟩, by omega⟩
  · skip
    refine (d_at_iff (n := N) (by rw [e1]; exact hN) (by omega)).2 ?_
    rw [e2]
    exact ex
  · rw [d_arr_at hW ht _ (by omega), e1, e2, hN, Int.toNat_natCast]
    unfold d_pre
    omega
theorem p0_nextSecond {b t q k : Nat} (hb : m_hs b) {g : m_G} {s : Nat → Int} {p : m_Post} (hR : h_R g b s) (hW : h_W s) (ht : (t : Int) < s 0) (hq : g 56 t = (q : Int)) (hk : g 57 t = (k : Int)) (hP : c_P s t q k)
    (h : ∀ (g' : m_G) (q' k' v : Nat), (∀ j, j ≠ 56 → j ≠ 57 → g' j = g j) → (∀ i, i ≠ t → g' 56 i = g 56 i ∧ g' 57 i = g 57 i) → g' 56 t = (q' : Int) → g' 57 t = (k' : Int) → c_P s t q' k' → d_qs s t q' + k' = d_qs s t q + k → c_S s t (d_qs s t q + k) v → v ≤ 3600 → (v < 3600 → q' = v / 900 ∧ (k' : Int) < s (12 + 6 * t + q')) → p (some (.inl v)) g') : wX0_nextSecond.1 [.inr (.inr 50), .inr (.inr b), .inl t] g p := by
  have hz := hW.1
  have ht5 : t < 5 := by omega
  refine m_wp_of (by simp [m_fit]) (fun J hJ => ?_)
  simp only [m_ini, Nat.reduceSub, List.replicate]
  have loop : ∀ (m q1 k1 n : Nat) (g1 : m_G) (x4 : Option m_V), q1 + m = 4 → n ≤ q1 → g1 56 t = (q1 : Int) → g1 57 t = (k1 : Int) → c_P s t q1 k1 → d_qs s t q1 + k1 = d_qs s t q + k → (∀ j, j ≠ 56 → j ≠ 57 → g1 j = g j) → (∀ i, i ≠ t → g1 56 i = g 56 i ∧ g1 57 i = g 57 i) → J 2 [some (.inr (.inr 50)), some (.inr (.inr b)), some (.inl t), some (.inl n), x4] [] g1 := by
    intro m
    induction m with
    | zero =>
      intro q1 k1 n g1 x4 hm hn hq1 hk1 hP1 hc hO hI
      have e : q1 = 4 := by omega
      subst e
      have e2 : k1 = 0 := by rcases hP1 with ⟨a, -⟩ | ⟨-, a⟩ <;> omega
      subst e2
      refine m_run_ok hJ (fun pc => pc == 2) 80 _ _ _ _ ?_
      simp only [e_go, rX0_nextSecond_0, rX0_nextSecond_1, rX0_nextSecond_2, rX0_nextSecond_3, rX0_nextSecond_4, rX0_nextSecond_7, rX0_nextSecond_8, rX0_nextSecond_11, rX0_nextSecond_12, rX0_nextSecond_13, rX0_nextSecond_14, rX0_nextSecond_17, rX0_nextSecond_18, rX0_nextSecond_21, rX0_nextSecond_22, rX0_nextSecond_23, rX0_nextSecond_24, rX0_nextSecond_25, rX0_nextSecond_28, rX0_nextSecond_29, rX0_nextSecond_30, rX0_nextSecond_31, rX0_nextSecond_32, rX0_nextSecond_34, rX0_nextSecond_36, rX0_nextSecond_39, rX0_nextSecond_40, rX0_nextSecond_43, rX0_nextSecond_44, rX0_nextSecond_45, rX0_nextSecond_47, rX0_nextSecond_50, rX0_nextSecond_51, rX0_nextSecond_54, rX0_nextSecond_55, rX0_nextSecond_56, rX0_nextSecond_59, rX0_nextSecond_60, rX0_nextSecond_61, rX0_nextSecond_64, rX0_nextSecond_65, rX0_nextSecond_66, rX0_nextSecond_69, rX0_nextSecond_70, rX0_nextSecond_72, rX0_nextSecond_73, rX0_nextSecond_74, rX0_nextSecond_75, rX0_nextSecond_76, rX0_nextSecond_79, rX0_nextSecond_80, rX0_nextSecond_81, rX0_nextSecond_82, rX0_nextSecond_83, rX0_nextSecond_84, rX0_nextSecond_85, rX0_nextSecond_86, rX0_nextSecond_89, rX0_nextSecond_90, rX0_nextSecond_91, rX0_nextSecond_92, rX0_nextSecond_95, rX0_nextSecond_98, rX0_nextSecond_101, e_ald0, e_ald1, e_bin, e_div, e_dup2, e_get, e_goto, e_iald, e_iast, e_icmp, e_if, e_ild2, e_ild3, e_ild4, e_inc3, e_ist3, e_ist4, e_nl0, e_nl1, e_nl2, e_push, e_ret, m_b0, m_b01, m_b1, m_em, Classical.not_not, Nat.reduceBEq, Nat.reduceLT, Nat.reduceLeDiff, Nat.reduceAdd, cond_true, cond_false, Bool.or_false, Bool.false_or, Bool.or_true, Bool.true_or, beq_iff_eq, true_and, and_true, true_or, or_true, forall_const, not_true_eq_false, not_false_eq_true, false_implies, implies_true, Nat.reduceEqDiff, List.length_nil, List.length_cons, ob_50, fv_50_0, fs_50_0, fv_50_1, fv_50_2, fv_50_3, fv_50_4, fv_50_5, fv_50_6, fv_50_7, kd_56, ln_56, kd_57, ln_57, obH hb, fvH0 hb, fsH0 hb, fvH1 hb, fsH1 hb, fvH2 hb, fvH3 hb, fvH4 hb, fvH5 hb, fvH6 hb, fvH7 hb, kdH1 hb, lnH1 hb, ltH1 hb, kdH2 hb, lnH2 hb, ltH2 hb, kdH3 hb, lnH3 hb, ltH3 hb, kdH4 hb, lnH4 hb, ltH4 hb, kdH5 hb, lnH5 hb, ltH5 hb, kdH6 hb, lnH6 hb, ltH6 hb, Int.toNat_natCast]
      rw [hq1]
      refine ⟨fun c => absurd c (by omega), fun _ => ⟨by omega, fun _ => ?_, fun z => absurd z (by omega)⟩⟩
      refine h g1 4 0 3600 hO hI hq1 hk1 hP1 hc (Or.inr ⟨rfl, by omega⟩) (by omega) (fun z => absurd z (by omega))
    | succ m ih =>
      intro q1 k1 n g1 x4 hm hn hq1 hk1 hP1 hc hO hI
      have hk4 : (k1 : Int) ≤ s (12 + 6 * t + q1) := by rcases hP1 with ⟨-, a⟩ | ⟨a, -⟩ <;> omega
      have hcb := (hW.2.2.1 t ht).2.2 q1 (by omega)
      obtain ⟨N, hN⟩ : ∃ N : Nat, s (12 + 6 * t + q1) = (N : Int) := ⟨_, (Int.toNat_of_nonneg hcb.1).symm⟩
      have hcm := hR.com (t := t) (k := q1) (by omega) ht (by omega) (by omega)
      simp only [Int.toNat_natCast] at hcm
      rw [← hO (b + 3) (by unfold m_hs at hb; omega) (by unfold m_hs at hb; omega), hN] at hcm
      have cont : (N ≤ k1) → J 2 [some (.inr (.inr 50)), some (.inr (.inr b)), some (.inl t), some (.inl (n + 1 : Nat)), some (.inl N)] [] (m_up (m_up g1 56 t ((q1 + 1 : Nat) : Int)) 57 t ((0 : Nat) : Int)) := by
        intro hNk
        refine ih (q1 + 1) 0 (n + 1) _ _ (by omega) (by omega) ?_ ?_ ?_ ?_ ?_ ?_
        · rw [m_up_ne (by decide), m_up_eq, m_us]
        · rw [m_up_eq, m_us]
        · by_cases e : q1 + 1 = 4
          · exact Or.inr ⟨e, rfl⟩
          · refine Or.inl ⟨by omega, ?_⟩
            have := (hW.2.2.1 t ht).2.2 (q1 + 1) (by omega)
            omega
        · rw [← hc]
          simp only [d_qs]
          omega
        · intro j h1 h2; rw [m_up_ne h2, m_up_ne h1, hO j h1 h2]
        · intro i hi
          rw [m_up_ne (by decide), m_up_eq, m_un hi, m_up_eq, m_un hi, m_up_ne (by decide)]
          exact hI i hi
      refine m_run_ok hJ (fun pc => pc == 2) 80 _ _ _ _ ?_
      simp only [e_go, rX0_nextSecond_0, rX0_nextSecond_1, rX0_nextSecond_2, rX0_nextSecond_3, rX0_nextSecond_4, rX0_nextSecond_7, rX0_nextSecond_8, rX0_nextSecond_11, rX0_nextSecond_12, rX0_nextSecond_13, rX0_nextSecond_14, rX0_nextSecond_17, rX0_nextSecond_18, rX0_nextSecond_21, rX0_nextSecond_22, rX0_nextSecond_23, rX0_nextSecond_24, rX0_nextSecond_25, rX0_nextSecond_28, rX0_nextSecond_29, rX0_nextSecond_30, rX0_nextSecond_31, rX0_nextSecond_32, rX0_nextSecond_34, rX0_nextSecond_36, rX0_nextSecond_39, rX0_nextSecond_40, rX0_nextSecond_43, rX0_nextSecond_44, rX0_nextSecond_45, rX0_nextSecond_47, rX0_nextSecond_50, rX0_nextSecond_51, rX0_nextSecond_54, rX0_nextSecond_55, rX0_nextSecond_56, rX0_nextSecond_59, rX0_nextSecond_60, rX0_nextSecond_61, rX0_nextSecond_64, rX0_nextSecond_65, rX0_nextSecond_66, rX0_nextSecond_69, rX0_nextSecond_70, rX0_nextSecond_72, rX0_nextSecond_73, rX0_nextSecond_74, rX0_nextSecond_75, rX0_nextSecond_76, rX0_nextSecond_79, rX0_nextSecond_80, rX0_nextSecond_81, rX0_nextSecond_82, rX0_nextSecond_83, rX0_nextSecond_84, rX0_nextSecond_85, rX0_nextSecond_86, rX0_nextSecond_89, rX0_nextSecond_90, rX0_nextSecond_91, rX0_nextSecond_92, rX0_nextSecond_95, rX0_nextSecond_98, rX0_nextSecond_101, e_ald0, e_ald1, e_bin, e_div, e_dup2, e_get, e_goto, e_iald, e_iast, e_icmp, e_if, e_ild2, e_ild3, e_ild4, e_inc3, e_ist3, e_ist4, e_nl0, e_nl1, e_nl2, e_push, e_ret, m_b0, m_b01, m_b1, m_em, Classical.not_not, Nat.reduceBEq, Nat.reduceLT, Nat.reduceLeDiff, Nat.reduceAdd, cond_true, cond_false, Bool.or_false, Bool.false_or, Bool.or_true, Bool.true_or, beq_iff_eq, true_and, and_true, true_or, or_true, forall_const, not_true_eq_false, not_false_eq_true, false_implies, implies_true, Nat.reduceEqDiff, List.length_nil, List.length_cons, ob_50, fv_50_0, fs_50_0, fv_50_1, fv_50_2, fv_50_3, fv_50_4, fv_50_5, fv_50_6, fv_50_7, kd_56, ln_56, kd_57, ln_57, obH hb, fvH0 hb, fsH0 hb, fvH1 hb, fsH1 hb, fvH2 hb, fvH3 hb, fvH4 hb, fvH5 hb, fvH6 hb, fvH7 hb, kdH1 hb, lnH1 hb, ltH1 hb, kdH2 hb, lnH2 hb, ltH2 hb, kdH3 hb, lnH3 hb, ltH3 hb, kdH4 hb, lnH4 hb, ltH4 hb, kdH5 hb, lnH5 hb, ltH5 hb, kdH6 hb, lnH6 hb, ltH6 hb, Int.toNat_natCast]
      rw [hq1, hk1, m_w2 (x := (t : Int) * 4) (by omega) (by omega), m_w2 (x := (t : Int) * 4 + q1) (by omega) (by omega), show ((t : Int) * 4 + q1) = 4 * t + q1 by omega, hcm, m_w2 (x := (n : Int) + 1) (by omega) (by omega), m_w2 (x := (q1 : Int) + 1) (by omega) (by omega), m_w2 (x := (q1 : Int) * 900) (by omega) (by omega), m_w2 (x := (k1 : Int) * 900) (by omega) (by omega)]
      have ce : ((n : Int) + 1) = ((n + 1 : Nat) : Int) := by omega
      have cq : ((q1 : Int) + 1) = ((q1 + 1 : Nat) : Int) := by omega
      rw [ce, cq]
      refine ⟨fun z => absurd z (by omega), fun _ => ⟨by omega, fun z => absurd z (by omega), fun _ => ⟨by omega, by omega, fun c => ?_, fun c => ⟨by omega, fun c2 => ?_, fun c2 => ⟨by omega, by omega, by omega, ?_⟩⟩⟩⟩⟩
      · exact ⟨by omega, by omega, by omega, cont (by omega)⟩
      · exact ⟨by omega, by omega, by omega, cont (by omega)⟩
      · have hs := c_S.of hW ht (q := q1) (k := k1) (by omega) hN (by omega)
        rw [show ((k1 : Int) * 900) = ((k1 * 900 : Nat) : Int) by omega, m_tdiv, show ((k1 * 900 : Nat) : Int) / (N : Int) = ((k1 * 900 / N : Nat) : Int) from rfl]
        rw [hc] at hs
        have hl : k1 * 900 / N < 900 := by have := hs.2; omega
        have hh := h g1 q1 k1 (900 * q1 + k1 * 900 / N) hO hI hq1 hk1 hP1 hc hs.1 (by have := hs.2; omega)
        generalize k1 * 900 / N = X at hs hl hh ⊢
        rw [m_w2 (x := (X : Int)) (by omega) (by omega), m_w2 (by omega) (by omega), show (q1 : Int) * 900 + X = ((900 * q1 + X : Nat) : Int) by omega]
        exact hh (fun _ => ⟨by omega, by omega⟩)
  refine m_run_ok hJ (fun pc => pc == 2) 80 _ _ _ _ ?_
  simp only [e_go, rX0_nextSecond_0, rX0_nextSecond_1, rX0_nextSecond_2, rX0_nextSecond_3, rX0_nextSecond_4, rX0_nextSecond_7, rX0_nextSecond_8, rX0_nextSecond_11, rX0_nextSecond_12, rX0_nextSecond_13, rX0_nextSecond_14, rX0_nextSecond_17, rX0_nextSecond_18, rX0_nextSecond_21, rX0_nextSecond_22, rX0_nextSecond_23, rX0_nextSecond_24, rX0_nextSecond_25, rX0_nextSecond_28, rX0_nextSecond_29, rX0_nextSecond_30, rX0_nextSecond_31, rX0_nextSecond_32, rX0_nextSecond_34, rX0_nextSecond_36, rX0_nextSecond_39, rX0_nextSecond_40, rX0_nextSecond_43, rX0_nextSecond_44, rX0_nextSecond_45, rX0_nextSecond_47, rX0_nextSecond_50, rX0_nextSecond_51, rX0_nextSecond_54, rX0_nextSecond_55, rX0_nextSecond_56, rX0_nextSecond_59, rX0_nextSecond_60, rX0_nextSecond_61, rX0_nextSecond_64, rX0_nextSecond_65, rX0_nextSecond_66, rX0_nextSecond_69, rX0_nextSecond_70, rX0_nextSecond_72, rX0_nextSecond_73, rX0_nextSecond_74, rX0_nextSecond_75, rX0_nextSecond_76, rX0_nextSecond_79, rX0_nextSecond_80, rX0_nextSecond_81, rX0_nextSecond_82, rX0_nextSecond_83, rX0_nextSecond_84, rX0_nextSecond_85, rX0_nextSecond_86, rX0_nextSecond_89, rX0_nextSecond_90, rX0_nextSecond_91, rX0_nextSecond_92, rX0_nextSecond_95, rX0_nextSecond_98, rX0_nextSecond_101, e_ald0, e_ald1, e_bin, e_div, e_dup2, e_get, e_goto, e_iald, e_iast, e_icmp, e_if, e_ild2, e_ild3, e_ild4, e_inc3, e_ist3, e_ist4, e_nl0, e_nl1, e_nl2, e_push, e_ret, m_b0, m_b01, m_b1, m_em, Classical.not_not, Nat.reduceBEq, Nat.reduceLT, Nat.reduceLeDiff, Nat.reduceAdd, cond_true, cond_false, Bool.or_false, Bool.false_or, Bool.or_true, Bool.true_or, beq_iff_eq, true_and, and_true, true_or, or_true, forall_const, not_true_eq_false, not_false_eq_true, false_implies, implies_true, Nat.reduceEqDiff, List.length_nil, List.length_cons, ob_50, fv_50_0, fs_50_0, fv_50_1, fv_50_2, fv_50_3, fv_50_4, fv_50_5, fv_50_6, fv_50_7, kd_56, ln_56, kd_57, ln_57, obH hb, fvH0 hb, fsH0 hb, fvH1 hb, fsH1 hb, fvH2 hb, fvH3 hb, fvH4 hb, fvH5 hb, fvH6 hb, fvH7 hb, kdH1 hb, lnH1 hb, ltH1 hb, kdH2 hb, lnH2 hb, ltH2 hb, kdH3 hb, lnH3 hb, ltH3 hb, kdH4 hb, lnH4 hb, ltH4 hb, kdH5 hb, lnH5 hb, ltH5 hb, kdH6 hb, lnH6 hb, ltH6 hb, Int.toNat_natCast]
  have hq4 : q ≤ 4 := by rcases hP with ⟨a, -⟩ | ⟨a, -⟩ <;> omega
  exact loop (4 - q) q k 0 g none (by omega) (by omega) hq hk hP rfl (fun _ _ _ => rfl) (fun _ _ => ⟨rfl, rfl⟩)
