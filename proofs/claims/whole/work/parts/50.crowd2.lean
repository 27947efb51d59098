set_option maxRecDepth 20000
set_option maxHeartbeats 2000000
theorem m_upv {g : m_G} {i k j n : Nat} {x : Int} : m_up g i k x j n = if j = i ∧ n = k then x else g j n := by
  unfold m_up m_u
  by_cases h : j = i
  · subst h
    by_cases h2 : n = k <;> simp [h2]
  · simp [h]
theorem d_arr_mono (s : Nat → Int) (t : Nat) {n : Nat} : ∀ i, d_arr s t n ≤ d_arr s t (n + i)
  | 0 => Nat.le_refl _
  | i + 1 => by have := d_arr_mono s t (n := n) i; rw [← Nat.add_assoc, d_arr_S]; omega
theorem d_arr_mono' (s : Nat → Int) (t : Nat) {n m : Nat} (h : n ≤ m) : d_arr s t n ≤ d_arr s t m := by
  have := d_arr_mono s t (n := n) (m - n)
  rw [show n + (m - n) = m by omega] at this
  exact this
theorem d_arr_4 {s : Nat → Int} (hW : h_W s) {t : Nat} (ht : (t : Int) < s 0) (n : Nat) : d_arr s t n ≤ d_qs s t 4 := by
  rw [← d_arr_all hW ht n]
  exact d_arr_mono' s t (by omega)
/-- how many come before a place (five places a second, one a sort) -/
def c_n (s : Nat → Int) (p : Nat) : Nat → Nat
  | 0 => 0
  | T + 1 => c_n s p T + d_arr s T ((p + 4 - T) / 5)
def c_N (s : Nat → Int) (p : Nat) : Nat := c_n s p (s 0).toNat
theorem c_n_eq {s : Nat → Int} {p p' : Nat} : ∀ T : Nat, (∀ t, t < T → d_arr s t ((p' + 4 - t) / 5) = d_arr s t ((p + 4 - t) / 5)) → c_n s p' T = c_n s p T
  | 0, _ => rfl
  | T + 1, h => by simp only [c_n]; rw [c_n_eq T (fun t ht => h t (by omega)), h T (by omega)]
theorem c_n_S {s : Nat → Int} {p p' f : Nat} : ∀ T : Nat, f < T → (∀ t, t < T → d_arr s t ((p' + 4 - t) / 5) = d_arr s t ((p + 4 - t) / 5) + (if t = f then 1 else 0)) → c_n s p' T = c_n s p T + 1
  | 0, h, _ => absurd h (by omega)
  | T + 1, h, hh => by
    simp only [c_n]
    by_cases e : f = T
    · rw [c_n_eq T (p := p) (fun t ht => by rw [hh t (by omega), if_neg (by omega), Nat.add_zero]), hh T (by omega), if_pos e.symm]; omega
    · rw [c_n_S T (by omega) (fun t ht => hh t (by omega)), hh T (by omega), if_neg (by omega)]; omega
theorem c_n_mono {s : Nat → Int} {p p' : Nat} (h : p ≤ p') : ∀ T : Nat, c_n s p T ≤ c_n s p' T
  | 0 => Nat.le_refl 0
  | T + 1 => by
    have h1 := c_n_mono (s := s) h T
    have h2 := d_arr_mono' s T (n := (p + 4 - T) / 5) (m := (p' + 4 - T) / 5) (by omega)
    simp only [c_n]; omega
theorem c_n_max {s : Nat → Int} (hW : h_W s) {p : Nat} : ∀ T : Nat, (T : Int) ≤ s 0 → (c_n s p T : Int) ≤ sumC s T ∧ ((∀ t, t < T → d_arr s t ((p + 4 - t) / 5) = d_qs s t 4) → (c_n s p T : Int) = sumC s T)
  | 0, _ => ⟨by simp [c_n, sumC], fun _ => by simp [c_n, sumC]⟩
  | T + 1, h => by
    have ih := c_n_max hW (p := p) T (by omega)
    have hc := (hW.2.2.1 T (by omega)).2.2
    have h0 := hc 0 (by decide)
    have h1 := hc 1 (by decide)
    have h2 := hc 2 (by decide)
    have h3 := hc 3 (by decide)
    have h4 := d_arr_4 hW (t := T) (by omega) ((p + 4 - T) / 5)
    have e : (d_qs s T 4 : Int) = s (12 + 6 * T) + s (13 + 6 * T) + s (14 + 6 * T) + s (15 + 6 * T) := by
      simp only [d_qs]
      rw [show 12 + 6 * T + 1 = 13 + 6 * T by omega] at h1 ⊢
      rw [show 12 + 6 * T + 2 = 14 + 6 * T by omega] at h2 ⊢
      rw [show 12 + 6 * T + 3 = 15 + 6 * T by omega] at h3 ⊢
      rw [show 12 + 6 * T + 0 = 12 + 6 * T by omega] at h0 ⊢
      omega
    simp only [c_n, sumC]
    refine ⟨by omega, fun hh => ?_⟩
    have := ih.2 (fun t ht => hh t (by omega))
    have := hh T (by omega)
    omega
/-- the next one: what a place behind it has -/
theorem c_step {s : Nat → Int} (hW : h_W s) {p f v : Nat} (hf : (f : Int) < s 0) (hv : v < 3600) (ha : d_at s f v = true) (hc : d_arr s f v = d_arr s f ((p + 4 - f) / 5))
    (h : ∀ t : Nat, (t : Int) < s 0 → ∃ w, c_S s t (d_arr s t ((p + 4 - t) / 5)) w ∧ v ≤ w ∧ (t < f → v < w)) :
    (∀ t : Nat, (t : Int) < s 0 → d_arr s t ((5 * v + f + 1 + 4 - t) / 5) = d_arr s t ((p + 4 - t) / 5) + (if t = f then 1 else 0)) ∧ c_N s (5 * v + f) = c_N s p ∧ c_N s (5 * v + f + 1) = c_N s p + 1 := by
  have hz := hW.1
  have hS := d_arr_S s f v
  rw [if_pos ha] at hS
  have hM : (p + 4 - f) / 5 ≤ v := by
    have := d_arr_mono' s f (n := v + 1) (m := (p + 4 - f) / 5)
    by_cases c : v + 1 ≤ (p + 4 - f) / 5
    · have := this c; omega
    · omega
  have sq : ∀ t : Nat, (t : Int) < s 0 → ∀ x, (p + 4 - t) / 5 ≤ x → (∀ w, v ≤ w → (t < f → v < w) → x ≤ w) → d_arr s t x = d_arr s t ((p + 4 - t) / 5) := by
    intro t ht x h1 h2
    obtain ⟨w, hS, hw1, hw2⟩ := h t ht
    have l1 := d_arr_mono' s t h1
    rcases hS with ⟨-, -, e⟩ | ⟨-, e⟩
    · have l2 := d_arr_mono' s t (h2 w hw1 hw2)
      omega
    · have l2 := d_arr_4 hW ht x
      omega
  have A : ∀ t : Nat, (t : Int) < s 0 → d_arr s t ((5 * v + f + 1 + 4 - t) / 5) = d_arr s t ((p + 4 - t) / 5) + (if t = f then 1 else 0) := by
    intro t ht
    by_cases e : t = f
    · subst e
      rw [if_pos rfl, show (5 * v + t + 1 + 4 - t) / 5 = v + 1 by omega, hS, hc]
    · rw [if_neg e, Nat.add_zero]
      by_cases e2 : t < f
      · rw [show (5 * v + f + 1 + 4 - t) / 5 = v + 1 by omega]
        exact sq t ht (v + 1) (by omega) (fun w h1 h2 => by have := h2 e2; omega)
      · rw [show (5 * v + f + 1 + 4 - t) / 5 = v by omega]
        exact sq t ht v (by omega) (fun w h1 _ => h1)
  refine ⟨A, c_n_eq _ (fun t ht => ?_), c_n_S _ (by omega) (fun t ht => A t (by omega))⟩
  by_cases e2 : t < f
  · rw [show (5 * v + f + 4 - t) / 5 = v + 1 by omega]
    exact sq t (by omega) (v + 1) (by omega) (fun w h1 h2 => by have := h2 e2; omega)
  · rw [show (5 * v + f + 4 - t) / 5 = v by omega]
    by_cases e : t = f
    · subst e; exact hc
    · exact sq t (by omega) v (by omega) (fun w h1 _ => h1)
/-- the pointers stand at a place -/
def c_Q (g : m_G) (s : Nat → Int) (p : Nat) : Prop := ∀ t : Nat, (t : Int) < s 0 → ∃ q k : Nat, g 56 t = (q : Int) ∧ g 57 t = (k : Int) ∧ c_P s t q k ∧ d_qs s t q + k = d_arr s t ((p + 4 - t) / 5)
/-- the crowd's rows hold those before a place -/
def c_E (g : m_G) (s : Nat → Int) (nd : Nat → Nat → Int) (z : Nat) : Prop := ∀ n, n < z → ∃ m t : Nat, (t : Int) < s 0 ∧ m < 3600 ∧ d_at s t m = true ∧ c_N s (5 * m + t) = n ∧ (g 51 n = (t : Int) ∧ g 52 n = (m : Int) ∧ g 53 n = nd t (m / 900)) ∧ g 54 n = -1 ∧ g 55 n = 0
def c_F (g g' : m_G) : Prop := ∀ j, (j < 50 ∨ 57 < j) → g' j = g j
theorem h_R.cF {g g' : m_G} {b : Nat} {s : Nat → Int} (hb : m_hs b) (h : h_R g b s) (hF : c_F g g') : h_R g' b s := h.same (fun j hj => hF _ (by unfold m_hs at hb; omega))
theorem h_N.cF {g g' : m_G} {b : Nat} {s : Nat → Int} {nd : Nat → Nat → Int} (hb : m_hs b) (h : h_N g b s nd) (hF : c_F g g') : h_N g' b s nd := h.same (fun j hj => hF _ (by unfold m_hs at hb; omega))
theorem p0_addNext {b p : Nat} (hb : m_hs b) {g : m_G} {s : Nat → Int} {nd : Nat → Nat → Int} {P : m_Post} (hR : h_R g b s) (hN : h_N g b s nd) (hW : h_W s) (hQ : c_Q g s p) (hz : g 50 0 = (c_N s p : Int)) (hE : c_E g s nd (c_N s p)) (hlt : (c_N s p : Int) < sumC s (s 0).toNat)
    (h : ∀ (g' : m_G) (p' : Nat), c_F g g' → c_Q g' s p' → g' 50 0 = (c_N s p' : Int) → c_E g' s nd (c_N s p') → c_N s p' = c_N s p + 1 → P none g') : wX0_addNext.1 [.inr (.inr 50), .inr (.inr b)] g P := by
  have hzz := hW.1
  refine m_wp_of (by simp [m_fit]) (fun J hJ => ?_)
  simp only [m_ini, Nat.reduceSub, List.replicate]
  have loop : ∀ (m T : Nat) (g1 : m_G) (f v : Int) (x5 : Option m_V), T + m = (s 0).toNat → (∀ j, j ≠ 56 → j ≠ 57 → g1 j = g j) → c_Q g1 s p →
      ((f = -1 ∧ v = 3600 ∧ ∀ t, t < T → d_arr s t ((p + 4 - t) / 5) = d_qs s t 4) ∨ ∃ F V : Nat, f = (F : Int) ∧ v = (V : Int) ∧ F < T ∧ V < 3600 ∧ d_at s F V = true ∧ d_arr s F V = d_arr s F ((p + 4 - F) / 5) ∧ (∃ k : Nat, g1 56 F = ((V / 900 : Nat) : Int) ∧ g1 57 F = (k : Int) ∧ (k : Int) < s (12 + 6 * F + V / 900) ∧ d_qs s F (V / 900) + k = d_arr s F ((p + 4 - F) / 5)) ∧ ∀ t : Nat, t < T → ∃ w, c_S s t (d_arr s t ((p + 4 - t) / 5)) w ∧ V ≤ w ∧ (t < F → V < w)) →
      J 9 [some (.inr (.inr 50)), some (.inr (.inr b)), some (.inl f), some (.inl v), some (.inl T), x5] [] g1 := by
    intro m
    induction m with
    | zero =>
      intro T g1 f v x5 hT hO hQ1 hh
      refine m_run_ok hJ (fun pc => pc == 9) 120 _ _ _ _ ?_
      simp only [e_go, rX0_addNext_0, rX0_addNext_1, rX0_addNext_2, rX0_addNext_5, rX0_addNext_6, rX0_addNext_7, rX0_addNext_9, rX0_addNext_11, rX0_addNext_12, rX0_addNext_15, rX0_addNext_18, rX0_addNext_19, rX0_addNext_20, rX0_addNext_22, rX0_addNext_25, rX0_addNext_27, rX0_addNext_29, rX0_addNext_30, rX0_addNext_33, rX0_addNext_35, rX0_addNext_36, rX0_addNext_38, rX0_addNext_39, rX0_addNext_42, rX0_addNext_45, rX0_addNext_46, rX0_addNext_49, rX0_addNext_50, rX0_addNext_53, rX0_addNext_56, rX0_addNext_59, rX0_addNext_60, rX0_addNext_61, rX0_addNext_64, rX0_addNext_65, rX0_addNext_68, rX0_addNext_69, rX0_addNext_70, rX0_addNext_71, rX0_addNext_74, rX0_addNext_75, rX0_addNext_78, rX0_addNext_79, rX0_addNext_80, rX0_addNext_81, rX0_addNext_84, rX0_addNext_85, rX0_addNext_88, rX0_addNext_89, rX0_addNext_90, rX0_addNext_91, rX0_addNext_94, rX0_addNext_95, rX0_addNext_96, rX0_addNext_99, rX0_addNext_100, rX0_addNext_101, rX0_addNext_104, rX0_addNext_105, rX0_addNext_108, rX0_addNext_109, rX0_addNext_110, rX0_addNext_111, rX0_addNext_114, rX0_addNext_115, rX0_addNext_118, rX0_addNext_119, rX0_addNext_120, rX0_addNext_121, rX0_addNext_124, rX0_addNext_125, rX0_addNext_126, rX0_addNext_127, rX0_addNext_128, rX0_addNext_129, rX0_addNext_130, rX0_addNext_131, rX0_addNext_132, rX0_addNext_135, rX0_addNext_136, rX0_addNext_137, rX0_addNext_140, e_ald0, e_ald1, e_bin, e_callV3, e_dup2, e_dupi, e_dupr, e_get, e_goto, e_iald, e_iast, e_icmp, e_if, e_ild2, e_ild3, e_ild4, e_ild5, e_inc4, e_ist2, e_ist3, e_ist4, e_ist5, e_nl0, e_nl1, e_nl2, e_push, e_pushn, e_pushs, e_put, e_retv, e_zast, m_b0, m_b01, m_b1, m_em, Classical.not_not, Nat.reduceBEq, Nat.reduceLT, Nat.reduceLeDiff, Nat.reduceAdd, cond_true, cond_false, Bool.or_false, Bool.false_or, Bool.or_true, Bool.true_or, beq_iff_eq, true_and, and_true, true_or, or_true, forall_const, not_true_eq_false, not_false_eq_true, false_implies, implies_true, Nat.reduceEqDiff, List.length_nil, List.length_cons, ob_50, fv_50_0, fs_50_0, fv_50_1, fv_50_2, fv_50_3, fv_50_4, fv_50_5, fv_50_6, fv_50_7, kd_51, ln_51, kd_52, ln_52, kd_53, ln_53, kd_54, ln_54, kd_55, ln_55, kd_56, ln_56, kd_57, ln_57, obH hb, fvH0 hb, fsH0 hb, fvH1 hb, fsH1 hb, fvH2 hb, fvH3 hb, fvH4 hb, fvH5 hb, fvH6 hb, fvH7 hb, kdH1 hb, lnH1 hb, ltH1 hb, kdH2 hb, lnH2 hb, ltH2 hb, kdH3 hb, lnH3 hb, ltH3 hb, kdH4 hb, lnH4 hb, ltH4 hb, kdH5 hb, lnH5 hb, ltH5 hb, kdH6 hb, lnH6 hb, ltH6 hb, Int.toNat_natCast]
      have e0 : g1 b 0 = s 0 := by rw [hO b (by unfold m_hs at hb; omega) (by unfold m_hs at hb; omega)]; exact hR.1.1
      have e50 : g1 50 0 = (c_N s p : Int) := by rw [hO 50 (by decide) (by decide)]; exact hz
      rw [e0]
      refine ⟨fun _ => ?_, fun z => absurd z (by omega)⟩
      rcases hh with ⟨-, -, hh⟩ | ⟨F, V, rfl, rfl, hF, hV, ha, hc, ⟨k, hq, hk, hkn, hqk⟩, hw⟩
      · exfalso
        have := (c_n_max hW (p := p) T (by omega)).2 hh
        rw [show T = (s 0).toNat by omega] at this
        unfold c_N at hlt
        omega
      · have st := c_step hW (p := p) (f := F) (v := V) (by omega) hV ha hc (fun t ht => hw t (by omega))
        have hC := c_n_max hW (p := p) (s 0).toNat (by omega)
        have h500 := hW.2.2.2.2
        have hN1 : h_N g1 b s nd := hN.same (fun j hj => hO _ (by unfold m_hs at hb; omega) (by unfold m_hs at hb; omega))
        have hR1 : h_R g1 b s := hR.same (fun j hj => hO _ (by unfold m_hs at hb; omega) (by unfold m_hs at hb; omega))
        have hzc : (c_N s p : Int) < 500 := by omega
        have hbb : b < 30 := by unfold m_hs at hb; omega
        simp only [m_upv, Nat.reduceEqDiff, false_and, reduceIte, e50, hq, Int.toNat_natCast]
        refine ⟨fun z => absurd z (by omega), fun _ => ⟨fun _ => ⟨by omega, by omega, by omega, ?_⟩, fun z => absurd hzc z⟩⟩
        have hk1 : ((V / 900 : Nat) : Int) < 4 := by omega
        refine p_needOf hb (s := s) (nd := nd) (hR1.same (fun j hj => by rw [m_up_ne (by omega), m_up_ne (by omega)])) (hN1.same (fun j hj => by rw [m_up_ne (by omega), m_up_ne (by omega)])) ⟨by omega, by omega⟩ ⟨by omega, hk1⟩ ?_
        simp only [e_go, rX0_addNext_0, rX0_addNext_1, rX0_addNext_2, rX0_addNext_5, rX0_addNext_6, rX0_addNext_7, rX0_addNext_9, rX0_addNext_11, rX0_addNext_12, rX0_addNext_15, rX0_addNext_18, rX0_addNext_19, rX0_addNext_20, rX0_addNext_22, rX0_addNext_25, rX0_addNext_27, rX0_addNext_29, rX0_addNext_30, rX0_addNext_33, rX0_addNext_35, rX0_addNext_36, rX0_addNext_38, rX0_addNext_39, rX0_addNext_42, rX0_addNext_45, rX0_addNext_46, rX0_addNext_49, rX0_addNext_50, rX0_addNext_53, rX0_addNext_56, rX0_addNext_59, rX0_addNext_60, rX0_addNext_61, rX0_addNext_64, rX0_addNext_65, rX0_addNext_68, rX0_addNext_69, rX0_addNext_70, rX0_addNext_71, rX0_addNext_74, rX0_addNext_75, rX0_addNext_78, rX0_addNext_79, rX0_addNext_80, rX0_addNext_81, rX0_addNext_84, rX0_addNext_85, rX0_addNext_88, rX0_addNext_89, rX0_addNext_90, rX0_addNext_91, rX0_addNext_94, rX0_addNext_95, rX0_addNext_96, rX0_addNext_99, rX0_addNext_100, rX0_addNext_101, rX0_addNext_104, rX0_addNext_105, rX0_addNext_108, rX0_addNext_109, rX0_addNext_110, rX0_addNext_111, rX0_addNext_114, rX0_addNext_115, rX0_addNext_118, rX0_addNext_119, rX0_addNext_120, rX0_addNext_121, rX0_addNext_124, rX0_addNext_125, rX0_addNext_126, rX0_addNext_127, rX0_addNext_128, rX0_addNext_129, rX0_addNext_130, rX0_addNext_131, rX0_addNext_132, rX0_addNext_135, rX0_addNext_136, rX0_addNext_137, rX0_addNext_140, e_ald0, e_ald1, e_bin, e_callV3, e_dup2, e_dupi, e_dupr, e_get, e_goto, e_iald, e_iast, e_icmp, e_if, e_ild2, e_ild3, e_ild4, e_ild5, e_inc4, e_ist2, e_ist3, e_ist4, e_ist5, e_nl0, e_nl1, e_nl2, e_push, e_pushn, e_pushs, e_put, e_retv, e_zast, m_b0, m_b01, m_b1, m_em, Classical.not_not, Nat.reduceBEq, Nat.reduceLT, Nat.reduceLeDiff, Nat.reduceAdd, cond_true, cond_false, Bool.or_false, Bool.false_or, Bool.or_true, Bool.true_or, beq_iff_eq, true_and, and_true, true_or, or_true, forall_const, not_true_eq_false, not_false_eq_true, false_implies, implies_true, Nat.reduceEqDiff, List.length_nil, List.length_cons, ob_50, fv_50_0, fs_50_0, fv_50_1, fv_50_2, fv_50_3, fv_50_4, fv_50_5, fv_50_6, fv_50_7, kd_51, ln_51, kd_52, ln_52, kd_53, ln_53, kd_54, ln_54, kd_55, ln_55, kd_56, ln_56, kd_57, ln_57, obH hb, fvH0 hb, fsH0 hb, fvH1 hb, fsH1 hb, fvH2 hb, fvH3 hb, fvH4 hb, fvH5 hb, fvH6 hb, fvH7 hb, kdH1 hb, lnH1 hb, ltH1 hb, kdH2 hb, lnH2 hb, ltH2 hb, kdH3 hb, lnH3 hb, ltH3 hb, kdH4 hb, lnH4 hb, ltH4 hb, kdH5 hb, lnH5 hb, ltH5 hb, kdH6 hb, lnH6 hb, ltH6 hb, Int.toNat_natCast]
        simp only [m_upv, Nat.reduceEqDiff, false_and, reduceIte, e50, hk, Int.toNat_natCast]
        rw [m_w2 (x := (k : Int) + 1) (by omega) (by have := (hW.2.2.1 F (by omega)).2.2 (V / 900) (by omega); omega), m_w2 (x := (c_N s p : Int) + 1) (by omega) (by omega)]
        refine ⟨by omega, by omega, by omega, by omega, by omega, ?_⟩
        refine h _ (5 * V + F + 1) ?_ ?_ ?_ ?_ st.2.2
        · intro j hj
          rw [m_up_ne (by omega), m_up_ne (by omega), m_up_ne (by omega), m_up_ne (by omega), m_up_ne (by omega), m_up_ne (by omega), m_up_ne (by omega)]
          exact hO j (by omega) (by omega)
        · intro t ht
          have sA := st.1 t ht
          by_cases e : t = F
          · subst e
            rw [if_pos rfl] at sA
            refine ⟨V / 900, k + 1, ?_, ?_, Or.inl ⟨by omega, by omega⟩, by omega⟩
            · simp only [m_upv]; simp; exact hq
            · simp only [m_upv]; simp
          · rw [if_neg e] at sA
            obtain ⟨q2, k2, r1, r2, r3, r4⟩ := hQ1 t ht
            refine ⟨q2, k2, ?_, ?_, r3, by omega⟩
            · simp only [m_upv]; simp; exact r1
            · simp only [m_upv]; simp [e]; exact r2
        · rw [st.2.2, m_up_eq, m_us]; omega
        · rw [st.2.2]
          intro n hn
          by_cases e : n = c_N s p
          · subst e
            refine ⟨V, F, by omega, hV, ha, st.2.1, ⟨?_, ?_, ?_⟩, ?_, ?_⟩ <;> (simp only [m_upv]; simp)
          · obtain ⟨m, t, r1, r2, r3, r4, ⟨r5, r6, r7⟩, r8, r9⟩ := hE n (by omega)
            refine ⟨m, t, r1, r2, r3, r4, ⟨?_, ?_, ?_⟩, ?_, ?_⟩ <;> (simp only [m_upv]; simp [e]; rw [hO _ (by decide) (by decide)]; assumption)
    | succ m ih =>
      intro T g1 f v x5 hT hO hQ1 hh
      have e0 : g1 b 0 = s 0 := by rw [hO b (by unfold m_hs at hb; omega) (by unfold m_hs at hb; omega)]; exact hR.1.1
      have hR1 : h_R g1 b s := hR.same (fun j hj => hO _ (by unfold m_hs at hb; omega) (by unfold m_hs at hb; omega))
      refine m_run_ok hJ (fun pc => pc == 9) 120 _ _ _ _ ?_
      simp only [e_go, rX0_addNext_0, rX0_addNext_1, rX0_addNext_2, rX0_addNext_5, rX0_addNext_6, rX0_addNext_7, rX0_addNext_9, rX0_addNext_11, rX0_addNext_12, rX0_addNext_15, rX0_addNext_18, rX0_addNext_19, rX0_addNext_20, rX0_addNext_22, rX0_addNext_25, rX0_addNext_27, rX0_addNext_29, rX0_addNext_30, rX0_addNext_33, rX0_addNext_35, rX0_addNext_36, rX0_addNext_38, rX0_addNext_39, rX0_addNext_42, rX0_addNext_45, rX0_addNext_46, rX0_addNext_49, rX0_addNext_50, rX0_addNext_53, rX0_addNext_56, rX0_addNext_59, rX0_addNext_60, rX0_addNext_61, rX0_addNext_64, rX0_addNext_65, rX0_addNext_68, rX0_addNext_69, rX0_addNext_70, rX0_addNext_71, rX0_addNext_74, rX0_addNext_75, rX0_addNext_78, rX0_addNext_79, rX0_addNext_80, rX0_addNext_81, rX0_addNext_84, rX0_addNext_85, rX0_addNext_88, rX0_addNext_89, rX0_addNext_90, rX0_addNext_91, rX0_addNext_94, rX0_addNext_95, rX0_addNext_96, rX0_addNext_99, rX0_addNext_100, rX0_addNext_101, rX0_addNext_104, rX0_addNext_105, rX0_addNext_108, rX0_addNext_109, rX0_addNext_110, rX0_addNext_111, rX0_addNext_114, rX0_addNext_115, rX0_addNext_118, rX0_addNext_119, rX0_addNext_120, rX0_addNext_121, rX0_addNext_124, rX0_addNext_125, rX0_addNext_126, rX0_addNext_127, rX0_addNext_128, rX0_addNext_129, rX0_addNext_130, rX0_addNext_131, rX0_addNext_132, rX0_addNext_135, rX0_addNext_136, rX0_addNext_137, rX0_addNext_140, e_ald0, e_ald1, e_bin, e_callV3, e_dup2, e_dupi, e_dupr, e_get, e_goto, e_iald, e_iast, e_icmp, e_if, e_ild2, e_ild3, e_ild4, e_ild5, e_inc4, e_ist2, e_ist3, e_ist4, e_ist5, e_nl0, e_nl1, e_nl2, e_push, e_pushn, e_pushs, e_put, e_retv, e_zast, m_b0, m_b01, m_b1, m_em, Classical.not_not, Nat.reduceBEq, Nat.reduceLT, Nat.reduceLeDiff, Nat.reduceAdd, cond_true, cond_false, Bool.or_false, Bool.false_or, Bool.or_true, Bool.true_or, beq_iff_eq, true_and, and_true, true_or, or_true, forall_const, not_true_eq_false, not_false_eq_true, false_implies, implies_true, Nat.reduceEqDiff, List.length_nil, List.length_cons, ob_50, fv_50_0, fs_50_0, fv_50_1, fv_50_2, fv_50_3, fv_50_4, fv_50_5, fv_50_6, fv_50_7, kd_51, ln_51, kd_52, ln_52, kd_53, ln_53, kd_54, ln_54, kd_55, ln_55, kd_56, ln_56, kd_57, ln_57, obH hb, fvH0 hb, fsH0 hb, fvH1 hb, fsH1 hb, fvH2 hb, fvH3 hb, fvH4 hb, fvH5 hb, fvH6 hb, fvH7 hb, kdH1 hb, lnH1 hb, ltH1 hb, kdH2 hb, lnH2 hb, ltH2 hb, kdH3 hb, lnH3 hb, ltH3 hb, kdH4 hb, lnH4 hb, ltH4 hb, kdH5 hb, lnH5 hb, ltH5 hb, kdH6 hb, lnH6 hb, ltH6 hb, Int.toNat_natCast]
      rw [e0]
      refine ⟨fun z => absurd z (by omega), fun _ => ?_⟩
      obtain ⟨q, k, hq, hk, hP, hqk⟩ := hQ1 T (by omega)
      refine p0_nextSecond hb hR1 hW (by omega) hq hk hP (fun g2 q' k' w hO2 hI2 hq2 hk2 hP2 hc2 hS2 hle2 hin2 => ?_)
      simp only [e_go, rX0_addNext_0, rX0_addNext_1, rX0_addNext_2, rX0_addNext_5, rX0_addNext_6, rX0_addNext_7, rX0_addNext_9, rX0_addNext_11, rX0_addNext_12, rX0_addNext_15, rX0_addNext_18, rX0_addNext_19, rX0_addNext_20, rX0_addNext_22, rX0_addNext_25, rX0_addNext_27, rX0_addNext_29, rX0_addNext_30, rX0_addNext_33, rX0_addNext_35, rX0_addNext_36, rX0_addNext_38, rX0_addNext_39, rX0_addNext_42, rX0_addNext_45, rX0_addNext_46, rX0_addNext_49, rX0_addNext_50, rX0_addNext_53, rX0_addNext_56, rX0_addNext_59, rX0_addNext_60, rX0_addNext_61, rX0_addNext_64, rX0_addNext_65, rX0_addNext_68, rX0_addNext_69, rX0_addNext_70, rX0_addNext_71, rX0_addNext_74, rX0_addNext_75, rX0_addNext_78, rX0_addNext_79, rX0_addNext_80, rX0_addNext_81, rX0_addNext_84, rX0_addNext_85, rX0_addNext_88, rX0_addNext_89, rX0_addNext_90, rX0_addNext_91, rX0_addNext_94, rX0_addNext_95, rX0_addNext_96, rX0_addNext_99, rX0_addNext_100, rX0_addNext_101, rX0_addNext_104, rX0_addNext_105, rX0_addNext_108, rX0_addNext_109, rX0_addNext_110, rX0_addNext_111, rX0_addNext_114, rX0_addNext_115, rX0_addNext_118, rX0_addNext_119, rX0_addNext_120, rX0_addNext_121, rX0_addNext_124, rX0_addNext_125, rX0_addNext_126, rX0_addNext_127, rX0_addNext_128, rX0_addNext_129, rX0_addNext_130, rX0_addNext_131, rX0_addNext_132, rX0_addNext_135, rX0_addNext_136, rX0_addNext_137, rX0_addNext_140, e_ald0, e_ald1, e_bin, e_callV3, e_dup2, e_dupi, e_dupr, e_get, e_goto, e_iald, e_iast, e_icmp, e_if, e_ild2, e_ild3, e_ild4, e_ild5, e_inc4, e_ist2, e_ist3, e_ist4, e_ist5, e_nl0, e_nl1, e_nl2, e_push, e_pushn, e_pushs, e_put, e_retv, e_zast, m_b0, m_b01, m_b1, m_em, Classical.not_not, Nat.reduceBEq, Nat.reduceLT, Nat.reduceLeDiff, Nat.reduceAdd, cond_true, cond_false, Bool.or_false, Bool.false_or, Bool.or_true, Bool.true_or, beq_iff_eq, true_and, and_true, true_or, or_true, forall_const, not_true_eq_false, not_false_eq_true, false_implies, implies_true, Nat.reduceEqDiff, List.length_nil, List.length_cons, ob_50, fv_50_0, fs_50_0, fv_50_1, fv_50_2, fv_50_3, fv_50_4, fv_50_5, fv_50_6, fv_50_7, kd_51, ln_51, kd_52, ln_52, kd_53, ln_53, kd_54, ln_54, kd_55, ln_55, kd_56, ln_56, kd_57, ln_57, obH hb, fvH0 hb, fsH0 hb, fvH1 hb, fsH1 hb, fvH2 hb, fvH3 hb, fvH4 hb, fvH5 hb, fvH6 hb, fvH7 hb, kdH1 hb, lnH1 hb, ltH1 hb, kdH2 hb, lnH2 hb, ltH2 hb, kdH3 hb, lnH3 hb, ltH3 hb, kdH4 hb, lnH4 hb, ltH4 hb, kdH5 hb, lnH5 hb, ltH5 hb, kdH6 hb, lnH6 hb, ltH6 hb, Int.toNat_natCast]
      have hO3 : ∀ j, j ≠ 56 → j ≠ 57 → g2 j = g j := fun j h1 h2 => (hO2 j h1 h2).trans (hO j h1 h2)
      have hQ2 : c_Q g2 s p := by
        intro t ht
        by_cases e : t = T
        · subst e; exact ⟨q', k', hq2, hk2, hP2, hc2.trans hqk⟩
        · obtain ⟨a, b, c, d, e2⟩ := hQ1 t ht
          exact ⟨a, b, (hI2 t e).1.trans c, (hI2 t e).2.trans d, e2⟩
      rw [m_w2 (x := (T : Int) + 1) (by omega) (by omega)]
      rw [hqk] at hS2 hc2
      refine ⟨fun c => ?_, fun c => ?_⟩
      · refine ih (T + 1) g2 f v _ (by omega) hO3 hQ2 ?_
        rcases hh with ⟨e1, e2, hh⟩ | ⟨F, V, e1, e2, hF, hV, ha, hc, ⟨k3, h3, h4, h5, h6⟩, hw⟩
        · refine Or.inl ⟨e1, e2, fun t ht => ?_⟩
          by_cases e : t = T
          · subst e
            rcases hS2 with ⟨z, -, -⟩ | ⟨-, z⟩
            · omega
            · exact z
          · exact hh t (by omega)
        · have eF := hI2 F (by omega)
          refine Or.inr ⟨F, V, e1, e2, by omega, hV, ha, hc, ⟨k3, eF.1.trans h3, eF.2.trans h4, h5, h6⟩, fun t ht => ?_⟩
          by_cases e : t = T
          · subst e; exact ⟨w, hS2, by omega, fun z => absurd z (by omega)⟩
          · exact hw t (by omega)
      · have hv36 : v ≤ 3600 := by
          rcases hh with ⟨-, e2, -⟩ | ⟨F, V, -, e2, -, hV, -⟩ <;> omega
        have hw36 : w < 3600 := by omega
        obtain ⟨z1, z2⟩ := hin2 hw36
        have hat : d_at s T w = true ∧ d_arr s T w = d_arr s T ((p + 4 - T) / 5) := by
          rcases hS2 with ⟨-, a, b2⟩ | ⟨a, -⟩
          · exact ⟨a, b2⟩
          · omega
        refine ih (T + 1) g2 T w _ (by omega) hO3 hQ2 (Or.inr ⟨T, w, rfl, rfl, by omega, hw36, hat.1, hat.2, ⟨k', ?_, hk2, ?_, ?_⟩, fun t ht => ?_⟩)
        · rw [hq2, z1]
        · rw [← z1]; exact z2
        · rw [← z1]; exact hc2
        · by_cases e : t = T
          · subst e; exact ⟨w, hS2, by omega, fun z => absurd z (by omega)⟩
          · rcases hh with ⟨e1, e2, hh⟩ | ⟨F, V, e1, e2, hF, hV, ha, hc, -, hw⟩
            · exact ⟨3600, Or.inr ⟨rfl, hh t (by omega)⟩, by omega, fun _ => hw36⟩
            · obtain ⟨w', a1, a2, a3⟩ := hw t (by omega)
              exact ⟨w', a1, by omega, fun _ => by omega⟩
  refine m_run_ok hJ (fun pc => pc == 9) 120 _ _ _ _ ?_
  simp only [e_go, rX0_addNext_0, rX0_addNext_1, rX0_addNext_2, rX0_addNext_5, rX0_addNext_6, rX0_addNext_7, rX0_addNext_9, rX0_addNext_11, rX0_addNext_12, rX0_addNext_15, rX0_addNext_18, rX0_addNext_19, rX0_addNext_20, rX0_addNext_22, rX0_addNext_25, rX0_addNext_27, rX0_addNext_29, rX0_addNext_30, rX0_addNext_33, rX0_addNext_35, rX0_addNext_36, rX0_addNext_38, rX0_addNext_39, rX0_addNext_42, rX0_addNext_45, rX0_addNext_46, rX0_addNext_49, rX0_addNext_50, rX0_addNext_53, rX0_addNext_56, rX0_addNext_59, rX0_addNext_60, rX0_addNext_61, rX0_addNext_64, rX0_addNext_65, rX0_addNext_68, rX0_addNext_69, rX0_addNext_70, rX0_addNext_71, rX0_addNext_74, rX0_addNext_75, rX0_addNext_78, rX0_addNext_79, rX0_addNext_80, rX0_addNext_81, rX0_addNext_84, rX0_addNext_85, rX0_addNext_88, rX0_addNext_89, rX0_addNext_90, rX0_addNext_91, rX0_addNext_94, rX0_addNext_95, rX0_addNext_96, rX0_addNext_99, rX0_addNext_100, rX0_addNext_101, rX0_addNext_104, rX0_addNext_105, rX0_addNext_108, rX0_addNext_109, rX0_addNext_110, rX0_addNext_111, rX0_addNext_114, rX0_addNext_115, rX0_addNext_118, rX0_addNext_119, rX0_addNext_120, rX0_addNext_121, rX0_addNext_124, rX0_addNext_125, rX0_addNext_126, rX0_addNext_127, rX0_addNext_128, rX0_addNext_129, rX0_addNext_130, rX0_addNext_131, rX0_addNext_132, rX0_addNext_135, rX0_addNext_136, rX0_addNext_137, rX0_addNext_140, e_ald0, e_ald1, e_bin, e_callV3, e_dup2, e_dupi, e_dupr, e_get, e_goto, e_iald, e_iast, e_icmp, e_if, e_ild2, e_ild3, e_ild4, e_ild5, e_inc4, e_ist2, e_ist3, e_ist4, e_ist5, e_nl0, e_nl1, e_nl2, e_push, e_pushn, e_pushs, e_put, e_retv, e_zast, m_b0, m_b01, m_b1, m_em, Classical.not_not, Nat.reduceBEq, Nat.reduceLT, Nat.reduceLeDiff, Nat.reduceAdd, cond_true, cond_false, Bool.or_false, Bool.false_or, Bool.or_true, Bool.true_or, beq_iff_eq, true_and, and_true, true_or, or_true, forall_const, not_true_eq_false, not_false_eq_true, false_implies, implies_true, Nat.reduceEqDiff, List.length_nil, List.length_cons, ob_50, fv_50_0, fs_50_0, fv_50_1, fv_50_2, fv_50_3, fv_50_4, fv_50_5, fv_50_6, fv_50_7, kd_51, ln_51, kd_52, ln_52, kd_53, ln_53, kd_54, ln_54, kd_55, ln_55, kd_56, ln_56, kd_57, ln_57, obH hb, fvH0 hb, fsH0 hb, fvH1 hb, fsH1 hb, fvH2 hb, fvH3 hb, fvH4 hb, fvH5 hb, fvH6 hb, fvH7 hb, kdH1 hb, lnH1 hb, ltH1 hb, kdH2 hb, lnH2 hb, ltH2 hb, kdH3 hb, lnH3 hb, ltH3 hb, kdH4 hb, lnH4 hb, ltH4 hb, kdH5 hb, lnH5 hb, ltH5 hb, kdH6 hb, lnH6 hb, ltH6 hb, Int.toNat_natCast]
  exact loop (s 0).toNat 0 g (-1) 3600 none (by omega) (fun _ _ _ => rfl) hQ (Or.inl ⟨rfl, rfl, fun t ht => absurd ht (by omega)⟩)
theorem p0_gather {b : Nat} (hb : m_hs b) {g : m_G} {s : Nat → Int} {nd : Nat → Nat → Int} {P : m_Post} (hR : h_R g b s) (hN : h_N g b s nd) (hW : h_W s)
    (h : ∀ (g' : m_G), c_F g g' → g' 50 0 = sumC s (s 0).toNat → (∀ n : Nat, (n : Int) < sumC s (s 0).toNat → ∃ m t : Nat, (t : Int) < s 0 ∧ m < 3600 ∧ d_at s t m = true ∧ c_N s (5 * m + t) = n ∧ (g' 51 n = (t : Int) ∧ g' 52 n = (m : Int) ∧ g' 53 n = nd t (m / 900)) ∧ g' 54 n = -1 ∧ g' 55 n = 0) → P none g') : wX0_gather.1 [.inr (.inr 50), .inr (.inr b)] g P := by
  have hzz := hW.1
  have hC := sumC_pos hW (s 0).toNat (by omega)
  have h500 := hW.2.2.2.2
  refine m_wp_of (by simp [m_fit]) (fun J hJ => ?_)
  simp only [m_ini, Nat.reduceSub, List.replicate]
  have loop : ∀ (m n p : Nat) (g1 : m_G), n + m = (sumC s (s 0).toNat).toNat → c_F g g1 → c_Q g1 s p → g1 50 0 = (c_N s p : Int) → c_E g1 s nd (c_N s p) → c_N s p = n → J 45 [some (.inr (.inr 50)), some (.inr (.inr b)), some (.inl (sumC s (s 0).toNat)), some (.inl n)] [] g1 := by
    intro m
    induction m with
    | zero =>
      intro n p g1 hn hF hQ hz hE he
      refine m_run_ok hJ (fun pc => pc == 7 || pc == 45) 60 _ _ _ _ ?_
      simp only [e_go, rX0_gather_0, rX0_gather_1, rX0_gather_2, rX0_gather_5, rX0_gather_6, rX0_gather_7, rX0_gather_8, rX0_gather_9, rX0_gather_12, rX0_gather_13, rX0_gather_16, rX0_gather_17, rX0_gather_18, rX0_gather_19, rX0_gather_20, rX0_gather_23, rX0_gather_24, rX0_gather_25, rX0_gather_26, rX0_gather_29, rX0_gather_32, rX0_gather_33, rX0_gather_36, rX0_gather_39, rX0_gather_42, rX0_gather_43, rX0_gather_44, rX0_gather_45, rX0_gather_46, rX0_gather_47, rX0_gather_50, rX0_gather_51, rX0_gather_52, rX0_gather_55, rX0_gather_58, rX0_gather_61, e_ald0, e_ald1, e_callV1, e_callV2, e_get, e_goto, e_iast, e_icmp, e_ild2, e_ild3, e_inc2, e_inc3, e_ist2, e_ist3, e_min, e_nl0, e_nl1, e_nl2, e_push, e_pushn, e_pushs, e_put, e_retv, m_b0, m_b01, m_b1, m_em, Classical.not_not, Nat.reduceBEq, Nat.reduceLT, Nat.reduceLeDiff, Nat.reduceAdd, cond_true, cond_false, Bool.or_false, Bool.false_or, Bool.or_true, Bool.true_or, beq_iff_eq, true_and, and_true, true_or, or_true, forall_const, not_true_eq_false, not_false_eq_true, false_implies, implies_true, Nat.reduceEqDiff, List.length_nil, List.length_cons, ob_50, fv_50_0, fs_50_0, fv_50_1, fv_50_2, fv_50_3, fv_50_4, fv_50_5, fv_50_6, fv_50_7, kd_56, ln_56, kd_57, ln_57, obH hb, fvH0 hb, fsH0 hb, fvH1 hb, fsH1 hb, fvH2 hb, fvH3 hb, fvH4 hb, fvH5 hb, fvH6 hb, fvH7 hb, kdH1 hb, lnH1 hb, ltH1 hb, kdH2 hb, lnH2 hb, ltH2 hb, kdH3 hb, lnH3 hb, ltH3 hb, kdH4 hb, lnH4 hb, ltH4 hb, kdH5 hb, lnH5 hb, ltH5 hb, kdH6 hb, lnH6 hb, ltH6 hb, Int.toNat_natCast]
      refine ⟨fun _ => ?_, fun z => absurd z (by omega)⟩
      refine h g1 hF (by rw [hz, he]; omega) (fun i hi => hE i (by omega))
    | succ m ih =>
      intro n p g1 hn hF hQ hz hE he
      refine m_run_ok hJ (fun pc => pc == 7 || pc == 45) 60 _ _ _ _ ?_
      simp only [e_go, rX0_gather_0, rX0_gather_1, rX0_gather_2, rX0_gather_5, rX0_gather_6, rX0_gather_7, rX0_gather_8, rX0_gather_9, rX0_gather_12, rX0_gather_13, rX0_gather_16, rX0_gather_17, rX0_gather_18, rX0_gather_19, rX0_gather_20, rX0_gather_23, rX0_gather_24, rX0_gather_25, rX0_gather_26, rX0_gather_29, rX0_gather_32, rX0_gather_33, rX0_gather_36, rX0_gather_39, rX0_gather_42, rX0_gather_43, rX0_gather_44, rX0_gather_45, rX0_gather_46, rX0_gather_47, rX0_gather_50, rX0_gather_51, rX0_gather_52, rX0_gather_55, rX0_gather_58, rX0_gather_61, e_ald0, e_ald1, e_callV1, e_callV2, e_get, e_goto, e_iast, e_icmp, e_ild2, e_ild3, e_inc2, e_inc3, e_ist2, e_ist3, e_min, e_nl0, e_nl1, e_nl2, e_push, e_pushn, e_pushs, e_put, e_retv, m_b0, m_b01, m_b1, m_em, Classical.not_not, Nat.reduceBEq, Nat.reduceLT, Nat.reduceLeDiff, Nat.reduceAdd, cond_true, cond_false, Bool.or_false, Bool.false_or, Bool.or_true, Bool.true_or, beq_iff_eq, true_and, and_true, true_or, or_true, forall_const, not_true_eq_false, not_false_eq_true, false_implies, implies_true, Nat.reduceEqDiff, List.length_nil, List.length_cons, ob_50, fv_50_0, fs_50_0, fv_50_1, fv_50_2, fv_50_3, fv_50_4, fv_50_5, fv_50_6, fv_50_7, kd_56, ln_56, kd_57, ln_57, obH hb, fvH0 hb, fsH0 hb, fvH1 hb, fsH1 hb, fvH2 hb, fvH3 hb, fvH4 hb, fvH5 hb, fvH6 hb, fvH7 hb, kdH1 hb, lnH1 hb, ltH1 hb, kdH2 hb, lnH2 hb, ltH2 hb, kdH3 hb, lnH3 hb, ltH3 hb, kdH4 hb, lnH4 hb, ltH4 hb, kdH5 hb, lnH5 hb, ltH5 hb, kdH6 hb, lnH6 hb, ltH6 hb, Int.toNat_natCast]
      refine ⟨fun z => absurd z (by omega), fun _ => ?_⟩
      refine p0_addNext hb (hR.cF hb hF) (hN.cF hb hF) hW hQ hz hE (by omega) (fun g' p' f1 f2 f3 f4 f5 => ?_)
      simp only [e_go, rX0_gather_0, rX0_gather_1, rX0_gather_2, rX0_gather_5, rX0_gather_6, rX0_gather_7, rX0_gather_8, rX0_gather_9, rX0_gather_12, rX0_gather_13, rX0_gather_16, rX0_gather_17, rX0_gather_18, rX0_gather_19, rX0_gather_20, rX0_gather_23, rX0_gather_24, rX0_gather_25, rX0_gather_26, rX0_gather_29, rX0_gather_32, rX0_gather_33, rX0_gather_36, rX0_gather_39, rX0_gather_42, rX0_gather_43, rX0_gather_44, rX0_gather_45, rX0_gather_46, rX0_gather_47, rX0_gather_50, rX0_gather_51, rX0_gather_52, rX0_gather_55, rX0_gather_58, rX0_gather_61, e_ald0, e_ald1, e_callV1, e_callV2, e_get, e_goto, e_iast, e_icmp, e_ild2, e_ild3, e_inc2, e_inc3, e_ist2, e_ist3, e_min, e_nl0, e_nl1, e_nl2, e_push, e_pushn, e_pushs, e_put, e_retv, m_b0, m_b01, m_b1, m_em, Classical.not_not, Nat.reduceBEq, Nat.reduceLT, Nat.reduceLeDiff, Nat.reduceAdd, cond_true, cond_false, Bool.or_false, Bool.false_or, Bool.or_true, Bool.true_or, beq_iff_eq, true_and, and_true, true_or, or_true, forall_const, not_true_eq_false, not_false_eq_true, false_implies, implies_true, Nat.reduceEqDiff, List.length_nil, List.length_cons, ob_50, fv_50_0, fs_50_0, fv_50_1, fv_50_2, fv_50_3, fv_50_4, fv_50_5, fv_50_6, fv_50_7, kd_56, ln_56, kd_57, ln_57, obH hb, fvH0 hb, fsH0 hb, fvH1 hb, fsH1 hb, fvH2 hb, fvH3 hb, fvH4 hb, fvH5 hb, fvH6 hb, fvH7 hb, kdH1 hb, lnH1 hb, ltH1 hb, kdH2 hb, lnH2 hb, ltH2 hb, kdH3 hb, lnH3 hb, ltH3 hb, kdH4 hb, lnH4 hb, ltH4 hb, kdH5 hb, lnH5 hb, ltH5 hb, kdH6 hb, lnH6 hb, ltH6 hb, Int.toNat_natCast]
      rw [m_w2 (x := (n : Int) + 1) (by omega) (by omega)]
      exact ih (n + 1) p' g' (by omega) (fun j hj => (f1 j hj).trans (hF j hj)) f2 f3 f4 (by omega)
  have loop0 : ∀ (m n : Nat) (g1 : m_G), n + m = 5 → c_F g g1 → (∀ t, t < n → g1 56 t = 0 ∧ g1 57 t = 0) → g1 50 0 = 0 → J 7 [some (.inr (.inr 50)), some (.inr (.inr b)), some (.inl n), none] [] g1 := by
    intro m
    induction m with
    | zero =>
      intro n g1 hn hF hH hz
      have e : n = 5 := by omega
      subst e
      refine m_run_ok hJ (fun pc => pc == 7 || pc == 45) 60 _ _ _ _ ?_
      simp only [e_go, rX0_gather_0, rX0_gather_1, rX0_gather_2, rX0_gather_5, rX0_gather_6, rX0_gather_7, rX0_gather_8, rX0_gather_9, rX0_gather_12, rX0_gather_13, rX0_gather_16, rX0_gather_17, rX0_gather_18, rX0_gather_19, rX0_gather_20, rX0_gather_23, rX0_gather_24, rX0_gather_25, rX0_gather_26, rX0_gather_29, rX0_gather_32, rX0_gather_33, rX0_gather_36, rX0_gather_39, rX0_gather_42, rX0_gather_43, rX0_gather_44, rX0_gather_45, rX0_gather_46, rX0_gather_47, rX0_gather_50, rX0_gather_51, rX0_gather_52, rX0_gather_55, rX0_gather_58, rX0_gather_61, e_ald0, e_ald1, e_callV1, e_callV2, e_get, e_goto, e_iast, e_icmp, e_ild2, e_ild3, e_inc2, e_inc3, e_ist2, e_ist3, e_min, e_nl0, e_nl1, e_nl2, e_push, e_pushn, e_pushs, e_put, e_retv, m_b0, m_b01, m_b1, m_em, Classical.not_not, Nat.reduceBEq, Nat.reduceLT, Nat.reduceLeDiff, Nat.reduceAdd, cond_true, cond_false, Bool.or_false, Bool.false_or, Bool.or_true, Bool.true_or, beq_iff_eq, true_and, and_true, true_or, or_true, forall_const, not_true_eq_false, not_false_eq_true, false_implies, implies_true, Nat.reduceEqDiff, List.length_nil, List.length_cons, ob_50, fv_50_0, fs_50_0, fv_50_1, fv_50_2, fv_50_3, fv_50_4, fv_50_5, fv_50_6, fv_50_7, kd_56, ln_56, kd_57, ln_57, obH hb, fvH0 hb, fsH0 hb, fvH1 hb, fsH1 hb, fvH2 hb, fvH3 hb, fvH4 hb, fvH5 hb, fvH6 hb, fvH7 hb, kdH1 hb, lnH1 hb, ltH1 hb, kdH2 hb, lnH2 hb, ltH2 hb, kdH3 hb, lnH3 hb, ltH3 hb, kdH4 hb, lnH4 hb, ltH4 hb, kdH5 hb, lnH5 hb, ltH5 hb, kdH6 hb, lnH6 hb, ltH6 hb, Int.toNat_natCast]
      refine ⟨fun _ => ?_, fun z => absurd z (by omega)⟩
      refine p_allComers hb (hR.cF hb hF) hW ?_
      simp only [e_go, rX0_gather_0, rX0_gather_1, rX0_gather_2, rX0_gather_5, rX0_gather_6, rX0_gather_7, rX0_gather_8, rX0_gather_9, rX0_gather_12, rX0_gather_13, rX0_gather_16, rX0_gather_17, rX0_gather_18, rX0_gather_19, rX0_gather_20, rX0_gather_23, rX0_gather_24, rX0_gather_25, rX0_gather_26, rX0_gather_29, rX0_gather_32, rX0_gather_33, rX0_gather_36, rX0_gather_39, rX0_gather_42, rX0_gather_43, rX0_gather_44, rX0_gather_45, rX0_gather_46, rX0_gather_47, rX0_gather_50, rX0_gather_51, rX0_gather_52, rX0_gather_55, rX0_gather_58, rX0_gather_61, e_ald0, e_ald1, e_callV1, e_callV2, e_get, e_goto, e_iast, e_icmp, e_ild2, e_ild3, e_inc2, e_inc3, e_ist2, e_ist3, e_min, e_nl0, e_nl1, e_nl2, e_push, e_pushn, e_pushs, e_put, e_retv, m_b0, m_b01, m_b1, m_em, Classical.not_not, Nat.reduceBEq, Nat.reduceLT, Nat.reduceLeDiff, Nat.reduceAdd, cond_true, cond_false, Bool.or_false, Bool.false_or, Bool.or_true, Bool.true_or, beq_iff_eq, true_and, and_true, true_or, or_true, forall_const, not_true_eq_false, not_false_eq_true, false_implies, implies_true, Nat.reduceEqDiff, List.length_nil, List.length_cons, ob_50, fv_50_0, fs_50_0, fv_50_1, fv_50_2, fv_50_3, fv_50_4, fv_50_5, fv_50_6, fv_50_7, kd_56, ln_56, kd_57, ln_57, obH hb, fvH0 hb, fsH0 hb, fvH1 hb, fsH1 hb, fvH2 hb, fvH3 hb, fvH4 hb, fvH5 hb, fvH6 hb, fvH7 hb, kdH1 hb, lnH1 hb, ltH1 hb, kdH2 hb, lnH2 hb, ltH2 hb, kdH3 hb, lnH3 hb, ltH3 hb, kdH4 hb, lnH4 hb, ltH4 hb, kdH5 hb, lnH5 hb, ltH5 hb, kdH6 hb, lnH6 hb, ltH6 hb, Int.toNat_natCast]
      rw [if_neg (by omega)]
      have c0 : ∀ T : Nat, c_n s 0 T = 0 := by
        intro T
        induction T with
        | zero => rfl
        | succ T ih => simp only [c_n]; rw [ih, show (0 + 4 - T) / 5 = 0 by omega]; rfl
      refine loop (sumC s (s 0).toNat).toNat 0 0 g1 (by omega) hF (fun t ht => ?_) ?_ ?_ (c0 _)
      · refine ⟨0, 0, (hH t (by omega)).1, (hH t (by omega)).2, Or.inl ⟨by decide, ?_⟩, ?_⟩
        · have := (hW.2.2.1 t ht).2.2 0 (by decide); omega
        · rw [show (0 + 4 - t) / 5 = 0 by omega]; rfl
      · rw [hz]; unfold c_N; rw [c0]; rfl
      · intro n hn; unfold c_N at hn; rw [c0] at hn; omega
    | succ m ih =>
      intro n g1 hn hF hH hz
      refine m_run_ok hJ (fun pc => pc == 7 || pc == 45) 60 _ _ _ _ ?_
      simp only [e_go, rX0_gather_0, rX0_gather_1, rX0_gather_2, rX0_gather_5, rX0_gather_6, rX0_gather_7, rX0_gather_8, rX0_gather_9, rX0_gather_12, rX0_gather_13, rX0_gather_16, rX0_gather_17, rX0_gather_18, rX0_gather_19, rX0_gather_20, rX0_gather_23, rX0_gather_24, rX0_gather_25, rX0_gather_26, rX0_gather_29, rX0_gather_32, rX0_gather_33, rX0_gather_36, rX0_gather_39, rX0_gather_42, rX0_gather_43, rX0_gather_44, rX0_gather_45, rX0_gather_46, rX0_gather_47, rX0_gather_50, rX0_gather_51, rX0_gather_52, rX0_gather_55, rX0_gather_58, rX0_gather_61, e_ald0, e_ald1, e_callV1, e_callV2, e_get, e_goto, e_iast, e_icmp, e_ild2, e_ild3, e_inc2, e_inc3, e_ist2, e_ist3, e_min, e_nl0, e_nl1, e_nl2, e_push, e_pushn, e_pushs, e_put, e_retv, m_b0, m_b01, m_b1, m_em, Classical.not_not, Nat.reduceBEq, Nat.reduceLT, Nat.reduceLeDiff, Nat.reduceAdd, cond_true, cond_false, Bool.or_false, Bool.false_or, Bool.or_true, Bool.true_or, beq_iff_eq, true_and, and_true, true_or, or_true, forall_const, not_true_eq_false, not_false_eq_true, false_implies, implies_true, Nat.reduceEqDiff, List.length_nil, List.length_cons, ob_50, fv_50_0, fs_50_0, fv_50_1, fv_50_2, fv_50_3, fv_50_4, fv_50_5, fv_50_6, fv_50_7, kd_56, ln_56, kd_57, ln_57, obH hb, fvH0 hb, fsH0 hb, fvH1 hb, fsH1 hb, fvH2 hb, fvH3 hb, fvH4 hb, fvH5 hb, fvH6 hb, fvH7 hb, kdH1 hb, lnH1 hb, ltH1 hb, kdH2 hb, lnH2 hb, ltH2 hb, kdH3 hb, lnH3 hb, ltH3 hb, kdH4 hb, lnH4 hb, ltH4 hb, kdH5 hb, lnH5 hb, ltH5 hb, kdH6 hb, lnH6 hb, ltH6 hb, Int.toNat_natCast]
      rw [m_w2 (x := (n : Int) + 1) (by omega) (by omega)]
      refine ⟨fun z => absurd z (by omega), fun _ => ⟨by omega, by omega, ?_⟩⟩
      refine ih (n + 1) _ (by omega) ?_ ?_ ?_
      · intro j hj; rw [m_up_ne (by omega), m_up_ne (by omega)]; exact hF j hj
      · intro t ht
        simp only [m_upv]
        by_cases e : t = n
        · simp [e]
        · simp [e]; exact hH t (by omega)
      · simp only [m_upv]; simp; exact hz
  refine m_run_ok hJ (fun pc => pc == 7 || pc == 45) 60 _ _ _ _ ?_
  simp only [e_go, rX0_gather_0, rX0_gather_1, rX0_gather_2, rX0_gather_5, rX0_gather_6, rX0_gather_7, rX0_gather_8, rX0_gather_9, rX0_gather_12, rX0_gather_13, rX0_gather_16, rX0_gather_17, rX0_gather_18, rX0_gather_19, rX0_gather_20, rX0_gather_23, rX0_gather_24, rX0_gather_25, rX0_gather_26, rX0_gather_29, rX0_gather_32, rX0_gather_33, rX0_gather_36, rX0_gather_39, rX0_gather_42, rX0_gather_43, rX0_gather_44, rX0_gather_45, rX0_gather_46, rX0_gather_47, rX0_gather_50, rX0_gather_51, rX0_gather_52, rX0_gather_55, rX0_gather_58, rX0_gather_61, e_ald0, e_ald1, e_callV1, e_callV2, e_get, e_goto, e_iast, e_icmp, e_ild2, e_ild3, e_inc2, e_inc3, e_ist2, e_ist3, e_min, e_nl0, e_nl1, e_nl2, e_push, e_pushn, e_pushs, e_put, e_retv, m_b0, m_b01, m_b1, m_em, Classical.not_not, Nat.reduceBEq, Nat.reduceLT, Nat.reduceLeDiff, Nat.reduceAdd, cond_true, cond_false, Bool.or_false, Bool.false_or, Bool.or_true, Bool.true_or, beq_iff_eq, true_and, and_true, true_or, or_true, forall_const, not_true_eq_false, not_false_eq_true, false_implies, implies_true, Nat.reduceEqDiff, List.length_nil, List.length_cons, ob_50, fv_50_0, fs_50_0, fv_50_1, fv_50_2, fv_50_3, fv_50_4, fv_50_5, fv_50_6, fv_50_7, kd_56, ln_56, kd_57, ln_57, obH hb, fvH0 hb, fsH0 hb, fvH1 hb, fsH1 hb, fvH2 hb, fvH3 hb, fvH4 hb, fvH5 hb, fvH6 hb, fvH7 hb, kdH1 hb, lnH1 hb, ltH1 hb, kdH2 hb, lnH2 hb, ltH2 hb, kdH3 hb, lnH3 hb, ltH3 hb, kdH4 hb, lnH4 hb, ltH4 hb, kdH5 hb, lnH5 hb, ltH5 hb, kdH6 hb, lnH6 hb, ltH6 hb, Int.toNat_natCast]
  refine loop0 5 0 _ (by omega) ?_ (fun t ht => absurd ht (by omega)) (by rw [m_up_eq, m_us])
  intro j hj; exact m_up_ne (by omega)
