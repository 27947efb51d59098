set_option maxRecDepth 20000
set_option maxHeartbeats 2000000
def ps_b (s : Nat → Int) : Prop := (0 ≤ s 0 ∧ s 0 ≤ 5) ∧ 0 ≤ s 1 ∧ s 1 ≤ 6
theorem ps_ap_b {c : Int} {vs : List Int} {s s' : Nat → Int} (hb : ps_b s) (hv : ∀ i, 0 ≤ vs.getD i 0 ∧ vs.getD i 0 ≤ 99) (h : ps_ap c vs s = some s') : ps_b s' ∧ ∀ k, 64 ≤ k → s' k = s k := by
  have v0 := hv 0
  have v1 := hv 1
  have hb1 := hb.1
  have hb2 := hb.2
  unfold ps_ap at h
  split at h
  · split at h
    · cases h
    · cases h
      refine ⟨⟨?_, ?_⟩, fun k hk => ?_⟩
      · unfold s_sort; rw [if_pos rfl]; omega
      · unfold s_sort; rw [if_neg (by decide), if_neg (by omega), if_neg (by omega), if_neg (by omega)]; exact hb2
      · unfold s_sort; rw [if_neg (by omega), if_neg (by omega), if_neg (by omega), if_neg (by omega)]
  · split at h
    · split at h
      · cases h
      · cases h
        refine ⟨⟨?_, ?_⟩, fun k hk => ?_⟩
        · unfold s_lane; rw [if_neg (by decide), if_neg (by omega), if_neg (by omega)]; exact hb1
        · unfold s_lane; rw [if_pos rfl]; omega
        · unfold s_lane; rw [if_neg (by omega), if_neg (by omega), if_neg (by omega)]
    · split at h
      · split at h
        · cases h
        · cases h
          refine ⟨⟨?_, ?_⟩, fun k hk => ?_⟩
          · rw [m_un (by omega)]; exact hb1
          · rw [m_un (by omega)]; exact hb2
          · rw [m_un (by omega)]
      · split at h
        · cases h
        · cases h
          refine ⟨⟨?_, ?_⟩, fun k hk => ?_⟩
          · rw [m_un (by omega)]; exact hb1
          · rw [m_un (by omega)]; exact hb2
          · rw [m_un (by omega)]
theorem ps_f_len {T : Nat → Int} {n : Nat} : ∀ (xs vs : List Int) (p : Nat), (ps_f T n xs vs p).1 = true → (ps_f T n xs vs p).2.2.length = vs.length + (xs.filter (fun x => x == 100 || x == 110)).length
  | [], vs, p, _ => by simp [ps_f]
  | x :: xs, vs, p, h => by
    simp only [ps_f] at h ⊢
    by_cases c : x = 100
    · rw [if_pos c] at h ⊢
      by_cases d : ps_d (ps_s T n p)
      · rw [if_pos d] at h ⊢
        rw [ps_f_len xs _ _ h, c]; simp; omega
      · rw [if_neg d] at h; cases h
    · rw [if_neg c] at h ⊢
      by_cases c2 : x = 110
      · rw [if_pos c2] at h ⊢
        by_cases d : ps_d (ps_s T n p)
        · rw [if_pos d] at h ⊢
          rw [ps_f_len xs _ _ h, c2]; simp; omega
        · rw [if_neg d] at h; cases h
      · rw [if_neg c2] at h ⊢
        by_cases d : ps_s T n p = x
        · rw [if_pos d] at h ⊢
          rw [ps_f_len xs _ _ h]
          have e : (x == 100 || x == 110) = false := by simp [c, c2]
          rw [List.filter_cons, e]; rfl
        · rw [if_neg d] at h; cases h
theorem ps_st_len {T : Nat → Int} {n p : Nat} (h : (ps_st T n p).1 = true) : (ps_s T n p = 115 ∧ (ps_st T n p).2.2.length = 2) ∨ (ps_s T n p = 108 ∧ (ps_st T n p).2.2.length = 1) ∨ ((ps_s T n p = 97 ∨ ps_s T n p = 113) ∧ (ps_st T n p).2.2.length = 3) := by
  have hne : ps_form (ps_s T n p) ≠ [] := fun z => by rw [ps_st_0 z] at h; cases h
  have e : ps_st T n p = ps_f T n (ps_form (ps_s T n p)) [] (p + 1) := by unfold ps_st; rw [if_neg hne]
  rw [e] at h ⊢
  rw [ps_f_len _ _ _ h]
  generalize ps_s T n p = c at hne ⊢
  unfold ps_form at hne ⊢
  by_cases c1 : c = 115
  · rw [if_pos c1]; exact Or.inl ⟨c1, rfl⟩
  · rw [if_neg c1] at hne ⊢
    by_cases c2 : c = 108
    · rw [if_pos c2]; exact Or.inr (Or.inl ⟨c2, rfl⟩)
    · rw [if_neg c2] at hne ⊢
      by_cases c3 : c = 97 ∨ c = 113
      · rw [if_pos c3]; exact Or.inr (Or.inr ⟨c3, rfl⟩)
      · rw [if_neg c3] at hne; exact absurd rfl hne
theorem p9_comes {c : Int} {vs : List Int} {g : m_G} {s : Nat → Int} {q : m_Post} (hc : c = 115 ∨ c = 108 ∨ c = 97 ∨ c = 113) (hb : ps_b s) (hs : ∀ k, k < 64 → g 70 k = s k) (hv : ∀ i, 0 ≤ vs.getD i 0 ∧ vs.getD i 0 ≤ 99) (v0 : g 73 0 = vs.getD 0 0) (v1 : c ≠ 108 → g 73 1 = vs.getD 1 0) (v2 : c = 97 ∨ c = 113 → g 73 2 = vs.getD 2 0)
    (h0 : ps_ap c vs s = none → q (some (.inl 0)) g) (h1 : ∀ g' s', ps_ap c vs s = some s' → (∀ j, j ≠ 70 → g' j = g j) → (∀ k, k < 64 → g' 70 k = s' k) → q (some (.inl 1)) g') : wX9_comes.1 [.inr (.inr 66), .inl c] g q := by
  have w0 := hv 0
  have w1 := hv 1
  have w2 := hv 2
  have hb1 := hb.1
  have hb2 := hb.2
  refine m_wp_of (by simp [m_fit]) (fun J hJ => ?_)
  simp only [m_ini, Nat.reduceSub, List.replicate]
  have r0 := hs 0 (by decide)
  have r1 := hs 1 (by decide)
  generalize ha : vs.getD 0 0 = a at v0 w0
  generalize hbb : vs.getD 1 0 = b at v1 w1
  generalize hd : vs.getD 2 0 = d at v2 w2
  unfold ps_ap at h0 h1
  rw [ha, hbb, hd] at h0 h1
  obtain ⟨S, hS⟩ : ∃ S : Nat, s 0 = (S : Int) := ⟨(s 0).toNat, by omega⟩
  obtain ⟨L, hL⟩ : ∃ L : Nat, s 1 = (L : Int) := ⟨(s 1).toNat, by omega⟩
  have ls : ∀ (m k : Nat) (g1 : m_G), c = 115 → S < 5 → (∀ g' : m_G, (∀ j, j ≠ 70 → g' j = g j) → (∀ j, j < 64 → g' 70 j = s_sort s a b j) → q (some (.inl 1)) g') → k + m = 6 → (∀ j, j ≠ 70 → g1 j = g j) → (∀ j, g1 70 j = if 10 + 6 * S ≤ j ∧ j < 10 + 6 * S + k then (if j = 10 + 6 * S then a else if j = 11 + 6 * S then b else 0) else g 70 j) → J 93 [some (.inr (.inr 66)), some (.inl c), some (.inl a), some (.inl b), some (.inl (10 + 6 * S : Nat)), some (.inl k)] [] g1 := by
    intro m
    induction m with
    | zero =>
      intro k g1 hc5 hS5 hq hk hO hH
      have e : k = 6 := by omega
      subst e
      refine m_run_ok hJ (fun pc => pc == 93 || pc == 183) 80 _ _ _ _ ?_
      simp only [e_go, rX9_comes_0, rX9_comes_1, rX9_comes_4, rX9_comes_5, rX9_comes_6, rX9_comes_7, rX9_comes_8, rX9_comes_11, rX9_comes_12, rX9_comes_13, rX9_comes_14, rX9_comes_15, rX9_comes_48, rX9_comes_49, rX9_comes_50, rX9_comes_53, rX9_comes_54, rX9_comes_56, rX9_comes_59, rX9_comes_60, rX9_comes_61, rX9_comes_64, rX9_comes_65, rX9_comes_68, rX9_comes_69, rX9_comes_70, rX9_comes_71, rX9_comes_74, rX9_comes_75, rX9_comes_76, rX9_comes_78, rX9_comes_80, rX9_comes_81, rX9_comes_84, rX9_comes_85, rX9_comes_86, rX9_comes_87, rX9_comes_88, rX9_comes_90, rX9_comes_91, rX9_comes_93, rX9_comes_95, rX9_comes_97, rX9_comes_100, rX9_comes_101, rX9_comes_104, rX9_comes_106, rX9_comes_108, rX9_comes_109, rX9_comes_111, rX9_comes_114, rX9_comes_115, rX9_comes_118, rX9_comes_120, rX9_comes_121, rX9_comes_124, rX9_comes_125, rX9_comes_128, rX9_comes_129, rX9_comes_130, rX9_comes_133, rX9_comes_136, rX9_comes_137, rX9_comes_140, rX9_comes_141, rX9_comes_142, rX9_comes_143, rX9_comes_144, rX9_comes_145, rX9_comes_146, rX9_comes_147, rX9_comes_148, rX9_comes_149, rX9_comes_151, rX9_comes_154, rX9_comes_155, rX9_comes_158, rX9_comes_159, rX9_comes_160, rX9_comes_162, rX9_comes_165, rX9_comes_166, rX9_comes_167, rX9_comes_169, rX9_comes_170, rX9_comes_171, rX9_comes_174, rX9_comes_175, rX9_comes_176, rX9_comes_177, rX9_comes_178, rX9_comes_180, rX9_comes_181, rX9_comes_183, rX9_comes_185, rX9_comes_186, rX9_comes_189, rX9_comes_190, rX9_comes_193, rX9_comes_195, rX9_comes_197, rX9_comes_198, rX9_comes_200, rX9_comes_203, rX9_comes_204, rX9_comes_207, rX9_comes_209, rX9_comes_210, rX9_comes_213, rX9_comes_216, rX9_comes_217, rX9_comes_220, rX9_comes_221, rX9_comes_222, rX9_comes_223, rX9_comes_224, rX9_comes_225, rX9_comes_226, rX9_comes_227, rX9_comes_228, rX9_comes_229, rX9_comes_230, rX9_comes_233, rX9_comes_234, rX9_comes_235, rX9_comes_238, rX9_comes_239, rX9_comes_240, rX9_comes_243, rX9_comes_244, rX9_comes_247, rX9_comes_248, rX9_comes_249, rX9_comes_251, rX9_comes_254, rX9_comes_255, rX9_comes_256, rX9_comes_257, rX9_comes_260, rX9_comes_262, rX9_comes_264, rX9_comes_265, rX9_comes_266, rX9_comes_267, rX9_comes_268, rX9_comes_269, rX9_comes_270, rX9_comes_271, rX9_comes_272, rX9_comes_275, rX9_comes_276, rX9_comes_277, rX9_comes_278, rX9_comes_279, rX9_comes_280, rX9_comes_281, rX9_comes_282, rX9_comes_285, rX9_comes_286, rX9_comes_287, rX9_comes_290, rX9_comes_291, rX9_comes_292, rX9_comes_295, rX9_comes_296, rX9_comes_297, rX9_comes_300, rX9_comes_301, rX9_comes_304, rX9_comes_305, rX9_comes_306, rX9_comes_308, rX9_comes_311, rX9_comes_312, rX9_comes_313, rX9_comes_314, rX9_comes_317, rX9_comes_319, rX9_comes_320, rX9_comes_321, rX9_comes_322, rX9_comes_323, rX9_comes_324, rX9_comes_325, rX9_comes_326, rX9_comes_329, rX9_comes_330, rX9_comes_331, rX9_comes_332, rX9_comes_333, e_ald0, e_bin, e_dup2, e_get, e_goto, e_iald, e_iast, e_icmp, e_if, e_ild1, e_ild2, e_ild3, e_ild4, e_ild5, e_inc5, e_ist2, e_ist3, e_ist4, e_ist5, e_nl0, e_nl1, e_nl2, e_push, e_retz, e_sw, e_swc, e_swn, m_b0, m_b01, m_b1, m_em, Classical.not_not, Nat.reduceBEq, Nat.reduceLT, Nat.reduceLeDiff, Nat.reduceAdd, cond_true, cond_false, Bool.or_false, Bool.false_or, Bool.or_true, Bool.true_or, beq_iff_eq, true_and, and_true, true_or, or_true, forall_const, not_true_eq_false, not_false_eq_true, false_implies, implies_true, Nat.reduceEqDiff, List.length_nil, List.length_cons, ob_66, fv_66_0, fv_66_1, fv_66_2, fv_66_3, fv_66_4, fv_66_5, fs_66_5, fv_66_6, fv_66_7, fv_66_8, fs_66_8, fv_66_9, fs_66_9, fv_66_10, fv_66_11, fv_66_12, fv_66_13, fv_66_14, fv_66_15, fv_66_16, fv_66_17, fv_66_18, fv_66_19, fv_66_20, fv_66_21, fv_66_22, fv_66_23, fs_66_23, fv_66_24, fs_66_24, fv_66_25, fs_66_25, fv_66_26, fs_66_26, fv_66_27, fs_66_27, fv_66_28, fs_66_28, fv_66_29, fv_66_30, fv_66_31, fs_66_31, fv_66_32, fv_66_33, fv_66_34, fs_66_34, kd_70, ln_70, kd_73, ln_73, Int.toNat_natCast, Int.toNat_zero, Int.toNat_one]
      have e0 : g1 70 0 = (S : Int) := by rw [hH, if_neg (by omega), r0, hS]
      rw [e0, m_w2 (x := (S : Int) + 1) (by omega) (by omega)]
      refine ⟨fun _ => ⟨by omega, by omega, ?_⟩, fun z => absurd z (by omega)⟩
      refine hq _ (fun j hj => (m_up_ne hj).trans (hO j hj)) (fun j hj => ?_)
      rw [m_upv, hH]
      unfold s_sort
      rw [hS, Int.toNat_natCast]
      by_cases y0 : j = 0
      · rw [if_pos ⟨rfl, y0⟩, if_pos y0]
      · rw [if_neg (fun z => y0 z.2), if_neg y0]
        by_cases y1 : 10 + 6 * S ≤ j ∧ j < 10 + 6 * S + 6
        · rw [if_pos y1]
          by_cases y2 : j = 10 + 6 * S
          · rw [if_pos y2, if_pos y2]
          · rw [if_neg y2, if_neg y2]
            by_cases y3 : j = 11 + 6 * S
            · rw [if_pos y3, if_pos y3]
            · rw [if_neg y3, if_neg y3, if_pos (by omega)]
        · rw [if_neg y1, if_neg (by omega), if_neg (by omega), if_neg (by omega)]; exact hs j hj
    | succ m ih =>
      intro k g1 hc5 hS5 hq hk hO hH
      have nx : ∀ v : Int, (v = if k = 0 then a else if k = 1 then b else 0) → J 93 [some (.inr (.inr 66)), some (.inl c), some (.inl a), some (.inl b), some (.inl (10 + 6 * S : Nat)), some (.inl (k + 1 : Nat))] [] (m_up g1 70 (10 + 6 * S + k) v) := by
        intro v hv
        refine ih (k + 1) _ hc5 hS5 hq (by omega) (fun j hj => (m_up_ne hj).trans (hO j hj)) (fun j => ?_)
        rw [m_upv, hH]
        by_cases y : j = 10 + 6 * S + k
        · rw [if_pos ⟨rfl, y⟩, if_pos (show 10 + 6 * S ≤ j ∧ j < 10 + 6 * S + (k + 1) by omega)]
          by_cases z : k = 0
          · rw [if_pos z] at hv; rw [hv, if_pos (show j = 10 + 6 * S by omega)]
          · rw [if_neg z] at hv; rw [hv, if_neg (show ¬ j = 10 + 6 * S by omega)]
            by_cases z2 : k = 1
            · rw [if_pos z2, if_pos (show j = 11 + 6 * S by omega)]
            · rw [if_neg z2, if_neg (show ¬ j = 11 + 6 * S by omega)]
        · rw [if_neg (fun z => y z.2)]
          by_cases z : 10 + 6 * S ≤ j ∧ j < 10 + 6 * S + k
          · rw [if_pos z, if_pos (show 10 + 6 * S ≤ j ∧ j < 10 + 6 * S + (k + 1) by omega)]
          · rw [if_neg z, if_neg (show ¬ (10 + 6 * S ≤ j ∧ j < 10 + 6 * S + (k + 1)) by omega)]
      refine m_run_ok hJ (fun pc => pc == 93 || pc == 183) 80 _ _ _ _ ?_
      simp only [e_go, rX9_comes_0, rX9_comes_1, rX9_comes_4, rX9_comes_5, rX9_comes_6, rX9_comes_7, rX9_comes_8, rX9_comes_11, rX9_comes_12, rX9_comes_13, rX9_comes_14, rX9_comes_15, rX9_comes_48, rX9_comes_49, rX9_comes_50, rX9_comes_53, rX9_comes_54, rX9_comes_56, rX9_comes_59, rX9_comes_60, rX9_comes_61, rX9_comes_64, rX9_comes_65, rX9_comes_68, rX9_comes_69, rX9_comes_70, rX9_comes_71, rX9_comes_74, rX9_comes_75, rX9_comes_76, rX9_comes_78, rX9_comes_80, rX9_comes_81, rX9_comes_84, rX9_comes_85, rX9_comes_86, rX9_comes_87, rX9_comes_88, rX9_comes_90, rX9_comes_91, rX9_comes_93, rX9_comes_95, rX9_comes_97, rX9_comes_100, rX9_comes_101, rX9_comes_104, rX9_comes_106, rX9_comes_108, rX9_comes_109, rX9_comes_111, rX9_comes_114, rX9_comes_115, rX9_comes_118, rX9_comes_120, rX9_comes_121, rX9_comes_124, rX9_comes_125, rX9_comes_128, rX9_comes_129, rX9_comes_130, rX9_comes_133, rX9_comes_136, rX9_comes_137, rX9_comes_140, rX9_comes_141, rX9_comes_142, rX9_comes_143, rX9_comes_144, rX9_comes_145, rX9_comes_146, rX9_comes_147, rX9_comes_148, rX9_comes_149, rX9_comes_151, rX9_comes_154, rX9_comes_155, rX9_comes_158, rX9_comes_159, rX9_comes_160, rX9_comes_162, rX9_comes_165, rX9_comes_166, rX9_comes_167, rX9_comes_169, rX9_comes_170, rX9_comes_171, rX9_comes_174, rX9_comes_175, rX9_comes_176, rX9_comes_177, rX9_comes_178, rX9_comes_180, rX9_comes_181, rX9_comes_183, rX9_comes_185, rX9_comes_186, rX9_comes_189, rX9_comes_190, rX9_comes_193, rX9_comes_195, rX9_comes_197, rX9_comes_198, rX9_comes_200, rX9_comes_203, rX9_comes_204, rX9_comes_207, rX9_comes_209, rX9_comes_210, rX9_comes_213, rX9_comes_216, rX9_comes_217, rX9_comes_220, rX9_comes_221, rX9_comes_222, rX9_comes_223, rX9_comes_224, rX9_comes_225, rX9_comes_226, rX9_comes_227, rX9_comes_228, rX9_comes_229, rX9_comes_230, rX9_comes_233, rX9_comes_234, rX9_comes_235, rX9_comes_238, rX9_comes_239, rX9_comes_240, rX9_comes_243, rX9_comes_244, rX9_comes_247, rX9_comes_248, rX9_comes_249, rX9_comes_251, rX9_comes_254, rX9_comes_255, rX9_comes_256, rX9_comes_257, rX9_comes_260, rX9_comes_262, rX9_comes_264, rX9_comes_265, rX9_comes_266, rX9_comes_267, rX9_comes_268, rX9_comes_269, rX9_comes_270, rX9_comes_271, rX9_comes_272, rX9_comes_275, rX9_comes_276, rX9_comes_277, rX9_comes_278, rX9_comes_279, rX9_comes_280, rX9_comes_281, rX9_comes_282, rX9_comes_285, rX9_comes_286, rX9_comes_287, rX9_comes_290, rX9_comes_291, rX9_comes_292, rX9_comes_295, rX9_comes_296, rX9_comes_297, rX9_comes_300, rX9_comes_301, rX9_comes_304, rX9_comes_305, rX9_comes_306, rX9_comes_308, rX9_comes_311, rX9_comes_312, rX9_comes_313, rX9_comes_314, rX9_comes_317, rX9_comes_319, rX9_comes_320, rX9_comes_321, rX9_comes_322, rX9_comes_323, rX9_comes_324, rX9_comes_325, rX9_comes_326, rX9_comes_329, rX9_comes_330, rX9_comes_331, rX9_comes_332, rX9_comes_333, e_ald0, e_bin, e_dup2, e_get, e_goto, e_iald, e_iast, e_icmp, e_if, e_ild1, e_ild2, e_ild3, e_ild4, e_ild5, e_inc5, e_ist2, e_ist3, e_ist4, e_ist5, e_nl0, e_nl1, e_nl2, e_push, e_retz, e_sw, e_swc, e_swn, m_b0, m_b01, m_b1, m_em, Classical.not_not, Nat.reduceBEq, Nat.reduceLT, Nat.reduceLeDiff, Nat.reduceAdd, cond_true, cond_false, Bool.or_false, Bool.false_or, Bool.or_true, Bool.true_or, beq_iff_eq, true_and, and_true, true_or, or_true, forall_const, not_true_eq_false, not_false_eq_true, false_implies, implies_true, Nat.reduceEqDiff, List.length_nil, List.length_cons, ob_66, fv_66_0, fv_66_1, fv_66_2, fv_66_3, fv_66_4, fv_66_5, fs_66_5, fv_66_6, fv_66_7, fv_66_8, fs_66_8, fv_66_9, fs_66_9, fv_66_10, fv_66_11, fv_66_12, fv_66_13, fv_66_14, fv_66_15, fv_66_16, fv_66_17, fv_66_18, fv_66_19, fv_66_20, fv_66_21, fv_66_22, fv_66_23, fs_66_23, fv_66_24, fs_66_24, fv_66_25, fs_66_25, fv_66_26, fs_66_26, fv_66_27, fs_66_27, fv_66_28, fs_66_28, fv_66_29, fv_66_30, fv_66_31, fs_66_31, fv_66_32, fv_66_33, fv_66_34, fs_66_34, kd_70, ln_70, kd_73, ln_73, Int.toNat_natCast]
      rw [m_w2 (x := (k : Int) + 1) (by omega) (by omega), show (k : Int) + 1 = ((k + 1 : Nat) : Int) by omega, m_w2 (x := ((10 + 6 * S : Nat) : Int) + k) (by omega) (by omega), show (((10 + 6 * S : Nat) : Int) + k).toNat = 10 + 6 * S + k by omega]
      refine ⟨fun z => absurd z (by omega), fun _ => ⟨fun c0 => ⟨fun c1 => ⟨by omega, nx 0 ?_⟩, fun c1 => ⟨by omega, nx b ?_⟩⟩, fun c0 => ⟨by omega, nx a ?_⟩⟩⟩
      · rw [if_neg (by omega), if_neg (by omega)]
      · rw [if_neg (by omega), if_pos (by omega)]
      · rw [if_pos (by omega)]
  have ll : ∀ (m k : Nat) (b : Int) (g1 : m_G), c = 108 → L < 6 → (∀ g' : m_G, (∀ j, j ≠ 70 → g' j = g j) → (∀ j, j < 64 → g' 70 j = s_lane s a j) → q (some (.inl 1)) g') → k + m = 4 → (∀ j, j ≠ 70 → g1 j = g j) → (∀ j, g1 70 j = if 40 + 4 * L ≤ j ∧ j < 40 + 4 * L + k then (if j = 40 + 4 * L then a else -9) else g 70 j) → J 183 [some (.inr (.inr 66)), some (.inl c), some (.inl a), some (.inl b), some (.inl (40 + 4 * L : Nat)), some (.inl k)] [] g1 := by
    intro m
    induction m with
    | zero =>
      intro k b g1 hc8 hL6 hq hk hO hH
      have e : k = 4 := by omega
      subst e
      refine m_run_ok hJ (fun pc => pc == 93 || pc == 183) 80 _ _ _ _ ?_
      simp only [e_go, rX9_comes_0, rX9_comes_1, rX9_comes_4, rX9_comes_5, rX9_comes_6, rX9_comes_7, rX9_comes_8, rX9_comes_11, rX9_comes_12, rX9_comes_13, rX9_comes_14, rX9_comes_15, rX9_comes_48, rX9_comes_49, rX9_comes_50, rX9_comes_53, rX9_comes_54, rX9_comes_56, rX9_comes_59, rX9_comes_60, rX9_comes_61, rX9_comes_64, rX9_comes_65, rX9_comes_68, rX9_comes_69, rX9_comes_70, rX9_comes_71, rX9_comes_74, rX9_comes_75, rX9_comes_76, rX9_comes_78, rX9_comes_80, rX9_comes_81, rX9_comes_84, rX9_comes_85, rX9_comes_86, rX9_comes_87, rX9_comes_88, rX9_comes_90, rX9_comes_91, rX9_comes_93, rX9_comes_95, rX9_comes_97, rX9_comes_100, rX9_comes_101, rX9_comes_104, rX9_comes_106, rX9_comes_108, rX9_comes_109, rX9_comes_111, rX9_comes_114, rX9_comes_115, rX9_comes_118, rX9_comes_120, rX9_comes_121, rX9_comes_124, rX9_comes_125, rX9_comes_128, rX9_comes_129, rX9_comes_130, rX9_comes_133, rX9_comes_136, rX9_comes_137, rX9_comes_140, rX9_comes_141, rX9_comes_142, rX9_comes_143, rX9_comes_144, rX9_comes_145, rX9_comes_146, rX9_comes_147, rX9_comes_148, rX9_comes_149, rX9_comes_151, rX9_comes_154, rX9_comes_155, rX9_comes_158, rX9_comes_159, rX9_comes_160, rX9_comes_162, rX9_comes_165, rX9_comes_166, rX9_comes_167, rX9_comes_169, rX9_comes_170, rX9_comes_171, rX9_comes_174, rX9_comes_175, rX9_comes_176, rX9_comes_177, rX9_comes_178, rX9_comes_180, rX9_comes_181, rX9_comes_183, rX9_comes_185, rX9_comes_186, rX9_comes_189, rX9_comes_190, rX9_comes_193, rX9_comes_195, rX9_comes_197, rX9_comes_198, rX9_comes_200, rX9_comes_203, rX9_comes_204, rX9_comes_207, rX9_comes_209, rX9_comes_210, rX9_comes_213, rX9_comes_216, rX9_comes_217, rX9_comes_220, rX9_comes_221, rX9_comes_222, rX9_comes_223, rX9_comes_224, rX9_comes_225, rX9_comes_226, rX9_comes_227, rX9_comes_228, rX9_comes_229, rX9_comes_230, rX9_comes_233, rX9_comes_234, rX9_comes_235, rX9_comes_238, rX9_comes_239, rX9_comes_240, rX9_comes_243, rX9_comes_244, rX9_comes_247, rX9_comes_248, rX9_comes_249, rX9_comes_251, rX9_comes_254, rX9_comes_255, rX9_comes_256, rX9_comes_257, rX9_comes_260, rX9_comes_262, rX9_comes_264, rX9_comes_265, rX9_comes_266, rX9_comes_267, rX9_comes_268, rX9_comes_269, rX9_comes_270, rX9_comes_271, rX9_comes_272, rX9_comes_275, rX9_comes_276, rX9_comes_277, rX9_comes_278, rX9_comes_279, rX9_comes_280, rX9_comes_281, rX9_comes_282, rX9_comes_285, rX9_comes_286, rX9_comes_287, rX9_comes_290, rX9_comes_291, rX9_comes_292, rX9_comes_295, rX9_comes_296, rX9_comes_297, rX9_comes_300, rX9_comes_301, rX9_comes_304, rX9_comes_305, rX9_comes_306, rX9_comes_308, rX9_comes_311, rX9_comes_312, rX9_comes_313, rX9_comes_314, rX9_comes_317, rX9_comes_319, rX9_comes_320, rX9_comes_321, rX9_comes_322, rX9_comes_323, rX9_comes_324, rX9_comes_325, rX9_comes_326, rX9_comes_329, rX9_comes_330, rX9_comes_331, rX9_comes_332, rX9_comes_333, e_ald0, e_bin, e_dup2, e_get, e_goto, e_iald, e_iast, e_icmp, e_if, e_ild1, e_ild2, e_ild3, e_ild4, e_ild5, e_inc5, e_ist2, e_ist3, e_ist4, e_ist5, e_nl0, e_nl1, e_nl2, e_push, e_retz, e_sw, e_swc, e_swn, m_b0, m_b01, m_b1, m_em, Classical.not_not, Nat.reduceBEq, Nat.reduceLT, Nat.reduceLeDiff, Nat.reduceAdd, cond_true, cond_false, Bool.or_false, Bool.false_or, Bool.or_true, Bool.true_or, beq_iff_eq, true_and, and_true, true_or, or_true, forall_const, not_true_eq_false, not_false_eq_true, false_implies, implies_true, Nat.reduceEqDiff, List.length_nil, List.length_cons, ob_66, fv_66_0, fv_66_1, fv_66_2, fv_66_3, fv_66_4, fv_66_5, fs_66_5, fv_66_6, fv_66_7, fv_66_8, fs_66_8, fv_66_9, fs_66_9, fv_66_10, fv_66_11, fv_66_12, fv_66_13, fv_66_14, fv_66_15, fv_66_16, fv_66_17, fv_66_18, fv_66_19, fv_66_20, fv_66_21, fv_66_22, fv_66_23, fs_66_23, fv_66_24, fs_66_24, fv_66_25, fs_66_25, fv_66_26, fs_66_26, fv_66_27, fs_66_27, fv_66_28, fs_66_28, fv_66_29, fv_66_30, fv_66_31, fs_66_31, fv_66_32, fv_66_33, fv_66_34, fs_66_34, kd_70, ln_70, kd_73, ln_73, Int.toNat_natCast, Int.toNat_zero, Int.toNat_one]
      have e0 : g1 70 1 = (L : Int) := by rw [hH, if_neg (by omega), r1, hL]
      rw [e0, m_w2 (x := (L : Int) + 1) (by omega) (by omega)]
      refine ⟨fun _ => ⟨by omega, by omega, ?_⟩, fun z => absurd z (by omega)⟩
      refine hq _ (fun j hj => (m_up_ne hj).trans (hO j hj)) (fun j hj => ?_)
      rw [m_upv, hH]
      unfold s_lane
      rw [hL, Int.toNat_natCast]
      by_cases y0 : j = 1
      · rw [if_pos ⟨rfl, y0⟩, if_pos y0]
      · rw [if_neg (fun z => y0 z.2), if_neg y0]
        by_cases y1 : 40 + 4 * L ≤ j ∧ j < 40 + 4 * L + 4
        · rw [if_pos y1]
          by_cases y2 : j = 40 + 4 * L
          · rw [if_pos y2, if_pos y2]
          · rw [if_neg y2, if_neg y2, if_pos (by omega)]
        · rw [if_neg y1, if_neg (by omega), if_neg (by omega)]; exact hs j hj
    | succ m ih =>
      intro k b g1 hc8 hL6 hq hk hO hH
      have nx : ∀ v : Int, (v = if k = 0 then a else -9) → J 183 [some (.inr (.inr 66)), some (.inl c), some (.inl a), some (.inl b), some (.inl (40 + 4 * L : Nat)), some (.inl (k + 1 : Nat))] [] (m_up g1 70 (40 + 4 * L + k) v) := by
        intro v hv
        refine ih (k + 1) b _ hc8 hL6 hq (by omega) (fun j hj => (m_up_ne hj).trans (hO j hj)) (fun j => ?_)
        rw [m_upv, hH]
        by_cases y : j = 40 + 4 * L + k
        · rw [if_pos ⟨rfl, y⟩, if_pos (show 40 + 4 * L ≤ j ∧ j < 40 + 4 * L + (k + 1) by omega)]
          by_cases z : k = 0
          · rw [if_pos z] at hv; rw [hv, if_pos (show j = 40 + 4 * L by omega)]
          · rw [if_neg z] at hv; rw [hv, if_neg (show ¬ j = 40 + 4 * L by omega)]
        · rw [if_neg (fun z => y z.2)]
          by_cases z : 40 + 4 * L ≤ j ∧ j < 40 + 4 * L + k
          · rw [if_pos z, if_pos (show 40 + 4 * L ≤ j ∧ j < 40 + 4 * L + (k + 1) by omega)]
          · rw [if_neg z, if_neg (show ¬ (40 + 4 * L ≤ j ∧ j < 40 + 4 * L + (k + 1)) by omega)]
      refine m_run_ok hJ (fun pc => pc == 93 || pc == 183) 80 _ _ _ _ ?_
      simp only [e_go, rX9_comes_0, rX9_comes_1, rX9_comes_4, rX9_comes_5, rX9_comes_6, rX9_comes_7, rX9_comes_8, rX9_comes_11, rX9_comes_12, rX9_comes_13, rX9_comes_14, rX9_comes_15, rX9_comes_48, rX9_comes_49, rX9_comes_50, rX9_comes_53, rX9_comes_54, rX9_comes_56, rX9_comes_59, rX9_comes_60, rX9_comes_61, rX9_comes_64, rX9_comes_65, rX9_comes_68, rX9_comes_69, rX9_comes_70, rX9_comes_71, rX9_comes_74, rX9_comes_75, rX9_comes_76, rX9_comes_78, rX9_comes_80, rX9_comes_81, rX9_comes_84, rX9_comes_85, rX9_comes_86, rX9_comes_87, rX9_comes_88, rX9_comes_90, rX9_comes_91, rX9_comes_93, rX9_comes_95, rX9_comes_97, rX9_comes_100, rX9_comes_101, rX9_comes_104, rX9_comes_106, rX9_comes_108, rX9_comes_109, rX9_comes_111, rX9_comes_114, rX9_comes_115, rX9_comes_118, rX9_comes_120, rX9_comes_121, rX9_comes_124, rX9_comes_125, rX9_comes_128, rX9_comes_129, rX9_comes_130, rX9_comes_133, rX9_comes_136, rX9_comes_137, rX9_comes_140, rX9_comes_141, rX9_comes_142, rX9_comes_143, rX9_comes_144, rX9_comes_145, rX9_comes_146, rX9_comes_147, rX9_comes_148, rX9_comes_149, rX9_comes_151, rX9_comes_154, rX9_comes_155, rX9_comes_158, rX9_comes_159, rX9_comes_160, rX9_comes_162, rX9_comes_165, rX9_comes_166, rX9_comes_167, rX9_comes_169, rX9_comes_170, rX9_comes_171, rX9_comes_174, rX9_comes_175, rX9_comes_176, rX9_comes_177, rX9_comes_178, rX9_comes_180, rX9_comes_181, rX9_comes_183, rX9_comes_185, rX9_comes_186, rX9_comes_189, rX9_comes_190, rX9_comes_193, rX9_comes_195, rX9_comes_197, rX9_comes_198, rX9_comes_200, rX9_comes_203, rX9_comes_204, rX9_comes_207, rX9_comes_209, rX9_comes_210, rX9_comes_213, rX9_comes_216, rX9_comes_217, rX9_comes_220, rX9_comes_221, rX9_comes_222, rX9_comes_223, rX9_comes_224, rX9_comes_225, rX9_comes_226, rX9_comes_227, rX9_comes_228, rX9_comes_229, rX9_comes_230, rX9_comes_233, rX9_comes_234, rX9_comes_235, rX9_comes_238, rX9_comes_239, rX9_comes_240, rX9_comes_243, rX9_comes_244, rX9_comes_247, rX9_comes_248, rX9_comes_249, rX9_comes_251, rX9_comes_254, rX9_comes_255, rX9_comes_256, rX9_comes_257, rX9_comes_260, rX9_comes_262, rX9_comes_264, rX9_comes_265, rX9_comes_266, rX9_comes_267, rX9_comes_268, rX9_comes_269, rX9_comes_270, rX9_comes_271, rX9_comes_272, rX9_comes_275, rX9_comes_276, rX9_comes_277, rX9_comes_278, rX9_comes_279, rX9_comes_280, rX9_comes_281, rX9_comes_282, rX9_comes_285, rX9_comes_286, rX9_comes_287, rX9_comes_290, rX9_comes_291, rX9_comes_292, rX9_comes_295, rX9_comes_296, rX9_comes_297, rX9_comes_300, rX9_comes_301, rX9_comes_304, rX9_comes_305, rX9_comes_306, rX9_comes_308, rX9_comes_311, rX9_comes_312, rX9_comes_313, rX9_comes_314, rX9_comes_317, rX9_comes_319, rX9_comes_320, rX9_comes_321, rX9_comes_322, rX9_comes_323, rX9_comes_324, rX9_comes_325, rX9_comes_326, rX9_comes_329, rX9_comes_330, rX9_comes_331, rX9_comes_332, rX9_comes_333, e_ald0, e_bin, e_dup2, e_get, e_goto, e_iald, e_iast, e_icmp, e_if, e_ild1, e_ild2, e_ild3, e_ild4, e_ild5, e_inc5, e_ist2, e_ist3, e_ist4, e_ist5, e_nl0, e_nl1, e_nl2, e_push, e_retz, e_sw, e_swc, e_swn, m_b0, m_b01, m_b1, m_em, Classical.not_not, Nat.reduceBEq, Nat.reduceLT, Nat.reduceLeDiff, Nat.reduceAdd, cond_true, cond_false, Bool.or_false, Bool.false_or, Bool.or_true, Bool.true_or, beq_iff_eq, true_and, and_true, true_or, or_true, forall_const, not_true_eq_false, not_false_eq_true, false_implies, implies_true, Nat.reduceEqDiff, List.length_nil, List.length_cons, ob_66, fv_66_0, fv_66_1, fv_66_2, fv_66_3, fv_66_4, fv_66_5, fs_66_5, fv_66_6, fv_66_7, fv_66_8, fs_66_8, fv_66_9, fs_66_9, fv_66_10, fv_66_11, fv_66_12, fv_66_13, fv_66_14, fv_66_15, fv_66_16, fv_66_17, fv_66_18, fv_66_19, fv_66_20, fv_66_21, fv_66_22, fv_66_23, fs_66_23, fv_66_24, fs_66_24, fv_66_25, fs_66_25, fv_66_26, fs_66_26, fv_66_27, fs_66_27, fv_66_28, fs_66_28, fv_66_29, fv_66_30, fv_66_31, fs_66_31, fv_66_32, fv_66_33, fv_66_34, fs_66_34, kd_70, ln_70, kd_73, ln_73, Int.toNat_natCast]
      rw [m_w2 (x := (k : Int) + 1) (by omega) (by omega), show (k : Int) + 1 = ((k + 1 : Nat) : Int) by omega, m_w2 (x := ((40 + 4 * L : Nat) : Int) + k) (by omega) (by omega), show (((40 + 4 * L : Nat) : Int) + k).toNat = 40 + 4 * L + k by omega]
      refine ⟨fun z => absurd z (by omega), fun _ => ⟨fun c0 => ⟨by omega, nx (-9) ?_⟩, fun c0 => ⟨by omega, nx a ?_⟩⟩⟩
      · rw [if_neg (by omega)]
      · rw [if_pos (by omega)]
  refine m_run_ok hJ (fun pc => pc == 93 || pc == 183) 80 _ _ _ _ ?_
  simp only [e_go, rX9_comes_0, rX9_comes_1, rX9_comes_4, rX9_comes_5, rX9_comes_6, rX9_comes_7, rX9_comes_8, rX9_comes_11, rX9_comes_12, rX9_comes_13, rX9_comes_14, rX9_comes_15, rX9_comes_48, rX9_comes_49, rX9_comes_50, rX9_comes_53, rX9_comes_54, rX9_comes_56, rX9_comes_59, rX9_comes_60, rX9_comes_61, rX9_comes_64, rX9_comes_65, rX9_comes_68, rX9_comes_69, rX9_comes_70, rX9_comes_71, rX9_comes_74, rX9_comes_75, rX9_comes_76, rX9_comes_78, rX9_comes_80, rX9_comes_81, rX9_comes_84, rX9_comes_85, rX9_comes_86, rX9_comes_87, rX9_comes_88, rX9_comes_90, rX9_comes_91, rX9_comes_93, rX9_comes_95, rX9_comes_97, rX9_comes_100, rX9_comes_101, rX9_comes_104, rX9_comes_106, rX9_comes_108, rX9_comes_109, rX9_comes_111, rX9_comes_114, rX9_comes_115, rX9_comes_118, rX9_comes_120, rX9_comes_121, rX9_comes_124, rX9_comes_125, rX9_comes_128, rX9_comes_129, rX9_comes_130, rX9_comes_133, rX9_comes_136, rX9_comes_137, rX9_comes_140, rX9_comes_141, rX9_comes_142, rX9_comes_143, rX9_comes_144, rX9_comes_145, rX9_comes_146, rX9_comes_147, rX9_comes_148, rX9_comes_149, rX9_comes_151, rX9_comes_154, rX9_comes_155, rX9_comes_158, rX9_comes_159, rX9_comes_160, rX9_comes_162, rX9_comes_165, rX9_comes_166, rX9_comes_167, rX9_comes_169, rX9_comes_170, rX9_comes_171, rX9_comes_174, rX9_comes_175, rX9_comes_176, rX9_comes_177, rX9_comes_178, rX9_comes_180, rX9_comes_181, rX9_comes_183, rX9_comes_185, rX9_comes_186, rX9_comes_189, rX9_comes_190, rX9_comes_193, rX9_comes_195, rX9_comes_197, rX9_comes_198, rX9_comes_200, rX9_comes_203, rX9_comes_204, rX9_comes_207, rX9_comes_209, rX9_comes_210, rX9_comes_213, rX9_comes_216, rX9_comes_217, rX9_comes_220, rX9_comes_221, rX9_comes_222, rX9_comes_223, rX9_comes_224, rX9_comes_225, rX9_comes_226, rX9_comes_227, rX9_comes_228, rX9_comes_229, rX9_comes_230, rX9_comes_233, rX9_comes_234, rX9_comes_235, rX9_comes_238, rX9_comes_239, rX9_comes_240, rX9_comes_243, rX9_comes_244, rX9_comes_247, rX9_comes_248, rX9_comes_249, rX9_comes_251, rX9_comes_254, rX9_comes_255, rX9_comes_256, rX9_comes_257, rX9_comes_260, rX9_comes_262, rX9_comes_264, rX9_comes_265, rX9_comes_266, rX9_comes_267, rX9_comes_268, rX9_comes_269, rX9_comes_270, rX9_comes_271, rX9_comes_272, rX9_comes_275, rX9_comes_276, rX9_comes_277, rX9_comes_278, rX9_comes_279, rX9_comes_280, rX9_comes_281, rX9_comes_282, rX9_comes_285, rX9_comes_286, rX9_comes_287, rX9_comes_290, rX9_comes_291, rX9_comes_292, rX9_comes_295, rX9_comes_296, rX9_comes_297, rX9_comes_300, rX9_comes_301, rX9_comes_304, rX9_comes_305, rX9_comes_306, rX9_comes_308, rX9_comes_311, rX9_comes_312, rX9_comes_313, rX9_comes_314, rX9_comes_317, rX9_comes_319, rX9_comes_320, rX9_comes_321, rX9_comes_322, rX9_comes_323, rX9_comes_324, rX9_comes_325, rX9_comes_326, rX9_comes_329, rX9_comes_330, rX9_comes_331, rX9_comes_332, rX9_comes_333, e_ald0, e_bin, e_dup2, e_get, e_goto, e_iald, e_iast, e_icmp, e_if, e_ild1, e_ild2, e_ild3, e_ild4, e_ild5, e_inc5, e_ist2, e_ist3, e_ist4, e_ist5, e_nl0, e_nl1, e_nl2, e_push, e_retz, e_sw, e_swc, e_swn, m_b0, m_b01, m_b1, m_em, Classical.not_not, Nat.reduceBEq, Nat.reduceLT, Nat.reduceLeDiff, Nat.reduceAdd, cond_true, cond_false, Bool.or_false, Bool.false_or, Bool.or_true, Bool.true_or, beq_iff_eq, true_and, and_true, true_or, or_true, forall_const, not_true_eq_false, not_false_eq_true, false_implies, implies_true, Nat.reduceEqDiff, List.length_nil, List.length_cons, ob_66, fv_66_0, fv_66_1, fv_66_2, fv_66_3, fv_66_4, fv_66_5, fs_66_5, fv_66_6, fv_66_7, fv_66_8, fs_66_8, fv_66_9, fs_66_9, fv_66_10, fv_66_11, fv_66_12, fv_66_13, fv_66_14, fv_66_15, fv_66_16, fv_66_17, fv_66_18, fv_66_19, fv_66_20, fv_66_21, fv_66_22, fv_66_23, fs_66_23, fv_66_24, fs_66_24, fv_66_25, fs_66_25, fv_66_26, fs_66_26, fv_66_27, fs_66_27, fv_66_28, fs_66_28, fv_66_29, fv_66_30, fv_66_31, fs_66_31, fv_66_32, fv_66_33, fv_66_34, fs_66_34, kd_70, ln_70, kd_73, ln_73, Int.toNat_natCast, Int.toNat_zero, Int.toNat_one, show (2 : Int).toNat = 2 from rfl]
  rw [v0, r0, r1]
  refine ⟨by decide, by decide, fun c97 => ?_, fun n97 => ⟨fun c108 => ?_, fun n108 => ⟨fun c115 => ?_, fun n115 => ?_⟩⟩⟩
  · rw [v1 (by omega), v2 (Or.inl c97)]
    rw [if_neg (by omega), if_neg (by omega), if_pos c97] at h0 h1
    refine ⟨fun c1 => h0 (by rw [if_pos (by omega)]), fun c1 => ⟨by decide, fun c2 => h0 (by rw [if_pos (by omega)]), fun c2 => ⟨by decide, fun c3 => ⟨by decide, ?_⟩, fun c3 => h0 (by rw [if_pos (by omega)])⟩⟩⟩
    have eX : m_wrap (m_wrap (m_wrap (10 + m_wrap (6 * b)) + 2) + a) = ((12 + 6 * b.toNat + a.toNat : Nat) : Int) := by
      rw [m_w2 (x := 6 * b) (by omega) (by omega), m_w2 (x := 10 + 6 * b) (by omega) (by omega), m_w2 (x := 10 + 6 * b + 2) (by omega) (by omega), m_w2 (by omega) (by omega)]; omega
    rw [eX, Int.toNat_natCast]
    refine ⟨by omega, h1 _ _ (by rw [if_neg (by omega)]) (fun j hj => m_up_ne hj) (fun j hj => ?_)⟩
    rw [m_up_eq]
    by_cases e : j = 12 + 6 * b.toNat + a.toNat
    · rw [e, m_us, m_us]
    · rw [m_un e, m_un e]; exact hs j hj
  · rw [if_neg (by omega), if_pos c108] at h0 h1
    have eX : s 1 < 6 → m_wrap (40 + m_wrap (4 * s 1)) = ((40 + 4 * L : Nat) : Int) := fun z => by
      rw [m_w2 (x := 4 * s 1) (by omega) (by omega), m_w2 (by omega) (by omega)]; omega
    refine ⟨fun c1 => h0 (by rw [if_pos (by omega)]), fun c1 => ⟨by decide, fun c2 => ⟨by decide, ?_⟩, fun c2 => h0 (by rw [if_pos (by omega)])⟩⟩
    rw [eX (by omega)]
    exact ll 4 0 _ g c108 (by omega) (fun g' d1 d2 => h1 g' _ (by rw [if_neg (by omega)]) d1 d2) (by omega) (fun _ _ => rfl) (fun j => by rw [if_neg (by omega)])
  · rw [v1 (by omega)]
    rw [if_pos c115] at h0 h1
    have eX : s 0 < 5 → m_wrap (10 + m_wrap (6 * s 0)) = ((10 + 6 * S : Nat) : Int) := fun z => by
      rw [m_w2 (x := 6 * s 0) (by omega) (by omega), m_w2 (by omega) (by omega)]; omega
    refine ⟨fun c1 => h0 (by rw [if_pos (by omega)]), fun c1 => ⟨fun c2 => h0 (by rw [if_pos (by omega)]), fun c2 => ⟨fun c3 => h0 (by rw [if_pos (by omega)]), fun c3 => ⟨by decide, fun c4 => ⟨by decide, ?_⟩, fun c4 => h0 (by rw [if_pos (by omega)])⟩⟩⟩⟩
    rw [eX (by omega)]
    exact ls 6 0 g c115 (by omega) (fun g' d1 d2 => h1 g' _ (by rw [if_neg (by omega)]) d1 d2) (by omega) (fun _ _ => rfl) (fun j => by rw [if_neg (by omega)])
  · have c113 : c = 113 := by omega
    rw [v1 (by omega), v2 (Or.inr c113)]
    rw [if_neg (by omega), if_neg (by omega), if_neg (by omega)] at h0 h1
    refine ⟨fun c1 => h0 (by rw [if_pos (by omega)]), fun c1 => ⟨fun c2 => h0 (by rw [if_pos (by omega)]), fun c2 => ⟨by decide, fun c3 => h0 (by rw [if_pos (by omega)]), fun c3 => ⟨by decide, fun c4 => ⟨by decide, ?_⟩, fun c4 => h0 (by rw [if_pos (by omega)])⟩⟩⟩⟩
    have eX : m_wrap (m_wrap (40 + m_wrap (4 * b)) + a) = ((40 + 4 * b.toNat + a.toNat : Nat) : Int) := by
      rw [m_w2 (x := 4 * b) (by omega) (by omega), m_w2 (x := 40 + 4 * b) (by omega) (by omega), m_w2 (by omega) (by omega)]; omega
    rw [eX, Int.toNat_natCast]
    refine ⟨by omega, h1 _ _ (by rw [if_neg (by omega)]) (fun j hj => m_up_ne hj) (fun j hj => ?_)⟩
    rw [m_up_eq]
    by_cases e : j = 40 + 4 * b.toNat + a.toNat
    · rw [e, m_us, m_us]
    · rw [m_un e, m_un e]; exact hs j hj
