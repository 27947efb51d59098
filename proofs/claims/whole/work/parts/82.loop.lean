set_option maxHeartbeats 2000000
set_option maxRecDepth 20000
theorem c_M.far {g g' A : m_G} (h : c_M g A) (hs : ∀ j, j < 66 → g' j = g j) : c_M g' A := by
  obtain ⟨⟨a1, a2⟩, ⟨b1, b2⟩, ⟨c1, c2⟩, ⟨d1, d2⟩, e⟩ := h
  have s1 : h_same g g' 1 := fun j hj => hs _ (by omega)
  have s8 : h_same g g' 8 := fun j hj => hs _ (by omega)
  refine ⟨⟨a1.same s1, a2.same s1⟩, ⟨by rw [hs 0 (by omega)]; exact b1, fun z => ⟨(b2 z).1.same s8, (b2 z).2.same s8⟩⟩, ⟨by rw [hs 36 (by omega)]; exact c1, fun k hk => by rw [hs 37 (by omega)]; exact c2 k hk⟩, ⟨by rw [hs 0 (by omega)]; exact d1, fun k hk => by rw [hs 64 (by omega)]; exact d2 k hk⟩, fun k hk => by rw [hs 65 (by omega)]; exact e k hk⟩
theorem l_M.far {g g' A : m_G} (h : l_M g A) (hs : ∀ j, 66 ≤ j → g' j = g j) : l_M g' A := by
  obtain ⟨⟨a, b, c⟩, ⟨d, e, f, i⟩, k⟩ := h
  exact ⟨⟨by rw [hs 66 (by omega)]; exact a, by rw [hs 66 (by omega)]; exact b, by rw [hs 66 (by omega)]; exact c⟩, ⟨(hs 67 (by omega)).trans d, (hs 68 (by omega)).trans e, (hs 72 (by omega)).trans f, (hs 90 (by omega)).trans i⟩, fun z hz => by rw [hs 69 (by omega)]; exact k z hz⟩
theorem m_sw_all {k : Nat → Prop} {d : Nat} {x : Int} (hd : k d) : ∀ cs : List (Int × Nat), (∀ c ∈ cs, k c.2) → m_sw cs d x k
  | [], _ => hd
  | (_, t) :: cs, h => ⟨fun _ => h _ List.mem_cons_self, fun _ => m_sw_all hd cs (fun c hc => h c (List.mem_cons_of_mem _ hc))⟩
abbrev lw_l (i : Int) : m_L := [some (.inr (.inr 500)), some (.inr (.inr 0)), some (.inr (.inr 66)), some (.inl i)]
/-- both sides hold one state -/
def lw_I (g A : m_G) : Prop := c_M g A ∧ l_M g A ∧ i_A A
section
variable {L : Nat} {xs : Nat → Int32} {J : m_Go} {q : m_Post} {i : Int} {g A : m_G}
theorem lw_c172 (hJ : m_cl (kLaw L xs) q J) (hL : L ≤ 256) (h0 : 0 ≤ i) (hi : i + 4 ≤ L) (hg : lw_I g A) (hb : ∀ g A, lw_I g A → J 915 (lw_l i) [] g) : J 172 (lw_l i) [] g := by
  obtain ⟨hc, hl, hA⟩ := hg
  have w1 : m_wrap (i + 1) = i + 1 := m_w1 (by omega) (by omega)
  have w2 : m_wrap (i + 2) = i + 2 := m_w1 (by omega) (by omega)
  have w3 : m_wrap (i + 3) = i + 3 := m_w1 (by omega) (by omega)
  have z1 : 0 ≤ i + 1 := by omega
  have z2 : 0 ≤ i + 2 := by omega
  have z3 : 0 ≤ i + 3 := by omega
  have y1 : i + 1 < (L : Int) := by omega
  have y2 : i + 2 < (L : Int) := by omega
  have y3 : i + 3 < (L : Int) := by omega
  refine m_run_ok hJ (fun pc => pc == 915) 52 _ _ _ _ ?_
  simp only [e_go, e_ald0, e_ald1, e_ald2, e_ild3, e_inc3, e_nl2, e_slen, e_sald, e_push, e_bin, e_lbin, e_lshl, e_i2l, e_callV1, e_callV2, e_callV3, e_callV4, e_pushs, e_icmp, e_goto, eq_self, ob_0, ob_66, rLaw_172, rLaw_173, rLaw_174, rLaw_175, rLaw_176, rLaw_177, rLaw_178, rLaw_179, rLaw_180, rLaw_181, rLaw_182, rLaw_183, rLaw_184, rLaw_186, rLaw_187, rLaw_188, rLaw_189, rLaw_190, rLaw_191, rLaw_192, rLaw_193, rLaw_196, rLaw_197, rLaw_198, rLaw_201, rLaw_202, rLaw_203, rLaw_204, rLaw_205, rLaw_206, rLaw_207, rLaw_208, rLaw_209, rLaw_210, rLaw_211, rLaw_212, rLaw_213, rLaw_215, rLaw_216, rLaw_217, rLaw_218, rLaw_219, rLaw_220, rLaw_221, rLaw_222, rLaw_225, rLaw_226, rLaw_227, rLaw_230, w1, w2, w3, z1, z2, z3, y1, y2, y3, m_b0, m_b01, m_b1, m_em, Classical.not_not, Nat.reduceBEq, Nat.reduceLT, Nat.reduceLeDiff, Nat.reduceAdd, cond_true, cond_false, Bool.or_false, Bool.false_or, Bool.or_true, Bool.true_or, beq_iff_eq, true_and, and_true, true_or, or_true, forall_const, not_true_eq_false, not_false_eq_true, false_implies, implies_true, Nat.reduceEqDiff, List.length_nil, List.length_cons]
  refine q8_feed hc hA.2.2.1 (m_toInt_rng _) (fun g1 k1 => ?_)
  simp only [e_go, e_ald0, e_ald1, e_ald2, e_ild3, e_inc3, e_nl2, e_slen, e_sald, e_push, e_bin, e_lbin, e_lshl, e_i2l, e_callV1, e_callV2, e_callV3, e_callV4, e_pushs, e_icmp, e_goto, eq_self, ob_0, ob_66, rLaw_172, rLaw_173, rLaw_174, rLaw_175, rLaw_176, rLaw_177, rLaw_178, rLaw_179, rLaw_180, rLaw_181, rLaw_182, rLaw_183, rLaw_184, rLaw_186, rLaw_187, rLaw_188, rLaw_189, rLaw_190, rLaw_191, rLaw_192, rLaw_193, rLaw_196, rLaw_197, rLaw_198, rLaw_201, rLaw_202, rLaw_203, rLaw_204, rLaw_205, rLaw_206, rLaw_207, rLaw_208, rLaw_209, rLaw_210, rLaw_211, rLaw_212, rLaw_213, rLaw_215, rLaw_216, rLaw_217, rLaw_218, rLaw_219, rLaw_220, rLaw_221, rLaw_222, rLaw_225, rLaw_226, rLaw_227, rLaw_230, w1, w2, w3, z1, z2, z3, y1, y2, y3, m_b0, m_b01, m_b1, m_em, Classical.not_not, Nat.reduceBEq, Nat.reduceLT, Nat.reduceLeDiff, Nat.reduceAdd, cond_true, cond_false, Bool.or_false, Bool.false_or, Bool.or_true, Bool.true_or, beq_iff_eq, true_and, and_true, true_or, or_true, forall_const, not_true_eq_false, not_false_eq_true, false_implies, implies_true, Nat.reduceEqDiff, List.length_nil, List.length_cons]
  refine q9_feed (hl.far k1.2) hA.2.2.1 (fun g2 k2 => ?_)
  simp only [e_go, e_ald0, e_ald1, e_ald2, e_ild3, e_inc3, e_nl2, e_slen, e_sald, e_push, e_bin, e_lbin, e_lshl, e_i2l, e_callV1, e_callV2, e_callV3, e_callV4, e_pushs, e_icmp, e_goto, eq_self, ob_0, ob_66, rLaw_172, rLaw_173, rLaw_174, rLaw_175, rLaw_176, rLaw_177, rLaw_178, rLaw_179, rLaw_180, rLaw_181, rLaw_182, rLaw_183, rLaw_184, rLaw_186, rLaw_187, rLaw_188, rLaw_189, rLaw_190, rLaw_191, rLaw_192, rLaw_193, rLaw_196, rLaw_197, rLaw_198, rLaw_201, rLaw_202, rLaw_203, rLaw_204, rLaw_205, rLaw_206, rLaw_207, rLaw_208, rLaw_209, rLaw_210, rLaw_211, rLaw_212, rLaw_213, rLaw_215, rLaw_216, rLaw_217, rLaw_218, rLaw_219, rLaw_220, rLaw_221, rLaw_222, rLaw_225, rLaw_226, rLaw_227, rLaw_230, w1, w2, w3, z1, z2, z3, y1, y2, y3, m_b0, m_b01, m_b1, m_em, Classical.not_not, Nat.reduceBEq, Nat.reduceLT, Nat.reduceLeDiff, Nat.reduceAdd, cond_true, cond_false, Bool.or_false, Bool.false_or, Bool.or_true, Bool.true_or, beq_iff_eq, true_and, and_true, true_or, or_true, forall_const, not_true_eq_false, not_false_eq_true, false_implies, implies_true, Nat.reduceEqDiff, List.length_nil, List.length_cons]
  exact hb g2 _ ⟨k1.1.far k2.2, k2.1, hA.feed' _ _⟩
theorem lw_c235 (hJ : m_cl (kLaw L xs) q J) (hL : L ≤ 256) (h0 : 0 ≤ i) (hi : i + 4 ≤ L) (hg : lw_I g A) (hb : ∀ g A, lw_I g A → J 915 (lw_l i) [] g) : J 235 (lw_l i) [] g := by
  obtain ⟨hc, hl, hA⟩ := hg
  have w1 : m_wrap (i + 1) = i + 1 := m_w1 (by omega) (by omega)
  have w2 : m_wrap (i + 2) = i + 2 := m_w1 (by omega) (by omega)
  have w3 : m_wrap (i + 3) = i + 3 := m_w1 (by omega) (by omega)
  have z1 : 0 ≤ i + 1 := by omega
  have z2 : 0 ≤ i + 2 := by omega
  have z3 : 0 ≤ i + 3 := by omega
  have y1 : i + 1 < (L : Int) := by omega
  have y2 : i + 2 < (L : Int) := by omega
  have y3 : i + 3 < (L : Int) := by omega
  refine m_run_ok hJ (fun pc => pc == 915) 8 _ _ _ _ ?_
  simp only [e_go, e_ald0, e_ald1, e_ald2, e_ild3, e_inc3, e_nl2, e_slen, e_sald, e_push, e_bin, e_lbin, e_lshl, e_i2l, e_callV1, e_callV2, e_callV3, e_callV4, e_pushs, e_icmp, e_goto, eq_self, ob_0, ob_66, rLaw_235, rLaw_236, rLaw_239, rLaw_240, rLaw_243, w1, w2, w3, z1, z2, z3, y1, y2, y3, m_b0, m_b01, m_b1, m_em, Classical.not_not, Nat.reduceBEq, Nat.reduceLT, Nat.reduceLeDiff, Nat.reduceAdd, cond_true, cond_false, Bool.or_false, Bool.false_or, Bool.or_true, Bool.true_or, beq_iff_eq, true_and, and_true, true_or, or_true, forall_const, not_true_eq_false, not_false_eq_true, false_implies, implies_true, Nat.reduceEqDiff, List.length_nil, List.length_cons]
  refine q8_house hc hA.2.2.1 hA.1.1.1 (fun g1 k1 => ?_)
  simp only [e_go, e_ald0, e_ald1, e_ald2, e_ild3, e_inc3, e_nl2, e_slen, e_sald, e_push, e_bin, e_lbin, e_lshl, e_i2l, e_callV1, e_callV2, e_callV3, e_callV4, e_pushs, e_icmp, e_goto, eq_self, ob_0, ob_66, rLaw_235, rLaw_236, rLaw_239, rLaw_240, rLaw_243, w1, w2, w3, z1, z2, z3, y1, y2, y3, m_b0, m_b01, m_b1, m_em, Classical.not_not, Nat.reduceBEq, Nat.reduceLT, Nat.reduceLeDiff, Nat.reduceAdd, cond_true, cond_false, Bool.or_false, Bool.false_or, Bool.or_true, Bool.true_or, beq_iff_eq, true_and, and_true, true_or, or_true, forall_const, not_true_eq_false, not_false_eq_true, false_implies, implies_true, Nat.reduceEqDiff, List.length_nil, List.length_cons]
  refine q9_house (hl.far k1.2) hA.2.2.1 hA.1.1.1 (fun g2 k2 => ?_)
  simp only [e_go, e_ald0, e_ald1, e_ald2, e_ild3, e_inc3, e_nl2, e_slen, e_sald, e_push, e_bin, e_lbin, e_lshl, e_i2l, e_callV1, e_callV2, e_callV3, e_callV4, e_pushs, e_icmp, e_goto, eq_self, ob_0, ob_66, rLaw_235, rLaw_236, rLaw_239, rLaw_240, rLaw_243, w1, w2, w3, z1, z2, z3, y1, y2, y3, m_b0, m_b01, m_b1, m_em, Classical.not_not, Nat.reduceBEq, Nat.reduceLT, Nat.reduceLeDiff, Nat.reduceAdd, cond_true, cond_false, Bool.or_false, Bool.false_or, Bool.or_true, Bool.true_or, beq_iff_eq, true_and, and_true, true_or, or_true, forall_const, not_true_eq_false, not_false_eq_true, false_implies, implies_true, Nat.reduceEqDiff, List.length_nil, List.length_cons]
  exact hb g2 _ ⟨k1.1.far k2.2, k2.1, hA.house'⟩
theorem lw_c248 (hJ : m_cl (kLaw L xs) q J) (hL : L ≤ 256) (h0 : 0 ≤ i) (hi : i + 4 ≤ L) (hg : lw_I g A) (hb : ∀ g A, lw_I g A → J 915 (lw_l i) [] g) : J 248 (lw_l i) [] g := by
  obtain ⟨hc, hl, hA⟩ := hg
  have w1 : m_wrap (i + 1) = i + 1 := m_w1 (by omega) (by omega)
  have w2 : m_wrap (i + 2) = i + 2 := m_w1 (by omega) (by omega)
  have w3 : m_wrap (i + 3) = i + 3 := m_w1 (by omega) (by omega)
  have z1 : 0 ≤ i + 1 := by omega
  have z2 : 0 ≤ i + 2 := by omega
  have z3 : 0 ≤ i + 3 := by omega
  have y1 : i + 1 < (L : Int) := by omega
  have y2 : i + 2 < (L : Int) := by omega
  have y3 : i + 3 < (L : Int) := by omega
  refine m_run_ok hJ (fun pc => pc == 915) 28 _ _ _ _ ?_
  simp only [e_go, e_ald0, e_ald1, e_ald2, e_ild3, e_inc3, e_nl2, e_slen, e_sald, e_push, e_bin, e_lbin, e_lshl, e_i2l, e_callV1, e_callV2, e_callV3, e_callV4, e_pushs, e_icmp, e_goto, eq_self, ob_0, ob_66, rLaw_248, rLaw_249, rLaw_250, rLaw_251, rLaw_252, rLaw_253, rLaw_254, rLaw_255, rLaw_256, rLaw_257, rLaw_258, rLaw_259, rLaw_262, rLaw_263, rLaw_264, rLaw_265, rLaw_266, rLaw_267, rLaw_268, rLaw_269, rLaw_270, rLaw_271, rLaw_272, rLaw_273, rLaw_276, w1, w2, w3, z1, z2, z3, y1, y2, y3, m_b0, m_b01, m_b1, m_em, Classical.not_not, Nat.reduceBEq, Nat.reduceLT, Nat.reduceLeDiff, Nat.reduceAdd, cond_true, cond_false, Bool.or_false, Bool.false_or, Bool.or_true, Bool.true_or, beq_iff_eq, true_and, and_true, true_or, or_true, forall_const, not_true_eq_false, not_false_eq_true, false_implies, implies_true, Nat.reduceEqDiff, List.length_nil, List.length_cons]
  refine q8_sort hc hA.1.1.1 (fun g1 k1 => ?_)
  simp only [e_go, e_ald0, e_ald1, e_ald2, e_ild3, e_inc3, e_nl2, e_slen, e_sald, e_push, e_bin, e_lbin, e_lshl, e_i2l, e_callV1, e_callV2, e_callV3, e_callV4, e_pushs, e_icmp, e_goto, eq_self, ob_0, ob_66, rLaw_248, rLaw_249, rLaw_250, rLaw_251, rLaw_252, rLaw_253, rLaw_254, rLaw_255, rLaw_256, rLaw_257, rLaw_258, rLaw_259, rLaw_262, rLaw_263, rLaw_264, rLaw_265, rLaw_266, rLaw_267, rLaw_268, rLaw_269, rLaw_270, rLaw_271, rLaw_272, rLaw_273, rLaw_276, w1, w2, w3, z1, z2, z3, y1, y2, y3, m_b0, m_b01, m_b1, m_em, Classical.not_not, Nat.reduceBEq, Nat.reduceLT, Nat.reduceLeDiff, Nat.reduceAdd, cond_true, cond_false, Bool.or_false, Bool.false_or, Bool.or_true, Bool.true_or, beq_iff_eq, true_and, and_true, true_or, or_true, forall_const, not_true_eq_false, not_false_eq_true, false_implies, implies_true, Nat.reduceEqDiff, List.length_nil, List.length_cons]
  refine q9_sort (hl.far k1.2) hA.1.1.1 (fun g2 k2 => ?_)
  simp only [e_go, e_ald0, e_ald1, e_ald2, e_ild3, e_inc3, e_nl2, e_slen, e_sald, e_push, e_bin, e_lbin, e_lshl, e_i2l, e_callV1, e_callV2, e_callV3, e_callV4, e_pushs, e_icmp, e_goto, eq_self, ob_0, ob_66, rLaw_248, rLaw_249, rLaw_250, rLaw_251, rLaw_252, rLaw_253, rLaw_254, rLaw_255, rLaw_256, rLaw_257, rLaw_258, rLaw_259, rLaw_262, rLaw_263, rLaw_264, rLaw_265, rLaw_266, rLaw_267, rLaw_268, rLaw_269, rLaw_270, rLaw_271, rLaw_272, rLaw_273, rLaw_276, w1, w2, w3, z1, z2, z3, y1, y2, y3, m_b0, m_b01, m_b1, m_em, Classical.not_not, Nat.reduceBEq, Nat.reduceLT, Nat.reduceLeDiff, Nat.reduceAdd, cond_true, cond_false, Bool.or_false, Bool.false_or, Bool.or_true, Bool.true_or, beq_iff_eq, true_and, and_true, true_or, or_true, forall_const, not_true_eq_false, not_false_eq_true, false_implies, implies_true, Nat.reduceEqDiff, List.length_nil, List.length_cons]
  exact hb g2 _ ⟨k1.1.far k2.2, k2.1, hA.sort' _ _⟩
theorem lw_c281 (hJ : m_cl (kLaw L xs) q J) (hL : L ≤ 256) (h0 : 0 ≤ i) (hi : i + 4 ≤ L) (hg : lw_I g A) (hb : ∀ g A, lw_I g A → J 915 (lw_l i) [] g) : J 281 (lw_l i) [] g := by
  obtain ⟨hc, hl, hA⟩ := hg
  have w1 : m_wrap (i + 1) = i + 1 := m_w1 (by omega) (by omega)
  have w2 : m_wrap (i + 2) = i + 2 := m_w1 (by omega) (by omega)
  have w3 : m_wrap (i + 3) = i + 3 := m_w1 (by omega) (by omega)
  have z1 : 0 ≤ i + 1 := by omega
  have z2 : 0 ≤ i + 2 := by omega
  have z3 : 0 ≤ i + 3 := by omega
  have y1 : i + 1 < (L : Int) := by omega
  have y2 : i + 2 < (L : Int) := by omega
  have y3 : i + 3 < (L : Int) := by omega
  refine m_run_ok hJ (fun pc => pc == 915) 28 _ _ _ _ ?_
  simp only [e_go, e_ald0, e_ald1, e_ald2, e_ild3, e_inc3, e_nl2, e_slen, e_sald, e_push, e_bin, e_lbin, e_lshl, e_i2l, e_callV1, e_callV2, e_callV3, e_callV4, e_pushs, e_icmp, e_goto, eq_self, ob_0, ob_66, rLaw_281, rLaw_282, rLaw_283, rLaw_284, rLaw_285, rLaw_286, rLaw_287, rLaw_288, rLaw_289, rLaw_290, rLaw_291, rLaw_292, rLaw_295, rLaw_296, rLaw_297, rLaw_298, rLaw_299, rLaw_300, rLaw_301, rLaw_302, rLaw_303, rLaw_304, rLaw_305, rLaw_306, rLaw_309, w1, w2, w3, z1, z2, z3, y1, y2, y3, m_b0, m_b01, m_b1, m_em, Classical.not_not, Nat.reduceBEq, Nat.reduceLT, Nat.reduceLeDiff, Nat.reduceAdd, cond_true, cond_false, Bool.or_false, Bool.false_or, Bool.or_true, Bool.true_or, beq_iff_eq, true_and, and_true, true_or, or_true, forall_const, not_true_eq_false, not_false_eq_true, false_implies, implies_true, Nat.reduceEqDiff, List.length_nil, List.length_cons]
  refine q8_lane hc hA.1.1.1 (fun g1 k1 => ?_)
  simp only [e_go, e_ald0, e_ald1, e_ald2, e_ild3, e_inc3, e_nl2, e_slen, e_sald, e_push, e_bin, e_lbin, e_lshl, e_i2l, e_callV1, e_callV2, e_callV3, e_callV4, e_pushs, e_icmp, e_goto, eq_self, ob_0, ob_66, rLaw_281, rLaw_282, rLaw_283, rLaw_284, rLaw_285, rLaw_286, rLaw_287, rLaw_288, rLaw_289, rLaw_290, rLaw_291, rLaw_292, rLaw_295, rLaw_296, rLaw_297, rLaw_298, rLaw_299, rLaw_300, rLaw_301, rLaw_302, rLaw_303, rLaw_304, rLaw_305, rLaw_306, rLaw_309, w1, w2, w3, z1, z2, z3, y1, y2, y3, m_b0, m_b01, m_b1, m_em, Classical.not_not, Nat.reduceBEq, Nat.reduceLT, Nat.reduceLeDiff, Nat.reduceAdd, cond_true, cond_false, Bool.or_false, Bool.false_or, Bool.or_true, Bool.true_or, beq_iff_eq, true_and, and_true, true_or, or_true, forall_const, not_true_eq_false, not_false_eq_true, false_implies, implies_true, Nat.reduceEqDiff, List.length_nil, List.length_cons]
  refine q9_lane (hl.far k1.2) hA.1.1.1 (fun g2 k2 => ?_)
  simp only [e_go, e_ald0, e_ald1, e_ald2, e_ild3, e_inc3, e_nl2, e_slen, e_sald, e_push, e_bin, e_lbin, e_lshl, e_i2l, e_callV1, e_callV2, e_callV3, e_callV4, e_pushs, e_icmp, e_goto, eq_self, ob_0, ob_66, rLaw_281, rLaw_282, rLaw_283, rLaw_284, rLaw_285, rLaw_286, rLaw_287, rLaw_288, rLaw_289, rLaw_290, rLaw_291, rLaw_292, rLaw_295, rLaw_296, rLaw_297, rLaw_298, rLaw_299, rLaw_300, rLaw_301, rLaw_302, rLaw_303, rLaw_304, rLaw_305, rLaw_306, rLaw_309, w1, w2, w3, z1, z2, z3, y1, y2, y3, m_b0, m_b01, m_b1, m_em, Classical.not_not, Nat.reduceBEq, Nat.reduceLT, Nat.reduceLeDiff, Nat.reduceAdd, cond_true, cond_false, Bool.or_false, Bool.false_or, Bool.or_true, Bool.true_or, beq_iff_eq, true_and, and_true, true_or, or_true, forall_const, not_true_eq_false, not_false_eq_true, false_implies, implies_true, Nat.reduceEqDiff, List.length_nil, List.length_cons]
  exact hb g2 _ ⟨k1.1.far k2.2, k2.1, hA.lane' _ _⟩
theorem lw_c314 (hJ : m_cl (kLaw L xs) q J) (hL : L ≤ 256) (h0 : 0 ≤ i) (hi : i + 4 ≤ L) (hg : lw_I g A) (hb : ∀ g A, lw_I g A → J 915 (lw_l i) [] g) : J 314 (lw_l i) [] g := by
  obtain ⟨hc, hl, hA⟩ := hg
  have w1 : m_wrap (i + 1) = i + 1 := m_w1 (by omega) (by omega)
  have w2 : m_wrap (i + 2) = i + 2 := m_w1 (by omega) (by omega)
  have w3 : m_wrap (i + 3) = i + 3 := m_w1 (by omega) (by omega)
  have z1 : 0 ≤ i + 1 := by omega
  have z2 : 0 ≤ i + 2 := by omega
  have z3 : 0 ≤ i + 3 := by omega
  have y1 : i + 1 < (L : Int) := by omega
  have y2 : i + 2 < (L : Int) := by omega
  have y3 : i + 3 < (L : Int) := by omega
  refine m_run_ok hJ (fun pc => pc == 915) 28 _ _ _ _ ?_
  simp only [e_go, e_ald0, e_ald1, e_ald2, e_ild3, e_inc3, e_nl2, e_slen, e_sald, e_push, e_bin, e_lbin, e_lshl, e_i2l, e_callV1, e_callV2, e_callV3, e_callV4, e_pushs, e_icmp, e_goto, eq_self, ob_0, ob_66, rLaw_314, rLaw_315, rLaw_316, rLaw_317, rLaw_318, rLaw_319, rLaw_320, rLaw_321, rLaw_322, rLaw_323, rLaw_324, rLaw_325, rLaw_328, rLaw_329, rLaw_330, rLaw_331, rLaw_332, rLaw_333, rLaw_334, rLaw_335, rLaw_336, rLaw_337, rLaw_338, rLaw_339, rLaw_342, w1, w2, w3, z1, z2, z3, y1, y2, y3, m_b0, m_b01, m_b1, m_em, Classical.not_not, Nat.reduceBEq, Nat.reduceLT, Nat.reduceLeDiff, Nat.reduceAdd, cond_true, cond_false, Bool.or_false, Bool.false_or, Bool.or_true, Bool.true_or, beq_iff_eq, true_and, and_true, true_or, or_true, forall_const, not_true_eq_false, not_false_eq_true, false_implies, implies_true, Nat.reduceEqDiff, List.length_nil, List.length_cons]
  refine q8_word hc hA.1.1.1 (fun g1 k1 => ?_)
  simp only [e_go, e_ald0, e_ald1, e_ald2, e_ild3, e_inc3, e_nl2, e_slen, e_sald, e_push, e_bin, e_lbin, e_lshl, e_i2l, e_callV1, e_callV2, e_callV3, e_callV4, e_pushs, e_icmp, e_goto, eq_self, ob_0, ob_66, rLaw_314, rLaw_315, rLaw_316, rLaw_317, rLaw_318, rLaw_319, rLaw_320, rLaw_321, rLaw_322, rLaw_323, rLaw_324, rLaw_325, rLaw_328, rLaw_329, rLaw_330, rLaw_331, rLaw_332, rLaw_333, rLaw_334, rLaw_335, rLaw_336, rLaw_337, rLaw_338, rLaw_339, rLaw_342, w1, w2, w3, z1, z2, z3, y1, y2, y3, m_b0, m_b01, m_b1, m_em, Classical.not_not, Nat.reduceBEq, Nat.reduceLT, Nat.reduceLeDiff, Nat.reduceAdd, cond_true, cond_false, Bool.or_false, Bool.false_or, Bool.or_true, Bool.true_or, beq_iff_eq, true_and, and_true, true_or, or_true, forall_const, not_true_eq_false, not_false_eq_true, false_implies, implies_true, Nat.reduceEqDiff, List.length_nil, List.length_cons]
  refine q9_word (hl.far k1.2) hA.1.1.1 (fun g2 k2 => ?_)
  simp only [e_go, e_ald0, e_ald1, e_ald2, e_ild3, e_inc3, e_nl2, e_slen, e_sald, e_push, e_bin, e_lbin, e_lshl, e_i2l, e_callV1, e_callV2, e_callV3, e_callV4, e_pushs, e_icmp, e_goto, eq_self, ob_0, ob_66, rLaw_314, rLaw_315, rLaw_316, rLaw_317, rLaw_318, rLaw_319, rLaw_320, rLaw_321, rLaw_322, rLaw_323, rLaw_324, rLaw_325, rLaw_328, rLaw_329, rLaw_330, rLaw_331, rLaw_332, rLaw_333, rLaw_334, rLaw_335, rLaw_336, rLaw_337, rLaw_338, rLaw_339, rLaw_342, w1, w2, w3, z1, z2, z3, y1, y2, y3, m_b0, m_b01, m_b1, m_em, Classical.not_not, Nat.reduceBEq, Nat.reduceLT, Nat.reduceLeDiff, Nat.reduceAdd, cond_true, cond_false, Bool.or_false, Bool.false_or, Bool.or_true, Bool.true_or, beq_iff_eq, true_and, and_true, true_or, or_true, forall_const, not_true_eq_false, not_false_eq_true, false_implies, implies_true, Nat.reduceEqDiff, List.length_nil, List.length_cons]
  exact hb g2 _ ⟨k1.1.far k2.2, k2.1, hA.word' _ _⟩
theorem lw_c347 (hJ : m_cl (kLaw L xs) q J) (hL : L ≤ 256) (h0 : 0 ≤ i) (hi : i + 4 ≤ L) (hg : lw_I g A) (hb : ∀ g A, lw_I g A → J 915 (lw_l i) [] g) : J 347 (lw_l i) [] g := by
  obtain ⟨hc, hl, hA⟩ := hg
  have w1 : m_wrap (i + 1) = i + 1 := m_w1 (by omega) (by omega)
  have w2 : m_wrap (i + 2) = i + 2 := m_w1 (by omega) (by omega)
  have w3 : m_wrap (i + 3) = i + 3 := m_w1 (by omega) (by omega)
  have z1 : 0 ≤ i + 1 := by omega
  have z2 : 0 ≤ i + 2 := by omega
  have z3 : 0 ≤ i + 3 := by omega
  have y1 : i + 1 < (L : Int) := by omega
  have y2 : i + 2 < (L : Int) := by omega
  have y3 : i + 3 < (L : Int) := by omega
  refine m_run_ok hJ (fun pc => pc == 915) 28 _ _ _ _ ?_
  simp only [e_go, e_ald0, e_ald1, e_ald2, e_ild3, e_inc3, e_nl2, e_slen, e_sald, e_push, e_bin, e_lbin, e_lshl, e_i2l, e_callV1, e_callV2, e_callV3, e_callV4, e_pushs, e_icmp, e_goto, eq_self, ob_0, ob_66, rLaw_347, rLaw_348, rLaw_349, rLaw_350, rLaw_351, rLaw_352, rLaw_353, rLaw_354, rLaw_355, rLaw_356, rLaw_357, rLaw_358, rLaw_361, rLaw_362, rLaw_363, rLaw_364, rLaw_365, rLaw_366, rLaw_367, rLaw_368, rLaw_369, rLaw_370, rLaw_371, rLaw_372, rLaw_375, w1, w2, w3, z1, z2, z3, y1, y2, y3, m_b0, m_b01, m_b1, m_em, Classical.not_not, Nat.reduceBEq, Nat.reduceLT, Nat.reduceLeDiff, Nat.reduceAdd, cond_true, cond_false, Bool.or_false, Bool.false_or, Bool.or_true, Bool.true_or, beq_iff_eq, true_and, and_true, true_or, or_true, forall_const, not_true_eq_false, not_false_eq_true, false_implies, implies_true, Nat.reduceEqDiff, List.length_nil, List.length_cons]
  refine q8_set hc hA.1.1.1 (fun g1 k1 => ?_)
  simp only [e_go, e_ald0, e_ald1, e_ald2, e_ild3, e_inc3, e_nl2, e_slen, e_sald, e_push, e_bin, e_lbin, e_lshl, e_i2l, e_callV1, e_callV2, e_callV3, e_callV4, e_pushs, e_icmp, e_goto, eq_self, ob_0, ob_66, rLaw_347, rLaw_348, rLaw_349, rLaw_350, rLaw_351, rLaw_352, rLaw_353, rLaw_354, rLaw_355, rLaw_356, rLaw_357, rLaw_358, rLaw_361, rLaw_362, rLaw_363, rLaw_364, rLaw_365, rLaw_366, rLaw_367, rLaw_368, rLaw_369, rLaw_370, rLaw_371, rLaw_372, rLaw_375, w1, w2, w3, z1, z2, z3, y1, y2, y3, m_b0, m_b01, m_b1, m_em, Classical.not_not, Nat.reduceBEq, Nat.reduceLT, Nat.reduceLeDiff, Nat.reduceAdd, cond_true, cond_false, Bool.or_false, Bool.false_or, Bool.or_true, Bool.true_or, beq_iff_eq, true_and, and_true, true_or, or_true, forall_const, not_true_eq_false, not_false_eq_true, false_implies, implies_true, Nat.reduceEqDiff, List.length_nil, List.length_cons]
  refine q9_set (hl.far k1.2) hA.1.1.1 (fun g2 k2 => ?_)
  simp only [e_go, e_ald0, e_ald1, e_ald2, e_ild3, e_inc3, e_nl2, e_slen, e_sald, e_push, e_bin, e_lbin, e_lshl, e_i2l, e_callV1, e_callV2, e_callV3, e_callV4, e_pushs, e_icmp, e_goto, eq_self, ob_0, ob_66, rLaw_347, rLaw_348, rLaw_349, rLaw_350, rLaw_351, rLaw_352, rLaw_353, rLaw_354, rLaw_355, rLaw_356, rLaw_357, rLaw_358, rLaw_361, rLaw_362, rLaw_363, rLaw_364, rLaw_365, rLaw_366, rLaw_367, rLaw_368, rLaw_369, rLaw_370, rLaw_371, rLaw_372, rLaw_375, w1, w2, w3, z1, z2, z3, y1, y2, y3, m_b0, m_b01, m_b1, m_em, Classical.not_not, Nat.reduceBEq, Nat.reduceLT, Nat.reduceLeDiff, Nat.reduceAdd, cond_true, cond_false, Bool.or_false, Bool.false_or, Bool.or_true, Bool.true_or, beq_iff_eq, true_and, and_true, true_or, or_true, forall_const, not_true_eq_false, not_false_eq_true, false_implies, implies_true, Nat.reduceEqDiff, List.length_nil, List.length_cons]
  exact hb g2 _ ⟨k1.1.far k2.2, k2.1, hA.set' _ _⟩
theorem lw_c380 (hJ : m_cl (kLaw L xs) q J) (hL : L ≤ 256) (h0 : 0 ≤ i) (hi : i + 4 ≤ L) (hg : lw_I g A) (hb : ∀ g A, lw_I g A → J 915 (lw_l i) [] g) : J 380 (lw_l i) [] g := by
  obtain ⟨hc, hl, hA⟩ := hg
  have w1 : m_wrap (i + 1) = i + 1 := m_w1 (by omega) (by omega)
  have w2 : m_wrap (i + 2) = i + 2 := m_w1 (by omega) (by omega)
  have w3 : m_wrap (i + 3) = i + 3 := m_w1 (by omega) (by omega)
  have z1 : 0 ≤ i + 1 := by omega
  have z2 : 0 ≤ i + 2 := by omega
  have z3 : 0 ≤ i + 3 := by omega
  have y1 : i + 1 < (L : Int) := by omega
  have y2 : i + 2 < (L : Int) := by omega
  have y3 : i + 3 < (L : Int) := by omega
  refine m_run_ok hJ (fun pc => pc == 915) 38 _ _ _ _ ?_
  simp only [e_go, e_ald0, e_ald1, e_ald2, e_ild3, e_inc3, e_nl2, e_slen, e_sald, e_push, e_bin, e_lbin, e_lshl, e_i2l, e_callV1, e_callV2, e_callV3, e_callV4, e_pushs, e_icmp, e_goto, eq_self, ob_0, ob_66, rLaw_380, rLaw_381, rLaw_382, rLaw_383, rLaw_384, rLaw_385, rLaw_386, rLaw_387, rLaw_388, rLaw_389, rLaw_390, rLaw_391, rLaw_392, rLaw_393, rLaw_394, rLaw_395, rLaw_396, rLaw_399, rLaw_400, rLaw_401, rLaw_402, rLaw_403, rLaw_404, rLaw_405, rLaw_406, rLaw_407, rLaw_408, rLaw_409, rLaw_410, rLaw_411, rLaw_412, rLaw_413, rLaw_414, rLaw_415, rLaw_418, w1, w2, w3, z1, z2, z3, y1, y2, y3, m_b0, m_b01, m_b1, m_em, Classical.not_not, Nat.reduceBEq, Nat.reduceLT, Nat.reduceLeDiff, Nat.reduceAdd, cond_true, cond_false, Bool.or_false, Bool.false_or, Bool.or_true, Bool.true_or, beq_iff_eq, true_and, and_true, true_or, or_true, forall_const, not_true_eq_false, not_false_eq_true, false_implies, implies_true, Nat.reduceEqDiff, List.length_nil, List.length_cons]
  refine q8_come hc hA.1.1.1 (fun g1 k1 => ?_)
  simp only [e_go, e_ald0, e_ald1, e_ald2, e_ild3, e_inc3, e_nl2, e_slen, e_sald, e_push, e_bin, e_lbin, e_lshl, e_i2l, e_callV1, e_callV2, e_callV3, e_callV4, e_pushs, e_icmp, e_goto, eq_self, ob_0, ob_66, rLaw_380, rLaw_381, rLaw_382, rLaw_383, rLaw_384, rLaw_385, rLaw_386, rLaw_387, rLaw_388, rLaw_389, rLaw_390, rLaw_391, rLaw_392, rLaw_393, rLaw_394, rLaw_395, rLaw_396, rLaw_399, rLaw_400, rLaw_401, rLaw_402, rLaw_403, rLaw_404, rLaw_405, rLaw_406, rLaw_407, rLaw_408, rLaw_409, rLaw_410, rLaw_411, rLaw_412, rLaw_413, rLaw_414, rLaw_415, rLaw_418, w1, w2, w3, z1, z2, z3, y1, y2, y3, m_b0, m_b01, m_b1, m_em, Classical.not_not, Nat.reduceBEq, Nat.reduceLT, Nat.reduceLeDiff, Nat.reduceAdd, cond_true, cond_false, Bool.or_false, Bool.false_or, Bool.or_true, Bool.true_or, beq_iff_eq, true_and, and_true, true_or, or_true, forall_const, not_true_eq_false, not_false_eq_true, false_implies, implies_true, Nat.reduceEqDiff, List.length_nil, List.length_cons]
  refine q9_come (hl.far k1.2) hA.1.1.1 (fun g2 k2 => ?_)
  simp only [e_go, e_ald0, e_ald1, e_ald2, e_ild3, e_inc3, e_nl2, e_slen, e_sald, e_push, e_bin, e_lbin, e_lshl, e_i2l, e_callV1, e_callV2, e_callV3, e_callV4, e_pushs, e_icmp, e_goto, eq_self, ob_0, ob_66, rLaw_380, rLaw_381, rLaw_382, rLaw_383, rLaw_384, rLaw_385, rLaw_386, rLaw_387, rLaw_388, rLaw_389, rLaw_390, rLaw_391, rLaw_392, rLaw_393, rLaw_394, rLaw_395, rLaw_396, rLaw_399, rLaw_400, rLaw_401, rLaw_402, rLaw_403, rLaw_404, rLaw_405, rLaw_406, rLaw_407, rLaw_408, rLaw_409, rLaw_410, rLaw_411, rLaw_412, rLaw_413, rLaw_414, rLaw_415, rLaw_418, w1, w2, w3, z1, z2, z3, y1, y2, y3, m_b0, m_b01, m_b1, m_em, Classical.not_not, Nat.reduceBEq, Nat.reduceLT, Nat.reduceLeDiff, Nat.reduceAdd, cond_true, cond_false, Bool.or_false, Bool.false_or, Bool.or_true, Bool.true_or, beq_iff_eq, true_and, and_true, true_or, or_true, forall_const, not_true_eq_false, not_false_eq_true, false_implies, implies_true, Nat.reduceEqDiff, List.length_nil, List.length_cons]
  exact hb g2 _ ⟨k1.1.far k2.2, k2.1, hA.come' _ _ _⟩
theorem lw_c423 (hJ : m_cl (kLaw L xs) q J) (hL : L ≤ 256) (h0 : 0 ≤ i) (hi : i + 4 ≤ L) (hg : lw_I g A) (hb : ∀ g A, lw_I g A → J 915 (lw_l i) [] g) : J 423 (lw_l i) [] g := by
  obtain ⟨hc, hl, hA⟩ := hg
  have w1 : m_wrap (i + 1) = i + 1 := m_w1 (by omega) (by omega)
  have w2 : m_wrap (i + 2) = i + 2 := m_w1 (by omega) (by omega)
  have w3 : m_wrap (i + 3) = i + 3 := m_w1 (by omega) (by omega)
  have z1 : 0 ≤ i + 1 := by omega
  have z2 : 0 ≤ i + 2 := by omega
  have z3 : 0 ≤ i + 3 := by omega
  have y1 : i + 1 < (L : Int) := by omega
  have y2 : i + 2 < (L : Int) := by omega
  have y3 : i + 3 < (L : Int) := by omega
  refine m_run_ok hJ (fun pc => pc == 915) 8 _ _ _ _ ?_
  simp only [e_go, e_ald0, e_ald1, e_ald2, e_ild3, e_inc3, e_nl2, e_slen, e_sald, e_push, e_bin, e_lbin, e_lshl, e_i2l, e_callV1, e_callV2, e_callV3, e_callV4, e_pushs, e_icmp, e_goto, eq_self, ob_0, ob_66, rLaw_423, rLaw_424, rLaw_427, rLaw_428, rLaw_431, w1, w2, w3, z1, z2, z3, y1, y2, y3, m_b0, m_b01, m_b1, m_em, Classical.not_not, Nat.reduceBEq, Nat.reduceLT, Nat.reduceLeDiff, Nat.reduceAdd, cond_true, cond_false, Bool.or_false, Bool.false_or, Bool.or_true, Bool.true_or, beq_iff_eq, true_and, and_true, true_or, or_true, forall_const, not_true_eq_false, not_false_eq_true, false_implies, implies_true, Nat.reduceEqDiff, List.length_nil, List.length_cons]
  refine q8_cost hc hA.1.1.1 (fun g1 k1 => ?_)
  simp only [e_go, e_ald0, e_ald1, e_ald2, e_ild3, e_inc3, e_nl2, e_slen, e_sald, e_push, e_bin, e_lbin, e_lshl, e_i2l, e_callV1, e_callV2, e_callV3, e_callV4, e_pushs, e_icmp, e_goto, eq_self, ob_0, ob_66, rLaw_423, rLaw_424, rLaw_427, rLaw_428, rLaw_431, w1, w2, w3, z1, z2, z3, y1, y2, y3, m_b0, m_b01, m_b1, m_em, Classical.not_not, Nat.reduceBEq, Nat.reduceLT, Nat.reduceLeDiff, Nat.reduceAdd, cond_true, cond_false, Bool.or_false, Bool.false_or, Bool.or_true, Bool.true_or, beq_iff_eq, true_and, and_true, true_or, or_true, forall_const, not_true_eq_false, not_false_eq_true, false_implies, implies_true, Nat.reduceEqDiff, List.length_nil, List.length_cons]
  refine q9_cost (hl.far k1.2) hA.1.1.1 (fun g2 k2 => ?_)
  simp only [e_go, e_ald0, e_ald1, e_ald2, e_ild3, e_inc3, e_nl2, e_slen, e_sald, e_push, e_bin, e_lbin, e_lshl, e_i2l, e_callV1, e_callV2, e_callV3, e_callV4, e_pushs, e_icmp, e_goto, eq_self, ob_0, ob_66, rLaw_423, rLaw_424, rLaw_427, rLaw_428, rLaw_431, w1, w2, w3, z1, z2, z3, y1, y2, y3, m_b0, m_b01, m_b1, m_em, Classical.not_not, Nat.reduceBEq, Nat.reduceLT, Nat.reduceLeDiff, Nat.reduceAdd, cond_true, cond_false, Bool.or_false, Bool.false_or, Bool.or_true, Bool.true_or, beq_iff_eq, true_and, and_true, true_or, or_true, forall_const, not_true_eq_false, not_false_eq_true, false_implies, implies_true, Nat.reduceEqDiff, List.length_nil, List.length_cons]
  exact hb g2 _ ⟨k1.1.far k2.2, k2.1, hA⟩
theorem lw_c436 (hJ : m_cl (kLaw L xs) q J) (hL : L ≤ 256) (h0 : 0 ≤ i) (hi : i + 4 ≤ L) (hg : lw_I g A) (hb : ∀ g A, lw_I g A → J 915 (lw_l i) [] g) : J 436 (lw_l i) [] g := by
  obtain ⟨hc, hl, hA⟩ := hg
  have w1 : m_wrap (i + 1) = i + 1 := m_w1 (by omega) (by omega)
  have w2 : m_wrap (i + 2) = i + 2 := m_w1 (by omega) (by omega)
  have w3 : m_wrap (i + 3) = i + 3 := m_w1 (by omega) (by omega)
  have z1 : 0 ≤ i + 1 := by omega
  have z2 : 0 ≤ i + 2 := by omega
  have z3 : 0 ≤ i + 3 := by omega
  have y1 : i + 1 < (L : Int) := by omega
  have y2 : i + 2 < (L : Int) := by omega
  have y3 : i + 3 < (L : Int) := by omega
  refine m_run_ok hJ (fun pc => pc == 915) 18 _ _ _ _ ?_
  simp only [e_go, e_ald0, e_ald1, e_ald2, e_ild3, e_inc3, e_nl2, e_slen, e_sald, e_push, e_bin, e_lbin, e_lshl, e_i2l, e_callV1, e_callV2, e_callV3, e_callV4, e_pushs, e_icmp, e_goto, eq_self, ob_0, ob_66, rLaw_436, rLaw_437, rLaw_438, rLaw_439, rLaw_440, rLaw_441, rLaw_442, rLaw_445, rLaw_446, rLaw_447, rLaw_448, rLaw_449, rLaw_450, rLaw_451, rLaw_454, w1, w2, w3, z1, z2, z3, y1, y2, y3, m_b0, m_b01, m_b1, m_em, Classical.not_not, Nat.reduceBEq, Nat.reduceLT, Nat.reduceLeDiff, Nat.reduceAdd, cond_true, cond_false, Bool.or_false, Bool.false_or, Bool.or_true, Bool.true_or, beq_iff_eq, true_and, and_true, true_or, or_true, forall_const, not_true_eq_false, not_false_eq_true, false_implies, implies_true, Nat.reduceEqDiff, List.length_nil, List.length_cons]
  refine q8_waited hc hA.1.1.1 (fun g1 k1 => ?_)
  simp only [e_go, e_ald0, e_ald1, e_ald2, e_ild3, e_inc3, e_nl2, e_slen, e_sald, e_push, e_bin, e_lbin, e_lshl, e_i2l, e_callV1, e_callV2, e_callV3, e_callV4, e_pushs, e_icmp, e_goto, eq_self, ob_0, ob_66, rLaw_436, rLaw_437, rLaw_438, rLaw_439, rLaw_440, rLaw_441, rLaw_442, rLaw_445, rLaw_446, rLaw_447, rLaw_448, rLaw_449, rLaw_450, rLaw_451, rLaw_454, w1, w2, w3, z1, z2, z3, y1, y2, y3, m_b0, m_b01, m_b1, m_em, Classical.not_not, Nat.reduceBEq, Nat.reduceLT, Nat.reduceLeDiff, Nat.reduceAdd, cond_true, cond_false, Bool.or_false, Bool.false_or, Bool.or_true, Bool.true_or, beq_iff_eq, true_and, and_true, true_or, or_true, forall_const, not_true_eq_false, not_false_eq_true, false_implies, implies_true, Nat.reduceEqDiff, List.length_nil, List.length_cons]
  refine q9_waited (hl.far k1.2) hA.1.1.1 (fun g2 k2 => ?_)
  simp only [e_go, e_ald0, e_ald1, e_ald2, e_ild3, e_inc3, e_nl2, e_slen, e_sald, e_push, e_bin, e_lbin, e_lshl, e_i2l, e_callV1, e_callV2, e_callV3, e_callV4, e_pushs, e_icmp, e_goto, eq_self, ob_0, ob_66, rLaw_436, rLaw_437, rLaw_438, rLaw_439, rLaw_440, rLaw_441, rLaw_442, rLaw_445, rLaw_446, rLaw_447, rLaw_448, rLaw_449, rLaw_450, rLaw_451, rLaw_454, w1, w2, w3, z1, z2, z3, y1, y2, y3, m_b0, m_b01, m_b1, m_em, Classical.not_not, Nat.reduceBEq, Nat.reduceLT, Nat.reduceLeDiff, Nat.reduceAdd, cond_true, cond_false, Bool.or_false, Bool.false_or, Bool.or_true, Bool.true_or, beq_iff_eq, true_and, and_true, true_or, or_true, forall_const, not_true_eq_false, not_false_eq_true, false_implies, implies_true, Nat.reduceEqDiff, List.length_nil, List.length_cons]
  exact hb g2 _ ⟨k1.1.far k2.2, k2.1, hA.by' _ _⟩
theorem lw_c459 (hJ : m_cl (kLaw L xs) q J) (hL : L ≤ 256) (h0 : 0 ≤ i) (hi : i + 4 ≤ L) (hg : lw_I g A) (hb : ∀ g A, lw_I g A → J 915 (lw_l i) [] g) : J 459 (lw_l i) [] g := by
  obtain ⟨hc, hl, hA⟩ := hg
  have w1 : m_wrap (i + 1) = i + 1 := m_w1 (by omega) (by omega)
  have w2 : m_wrap (i + 2) = i + 2 := m_w1 (by omega) (by omega)
  have w3 : m_wrap (i + 3) = i + 3 := m_w1 (by omega) (by omega)
  have z1 : 0 ≤ i + 1 := by omega
  have z2 : 0 ≤ i + 2 := by omega
  have z3 : 0 ≤ i + 3 := by omega
  have y1 : i + 1 < (L : Int) := by omega
  have y2 : i + 2 < (L : Int) := by omega
  have y3 : i + 3 < (L : Int) := by omega
  refine m_run_ok hJ (fun pc => pc == 915) 18 _ _ _ _ ?_
  simp only [e_go, e_ald0, e_ald1, e_ald2, e_ild3, e_inc3, e_nl2, e_slen, e_sald, e_push, e_bin, e_lbin, e_lshl, e_i2l, e_callV1, e_callV2, e_callV3, e_callV4, e_pushs, e_icmp, e_goto, eq_self, ob_0, ob_66, rLaw_459, rLaw_460, rLaw_461, rLaw_462, rLaw_463, rLaw_464, rLaw_465, rLaw_468, rLaw_469, rLaw_470, rLaw_471, rLaw_472, rLaw_473, rLaw_474, rLaw_477, w1, w2, w3, z1, z2, z3, y1, y2, y3, m_b0, m_b01, m_b1, m_em, Classical.not_not, Nat.reduceBEq, Nat.reduceLT, Nat.reduceLeDiff, Nat.reduceAdd, cond_true, cond_false, Bool.or_false, Bool.false_or, Bool.or_true, Bool.true_or, beq_iff_eq, true_and, and_true, true_or, or_true, forall_const, not_true_eq_false, not_false_eq_true, false_implies, implies_true, Nat.reduceEqDiff, List.length_nil, List.length_cons]
  refine q8_served hc hA.1.1.1 (fun g1 k1 => ?_)
  simp only [e_go, e_ald0, e_ald1, e_ald2, e_ild3, e_inc3, e_nl2, e_slen, e_sald, e_push, e_bin, e_lbin, e_lshl, e_i2l, e_callV1, e_callV2, e_callV3, e_callV4, e_pushs, e_icmp, e_goto, eq_self, ob_0, ob_66, rLaw_459, rLaw_460, rLaw_461, rLaw_462, rLaw_463, rLaw_464, rLaw_465, rLaw_468, rLaw_469, rLaw_470, rLaw_471, rLaw_472, rLaw_473, rLaw_474, rLaw_477, w1, w2, w3, z1, z2, z3, y1, y2, y3, m_b0, m_b01, m_b1, m_em, Classical.not_not, Nat.reduceBEq, Nat.reduceLT, Nat.reduceLeDiff, Nat.reduceAdd, cond_true, cond_false, Bool.or_false, Bool.false_or, Bool.or_true, Bool.true_or, beq_iff_eq, true_and, and_true, true_or, or_true, forall_const, not_true_eq_false, not_false_eq_true, false_implies, implies_true, Nat.reduceEqDiff, List.length_nil, List.length_cons]
  refine q9_served (hl.far k1.2) hA.1.1.1 (fun g2 k2 => ?_)
  simp only [e_go, e_ald0, e_ald1, e_ald2, e_ild3, e_inc3, e_nl2, e_slen, e_sald, e_push, e_bin, e_lbin, e_lshl, e_i2l, e_callV1, e_callV2, e_callV3, e_callV4, e_pushs, e_icmp, e_goto, eq_self, ob_0, ob_66, rLaw_459, rLaw_460, rLaw_461, rLaw_462, rLaw_463, rLaw_464, rLaw_465, rLaw_468, rLaw_469, rLaw_470, rLaw_471, rLaw_472, rLaw_473, rLaw_474, rLaw_477, w1, w2, w3, z1, z2, z3, y1, y2, y3, m_b0, m_b01, m_b1, m_em, Classical.not_not, Nat.reduceBEq, Nat.reduceLT, Nat.reduceLeDiff, Nat.reduceAdd, cond_true, cond_false, Bool.or_false, Bool.false_or, Bool.or_true, Bool.true_or, beq_iff_eq, true_and, and_true, true_or, or_true, forall_const, not_true_eq_false, not_false_eq_true, false_implies, implies_true, Nat.reduceEqDiff, List.length_nil, List.length_cons]
  exact hb g2 _ ⟨k1.1.far k2.2, k2.1, hA.by' _ _⟩
theorem lw_c482 (hJ : m_cl (kLaw L xs) q J) (hL : L ≤ 256) (h0 : 0 ≤ i) (hi : i + 4 ≤ L) (hg : lw_I g A) (hb : ∀ g A, lw_I g A → J 915 (lw_l i) [] g) : J 482 (lw_l i) [] g := by
  obtain ⟨hc, hl, hA⟩ := hg
  have w1 : m_wrap (i + 1) = i + 1 := m_w1 (by omega) (by omega)
  have w2 : m_wrap (i + 2) = i + 2 := m_w1 (by omega) (by omega)
  have w3 : m_wrap (i + 3) = i + 3 := m_w1 (by omega) (by omega)
  have z1 : 0 ≤ i + 1 := by omega
  have z2 : 0 ≤ i + 2 := by omega
  have z3 : 0 ≤ i + 3 := by omega
  have y1 : i + 1 < (L : Int) := by omega
  have y2 : i + 2 < (L : Int) := by omega
  have y3 : i + 3 < (L : Int) := by omega
  refine m_run_ok hJ (fun pc => pc == 915) 18 _ _ _ _ ?_
  simp only [e_go, e_ald0, e_ald1, e_ald2, e_ild3, e_inc3, e_nl2, e_slen, e_sald, e_push, e_bin, e_lbin, e_lshl, e_i2l, e_callV1, e_callV2, e_callV3, e_callV4, e_pushs, e_icmp, e_goto, eq_self, ob_0, ob_66, rLaw_482, rLaw_483, rLaw_484, rLaw_485, rLaw_486, rLaw_487, rLaw_488, rLaw_491, rLaw_492, rLaw_493, rLaw_494, rLaw_495, rLaw_496, rLaw_497, rLaw_500, w1, w2, w3, z1, z2, z3, y1, y2, y3, m_b0, m_b01, m_b1, m_em, Classical.not_not, Nat.reduceBEq, Nat.reduceLT, Nat.reduceLeDiff, Nat.reduceAdd, cond_true, cond_false, Bool.or_false, Bool.false_or, Bool.or_true, Bool.true_or, beq_iff_eq, true_and, and_true, true_or, or_true, forall_const, not_true_eq_false, not_false_eq_true, false_implies, implies_true, Nat.reduceEqDiff, List.length_nil, List.length_cons]
  refine q8_lost hc hA.1.1.1 (fun g1 k1 => ?_)
  simp only [e_go, e_ald0, e_ald1, e_ald2, e_ild3, e_inc3, e_nl2, e_slen, e_sald, e_push, e_bin, e_lbin, e_lshl, e_i2l, e_callV1, e_callV2, e_callV3, e_callV4, e_pushs, e_icmp, e_goto, eq_self, ob_0, ob_66, rLaw_482, rLaw_483, rLaw_484, rLaw_485, rLaw_486, rLaw_487, rLaw_488, rLaw_491, rLaw_492, rLaw_493, rLaw_494, rLaw_495, rLaw_496, rLaw_497, rLaw_500, w1, w2, w3, z1, z2, z3, y1, y2, y3, m_b0, m_b01, m_b1, m_em, Classical.not_not, Nat.reduceBEq, Nat.reduceLT, Nat.reduceLeDiff, Nat.reduceAdd, cond_true, cond_false, Bool.or_false, Bool.false_or, Bool.or_true, Bool.true_or, beq_iff_eq, true_and, and_true, true_or, or_true, forall_const, not_true_eq_false, not_false_eq_true, false_implies, implies_true, Nat.reduceEqDiff, List.length_nil, List.length_cons]
  refine q9_lost (hl.far k1.2) hA.1.1.1 (fun g2 k2 => ?_)
  simp only [e_go, e_ald0, e_ald1, e_ald2, e_ild3, e_inc3, e_nl2, e_slen, e_sald, e_push, e_bin, e_lbin, e_lshl, e_i2l, e_callV1, e_callV2, e_callV3, e_callV4, e_pushs, e_icmp, e_goto, eq_self, ob_0, ob_66, rLaw_482, rLaw_483, rLaw_484, rLaw_485, rLaw_486, rLaw_487, rLaw_488, rLaw_491, rLaw_492, rLaw_493, rLaw_494, rLaw_495, rLaw_496, rLaw_497, rLaw_500, w1, w2, w3, z1, z2, z3, y1, y2, y3, m_b0, m_b01, m_b1, m_em, Classical.not_not, Nat.reduceBEq, Nat.reduceLT, Nat.reduceLeDiff, Nat.reduceAdd, cond_true, cond_false, Bool.or_false, Bool.false_or, Bool.or_true, Bool.true_or, beq_iff_eq, true_and, and_true, true_or, or_true, forall_const, not_true_eq_false, not_false_eq_true, false_implies, implies_true, Nat.reduceEqDiff, List.length_nil, List.length_cons]
  exact hb g2 _ ⟨k1.1.far k2.2, k2.1, hA.by' _ _⟩
theorem lw_c505 (hJ : m_cl (kLaw L xs) q J) (hL : L ≤ 256) (h0 : 0 ≤ i) (hi : i + 4 ≤ L) (hg : lw_I g A) (hb : ∀ g A, lw_I g A → J 915 (lw_l i) [] g) : J 505 (lw_l i) [] g := by
  obtain ⟨hc, hl, hA⟩ := hg
  have w1 : m_wrap (i + 1) = i + 1 := m_w1 (by omega) (by omega)
  have w2 : m_wrap (i + 2) = i + 2 := m_w1 (by omega) (by omega)
  have w3 : m_wrap (i + 3) = i + 3 := m_w1 (by omega) (by omega)
  have z1 : 0 ≤ i + 1 := by omega
  have z2 : 0 ≤ i + 2 := by omega
  have z3 : 0 ≤ i + 3 := by omega
  have y1 : i + 1 < (L : Int) := by omega
  have y2 : i + 2 < (L : Int) := by omega
  have y3 : i + 3 < (L : Int) := by omega
  refine m_run_ok hJ (fun pc => pc == 915) 8 _ _ _ _ ?_
  simp only [e_go, e_ald0, e_ald1, e_ald2, e_ild3, e_inc3, e_nl2, e_slen, e_sald, e_push, e_bin, e_lbin, e_lshl, e_i2l, e_callV1, e_callV2, e_callV3, e_callV4, e_pushs, e_icmp, e_goto, eq_self, ob_0, ob_66, rLaw_505, rLaw_506, rLaw_509, rLaw_510, rLaw_513, w1, w2, w3, z1, z2, z3, y1, y2, y3, m_b0, m_b01, m_b1, m_em, Classical.not_not, Nat.reduceBEq, Nat.reduceLT, Nat.reduceLeDiff, Nat.reduceAdd, cond_true, cond_false, Bool.or_false, Bool.false_or, Bool.or_true, Bool.true_or, beq_iff_eq, true_and, and_true, true_or, or_true, forall_const, not_true_eq_false, not_false_eq_true, false_implies, implies_true, Nat.reduceEqDiff, List.length_nil, List.length_cons]
  refine q8_strayed hc hA.1.1.1 (fun g1 k1 => ?_)
  simp only [e_go, e_ald0, e_ald1, e_ald2, e_ild3, e_inc3, e_nl2, e_slen, e_sald, e_push, e_bin, e_lbin, e_lshl, e_i2l, e_callV1, e_callV2, e_callV3, e_callV4, e_pushs, e_icmp, e_goto, eq_self, ob_0, ob_66, rLaw_505, rLaw_506, rLaw_509, rLaw_510, rLaw_513, w1, w2, w3, z1, z2, z3, y1, y2, y3, m_b0, m_b01, m_b1, m_em, Classical.not_not, Nat.reduceBEq, Nat.reduceLT, Nat.reduceLeDiff, Nat.reduceAdd, cond_true, cond_false, Bool.or_false, Bool.false_or, Bool.or_true, Bool.true_or, beq_iff_eq, true_and, and_true, true_or, or_true, forall_const, not_true_eq_false, not_false_eq_true, false_implies, implies_true, Nat.reduceEqDiff, List.length_nil, List.length_cons]
  refine q9_strayed (hl.far k1.2) hA.1.1.1 (fun g2 k2 => ?_)
  simp only [e_go, e_ald0, e_ald1, e_ald2, e_ild3, e_inc3, e_nl2, e_slen, e_sald, e_push, e_bin, e_lbin, e_lshl, e_i2l, e_callV1, e_callV2, e_callV3, e_callV4, e_pushs, e_icmp, e_goto, eq_self, ob_0, ob_66, rLaw_505, rLaw_506, rLaw_509, rLaw_510, rLaw_513, w1, w2, w3, z1, z2, z3, y1, y2, y3, m_b0, m_b01, m_b1, m_em, Classical.not_not, Nat.reduceBEq, Nat.reduceLT, Nat.reduceLeDiff, Nat.reduceAdd, cond_true, cond_false, Bool.or_false, Bool.false_or, Bool.or_true, Bool.true_or, beq_iff_eq, true_and, and_true, true_or, or_true, forall_const, not_true_eq_false, not_false_eq_true, false_implies, implies_true, Nat.reduceEqDiff, List.length_nil, List.length_cons]
  exact hb g2 _ ⟨k1.1.far k2.2, k2.1, hA⟩
theorem lw_c518 (hJ : m_cl (kLaw L xs) q J) (hL : L ≤ 256) (h0 : 0 ≤ i) (hi : i + 4 ≤ L) (hg : lw_I g A) (hb : ∀ g A, lw_I g A → J 915 (lw_l i) [] g) : J 518 (lw_l i) [] g := by
  obtain ⟨hc, hl, hA⟩ := hg
  have w1 : m_wrap (i + 1) = i + 1 := m_w1 (by omega) (by omega)
  have w2 : m_wrap (i + 2) = i + 2 := m_w1 (by omega) (by omega)
  have w3 : m_wrap (i + 3) = i + 3 := m_w1 (by omega) (by omega)
  have z1 : 0 ≤ i + 1 := by omega
  have z2 : 0 ≤ i + 2 := by omega
  have z3 : 0 ≤ i + 3 := by omega
  have y1 : i + 1 < (L : Int) := by omega
  have y2 : i + 2 < (L : Int) := by omega
  have y3 : i + 3 < (L : Int) := by omega
  refine m_run_ok hJ (fun pc => pc == 915) 18 _ _ _ _ ?_
  simp only [e_go, e_ald0, e_ald1, e_ald2, e_ild3, e_inc3, e_nl2, e_slen, e_sald, e_push, e_bin, e_lbin, e_lshl, e_i2l, e_callV1, e_callV2, e_callV3, e_callV4, e_pushs, e_icmp, e_goto, eq_self, ob_0, ob_66, rLaw_518, rLaw_519, rLaw_520, rLaw_521, rLaw_522, rLaw_523, rLaw_524, rLaw_527, rLaw_528, rLaw_529, rLaw_530, rLaw_531, rLaw_532, rLaw_533, rLaw_536, w1, w2, w3, z1, z2, z3, y1, y2, y3, m_b0, m_b01, m_b1, m_em, Classical.not_not, Nat.reduceBEq, Nat.reduceLT, Nat.reduceLeDiff, Nat.reduceAdd, cond_true, cond_false, Bool.or_false, Bool.false_or, Bool.or_true, Bool.true_or, beq_iff_eq, true_and, and_true, true_or, or_true, forall_const, not_true_eq_false, not_false_eq_true, false_implies, implies_true, Nat.reduceEqDiff, List.length_nil, List.length_cons]
  refine q8_longest hc hA.1.1.1 (fun g1 k1 => ?_)
  simp only [e_go, e_ald0, e_ald1, e_ald2, e_ild3, e_inc3, e_nl2, e_slen, e_sald, e_push, e_bin, e_lbin, e_lshl, e_i2l, e_callV1, e_callV2, e_callV3, e_callV4, e_pushs, e_icmp, e_goto, eq_self, ob_0, ob_66, rLaw_518, rLaw_519, rLaw_520, rLaw_521, rLaw_522, rLaw_523, rLaw_524, rLaw_527, rLaw_528, rLaw_529, rLaw_530, rLaw_531, rLaw_532, rLaw_533, rLaw_536, w1, w2, w3, z1, z2, z3, y1, y2, y3, m_b0, m_b01, m_b1, m_em, Classical.not_not, Nat.reduceBEq, Nat.reduceLT, Nat.reduceLeDiff, Nat.reduceAdd, cond_true, cond_false, Bool.or_false, Bool.false_or, Bool.or_true, Bool.true_or, beq_iff_eq, true_and, and_true, true_or, or_true, forall_const, not_true_eq_false, not_false_eq_true, false_implies, implies_true, Nat.reduceEqDiff, List.length_nil, List.length_cons]
  refine q9_longest (hl.far k1.2) hA.1.1.1 (fun g2 k2 => ?_)
  simp only [e_go, e_ald0, e_ald1, e_ald2, e_ild3, e_inc3, e_nl2, e_slen, e_sald, e_push, e_bin, e_lbin, e_lshl, e_i2l, e_callV1, e_callV2, e_callV3, e_callV4, e_pushs, e_icmp, e_goto, eq_self, ob_0, ob_66, rLaw_518, rLaw_519, rLaw_520, rLaw_521, rLaw_522, rLaw_523, rLaw_524, rLaw_527, rLaw_528, rLaw_529, rLaw_530, rLaw_531, rLaw_532, rLaw_533, rLaw_536, w1, w2, w3, z1, z2, z3, y1, y2, y3, m_b0, m_b01, m_b1, m_em, Classical.not_not, Nat.reduceBEq, Nat.reduceLT, Nat.reduceLeDiff, Nat.reduceAdd, cond_true, cond_false, Bool.or_false, Bool.false_or, Bool.or_true, Bool.true_or, beq_iff_eq, true_and, and_true, true_or, or_true, forall_const, not_true_eq_false, not_false_eq_true, false_implies, implies_true, Nat.reduceEqDiff, List.length_nil, List.length_cons]
  exact hb g2 _ ⟨k1.1.far k2.2, k2.1, hA.ln _ _⟩
theorem lw_c541 (hJ : m_cl (kLaw L xs) q J) (hL : L ≤ 256) (h0 : 0 ≤ i) (hi : i + 4 ≤ L) (hg : lw_I g A) (hb : ∀ g A, lw_I g A → J 915 (lw_l i) [] g) : J 541 (lw_l i) [] g := by
  obtain ⟨hc, hl, hA⟩ := hg
  have w1 : m_wrap (i + 1) = i + 1 := m_w1 (by omega) (by omega)
  have w2 : m_wrap (i + 2) = i + 2 := m_w1 (by omega) (by omega)
  have w3 : m_wrap (i + 3) = i + 3 := m_w1 (by omega) (by omega)
  have z1 : 0 ≤ i + 1 := by omega
  have z2 : 0 ≤ i + 2 := by omega
  have z3 : 0 ≤ i + 3 := by omega
  have y1 : i + 1 < (L : Int) := by omega
  have y2 : i + 2 < (L : Int) := by omega
  have y3 : i + 3 < (L : Int) := by omega
  refine m_run_ok hJ (fun pc => pc == 915) 18 _ _ _ _ ?_
  simp only [e_go, e_ald0, e_ald1, e_ald2, e_ild3, e_inc3, e_nl2, e_slen, e_sald, e_push, e_bin, e_lbin, e_lshl, e_i2l, e_callV1, e_callV2, e_callV3, e_callV4, e_pushs, e_icmp, e_goto, eq_self, ob_0, ob_66, rLaw_541, rLaw_542, rLaw_543, rLaw_544, rLaw_545, rLaw_546, rLaw_547, rLaw_550, rLaw_551, rLaw_552, rLaw_553, rLaw_554, rLaw_555, rLaw_556, rLaw_559, w1, w2, w3, z1, z2, z3, y1, y2, y3, m_b0, m_b01, m_b1, m_em, Classical.not_not, Nat.reduceBEq, Nat.reduceLT, Nat.reduceLeDiff, Nat.reduceAdd, cond_true, cond_false, Bool.or_false, Bool.false_or, Bool.or_true, Bool.true_or, beq_iff_eq, true_and, and_true, true_or, or_true, forall_const, not_true_eq_false, not_false_eq_true, false_implies, implies_true, Nat.reduceEqDiff, List.length_nil, List.length_cons]
  refine q8_passed hc hA.1.1.1 (fun g1 k1 => ?_)
  simp only [e_go, e_ald0, e_ald1, e_ald2, e_ild3, e_inc3, e_nl2, e_slen, e_sald, e_push, e_bin, e_lbin, e_lshl, e_i2l, e_callV1, e_callV2, e_callV3, e_callV4, e_pushs, e_icmp, e_goto, eq_self, ob_0, ob_66, rLaw_541, rLaw_542, rLaw_543, rLaw_544, rLaw_545, rLaw_546, rLaw_547, rLaw_550, rLaw_551, rLaw_552, rLaw_553, rLaw_554, rLaw_555, rLaw_556, rLaw_559, w1, w2, w3, z1, z2, z3, y1, y2, y3, m_b0, m_b01, m_b1, m_em, Classical.not_not, Nat.reduceBEq, Nat.reduceLT, Nat.reduceLeDiff, Nat.reduceAdd, cond_true, cond_false, Bool.or_false, Bool.false_or, Bool.or_true, Bool.true_or, beq_iff_eq, true_and, and_true, true_or, or_true, forall_const, not_true_eq_false, not_false_eq_true, false_implies, implies_true, Nat.reduceEqDiff, List.length_nil, List.length_cons]
  refine q9_passed (hl.far k1.2) hA.1.1.1 (fun g2 k2 => ?_)
  simp only [e_go, e_ald0, e_ald1, e_ald2, e_ild3, e_inc3, e_nl2, e_slen, e_sald, e_push, e_bin, e_lbin, e_lshl, e_i2l, e_callV1, e_callV2, e_callV3, e_callV4, e_pushs, e_icmp, e_goto, eq_self, ob_0, ob_66, rLaw_541, rLaw_542, rLaw_543, rLaw_544, rLaw_545, rLaw_546, rLaw_547, rLaw_550, rLaw_551, rLaw_552, rLaw_553, rLaw_554, rLaw_555, rLaw_556, rLaw_559, w1, w2, w3, z1, z2, z3, y1, y2, y3, m_b0, m_b01, m_b1, m_em, Classical.not_not, Nat.reduceBEq, Nat.reduceLT, Nat.reduceLeDiff, Nat.reduceAdd, cond_true, cond_false, Bool.or_false, Bool.false_or, Bool.or_true, Bool.true_or, beq_iff_eq, true_and, and_true, true_or, or_true, forall_const, not_true_eq_false, not_false_eq_true, false_implies, implies_true, Nat.reduceEqDiff, List.length_nil, List.length_cons]
  exact hb g2 _ ⟨k1.1.far k2.2, k2.1, hA.ln _ _⟩
theorem lw_c564 (hJ : m_cl (kLaw L xs) q J) (hL : L ≤ 256) (h0 : 0 ≤ i) (hi : i + 4 ≤ L) (hg : lw_I g A) (hb : ∀ g A, lw_I g A → J 915 (lw_l i) [] g) : J 564 (lw_l i) [] g := by
  obtain ⟨hc, hl, hA⟩ := hg
  have w1 : m_wrap (i + 1) = i + 1 := m_w1 (by omega) (by omega)
  have w2 : m_wrap (i + 2) = i + 2 := m_w1 (by omega) (by omega)
  have w3 : m_wrap (i + 3) = i + 3 := m_w1 (by omega) (by omega)
  have z1 : 0 ≤ i + 1 := by omega
  have z2 : 0 ≤ i + 2 := by omega
  have z3 : 0 ≤ i + 3 := by omega
  have y1 : i + 1 < (L : Int) := by omega
  have y2 : i + 2 < (L : Int) := by omega
  have y3 : i + 3 < (L : Int) := by omega
  refine m_run_ok hJ (fun pc => pc == 915) 8 _ _ _ _ ?_
  simp only [e_go, e_ald0, e_ald1, e_ald2, e_ild3, e_inc3, e_nl2, e_slen, e_sald, e_push, e_bin, e_lbin, e_lshl, e_i2l, e_callV1, e_callV2, e_callV3, e_callV4, e_pushs, e_icmp, e_goto, eq_self, ob_0, ob_66, rLaw_564, rLaw_565, rLaw_568, rLaw_569, rLaw_572, w1, w2, w3, z1, z2, z3, y1, y2, y3, m_b0, m_b01, m_b1, m_em, Classical.not_not, Nat.reduceBEq, Nat.reduceLT, Nat.reduceLeDiff, Nat.reduceAdd, cond_true, cond_false, Bool.or_false, Bool.false_or, Bool.or_true, Bool.true_or, beq_iff_eq, true_and, and_true, true_or, or_true, forall_const, not_true_eq_false, not_false_eq_true, false_implies, implies_true, Nat.reduceEqDiff, List.length_nil, List.length_cons]
  refine q8_last hc hA.1.1.1 (fun g1 k1 => ?_)
  simp only [e_go, e_ald0, e_ald1, e_ald2, e_ild3, e_inc3, e_nl2, e_slen, e_sald, e_push, e_bin, e_lbin, e_lshl, e_i2l, e_callV1, e_callV2, e_callV3, e_callV4, e_pushs, e_icmp, e_goto, eq_self, ob_0, ob_66, rLaw_564, rLaw_565, rLaw_568, rLaw_569, rLaw_572, w1, w2, w3, z1, z2, z3, y1, y2, y3, m_b0, m_b01, m_b1, m_em, Classical.not_not, Nat.reduceBEq, Nat.reduceLT, Nat.reduceLeDiff, Nat.reduceAdd, cond_true, cond_false, Bool.or_false, Bool.false_or, Bool.or_true, Bool.true_or, beq_iff_eq, true_and, and_true, true_or, or_true, forall_const, not_true_eq_false, not_false_eq_true, false_implies, implies_true, Nat.reduceEqDiff, List.length_nil, List.length_cons]
  refine q9_last (hl.far k1.2) hA.1.1.1 (fun g2 k2 => ?_)
  simp only [e_go, e_ald0, e_ald1, e_ald2, e_ild3, e_inc3, e_nl2, e_slen, e_sald, e_push, e_bin, e_lbin, e_lshl, e_i2l, e_callV1, e_callV2, e_callV3, e_callV4, e_pushs, e_icmp, e_goto, eq_self, ob_0, ob_66, rLaw_564, rLaw_565, rLaw_568, rLaw_569, rLaw_572, w1, w2, w3, z1, z2, z3, y1, y2, y3, m_b0, m_b01, m_b1, m_em, Classical.not_not, Nat.reduceBEq, Nat.reduceLT, Nat.reduceLeDiff, Nat.reduceAdd, cond_true, cond_false, Bool.or_false, Bool.false_or, Bool.or_true, Bool.true_or, beq_iff_eq, true_and, and_true, true_or, or_true, forall_const, not_true_eq_false, not_false_eq_true, false_implies, implies_true, Nat.reduceEqDiff, List.length_nil, List.length_cons]
  exact hb g2 _ ⟨k1.1.far k2.2, k2.1, hA⟩
theorem lw_c577 (hJ : m_cl (kLaw L xs) q J) (hL : L ≤ 256) (h0 : 0 ≤ i) (hi : i + 4 ≤ L) (hg : lw_I g A) (hb : ∀ g A, lw_I g A → J 915 (lw_l i) [] g) : J 577 (lw_l i) [] g := by
  obtain ⟨hc, hl, hA⟩ := hg
  have w1 : m_wrap (i + 1) = i + 1 := m_w1 (by omega) (by omega)
  have w2 : m_wrap (i + 2) = i + 2 := m_w1 (by omega) (by omega)
  have w3 : m_wrap (i + 3) = i + 3 := m_w1 (by omega) (by omega)
  have z1 : 0 ≤ i + 1 := by omega
  have z2 : 0 ≤ i + 2 := by omega
  have z3 : 0 ≤ i + 3 := by omega
  have y1 : i + 1 < (L : Int) := by omega
  have y2 : i + 2 < (L : Int) := by omega
  have y3 : i + 3 < (L : Int) := by omega
  refine m_run_ok hJ (fun pc => pc == 915) 28 _ _ _ _ ?_
  simp only [e_go, e_ald0, e_ald1, e_ald2, e_ild3, e_inc3, e_nl2, e_slen, e_sald, e_push, e_bin, e_lbin, e_lshl, e_i2l, e_callV1, e_callV2, e_callV3, e_callV4, e_pushs, e_icmp, e_goto, eq_self, ob_0, ob_66, rLaw_577, rLaw_578, rLaw_579, rLaw_580, rLaw_581, rLaw_582, rLaw_583, rLaw_584, rLaw_585, rLaw_586, rLaw_587, rLaw_588, rLaw_591, rLaw_592, rLaw_593, rLaw_594, rLaw_595, rLaw_596, rLaw_597, rLaw_598, rLaw_599, rLaw_600, rLaw_601, rLaw_602, rLaw_605, w1, w2, w3, z1, z2, z3, y1, y2, y3, m_b0, m_b01, m_b1, m_em, Classical.not_not, Nat.reduceBEq, Nat.reduceLT, Nat.reduceLeDiff, Nat.reduceAdd, cond_true, cond_false, Bool.or_false, Bool.false_or, Bool.or_true, Bool.true_or, beq_iff_eq, true_and, and_true, true_or, or_true, forall_const, not_true_eq_false, not_false_eq_true, false_implies, implies_true, Nat.reduceEqDiff, List.length_nil, List.length_cons]
  refine q8_mean hc hA.1.1.1 (fun g1 k1 => ?_)
  simp only [e_go, e_ald0, e_ald1, e_ald2, e_ild3, e_inc3, e_nl2, e_slen, e_sald, e_push, e_bin, e_lbin, e_lshl, e_i2l, e_callV1, e_callV2, e_callV3, e_callV4, e_pushs, e_icmp, e_goto, eq_self, ob_0, ob_66, rLaw_577, rLaw_578, rLaw_579, rLaw_580, rLaw_581, rLaw_582, rLaw_583, rLaw_584, rLaw_585, rLaw_586, rLaw_587, rLaw_588, rLaw_591, rLaw_592, rLaw_593, rLaw_594, rLaw_595, rLaw_596, rLaw_597, rLaw_598, rLaw_599, rLaw_600, rLaw_601, rLaw_602, rLaw_605, w1, w2, w3, z1, z2, z3, y1, y2, y3, m_b0, m_b01, m_b1, m_em, Classical.not_not, Nat.reduceBEq, Nat.reduceLT, Nat.reduceLeDiff, Nat.reduceAdd, cond_true, cond_false, Bool.or_false, Bool.false_or, Bool.or_true, Bool.true_or, beq_iff_eq, true_and, and_true, true_or, or_true, forall_const, not_true_eq_false, not_false_eq_true, false_implies, implies_true, Nat.reduceEqDiff, List.length_nil, List.length_cons]
  refine q9_mean (hl.far k1.2) hA.1.1.1 (fun g2 k2 => ?_)
  simp only [e_go, e_ald0, e_ald1, e_ald2, e_ild3, e_inc3, e_nl2, e_slen, e_sald, e_push, e_bin, e_lbin, e_lshl, e_i2l, e_callV1, e_callV2, e_callV3, e_callV4, e_pushs, e_icmp, e_goto, eq_self, ob_0, ob_66, rLaw_577, rLaw_578, rLaw_579, rLaw_580, rLaw_581, rLaw_582, rLaw_583, rLaw_584, rLaw_585, rLaw_586, rLaw_587, rLaw_588, rLaw_591, rLaw_592, rLaw_593, rLaw_594, rLaw_595, rLaw_596, rLaw_597, rLaw_598, rLaw_599, rLaw_600, rLaw_601, rLaw_602, rLaw_605, w1, w2, w3, z1, z2, z3, y1, y2, y3, m_b0, m_b01, m_b1, m_em, Classical.not_not, Nat.reduceBEq, Nat.reduceLT, Nat.reduceLeDiff, Nat.reduceAdd, cond_true, cond_false, Bool.or_false, Bool.false_or, Bool.or_true, Bool.true_or, beq_iff_eq, true_and, and_true, true_or, or_true, forall_const, not_true_eq_false, not_false_eq_true, false_implies, implies_true, Nat.reduceEqDiff, List.length_nil, List.length_cons]
  exact hb g2 _ ⟨k1.1.far k2.2, k2.1, hA.mean' _ _⟩
theorem lw_c610 (hJ : m_cl (kLaw L xs) q J) (hL : L ≤ 256) (h0 : 0 ≤ i) (hi : i + 4 ≤ L) (hg : lw_I g A) (hb : ∀ g A, lw_I g A → J 915 (lw_l i) [] g) : J 610 (lw_l i) [] g := by
  obtain ⟨hc, hl, hA⟩ := hg
  have w1 : m_wrap (i + 1) = i + 1 := m_w1 (by omega) (by omega)
  have w2 : m_wrap (i + 2) = i + 2 := m_w1 (by omega) (by omega)
  have w3 : m_wrap (i + 3) = i + 3 := m_w1 (by omega) (by omega)
  have z1 : 0 ≤ i + 1 := by omega
  have z2 : 0 ≤ i + 2 := by omega
  have z3 : 0 ≤ i + 3 := by omega
  have y1 : i + 1 < (L : Int) := by omega
  have y2 : i + 2 < (L : Int) := by omega
  have y3 : i + 3 < (L : Int) := by omega
  refine m_run_ok hJ (fun pc => pc == 915) 8 _ _ _ _ ?_
  simp only [e_go, e_ald0, e_ald1, e_ald2, e_ild3, e_inc3, e_nl2, e_slen, e_sald, e_push, e_bin, e_lbin, e_lshl, e_i2l, e_callV1, e_callV2, e_callV3, e_callV4, e_pushs, e_icmp, e_goto, eq_self, ob_0, ob_66, rLaw_610, rLaw_611, rLaw_614, rLaw_615, rLaw_618, w1, w2, w3, z1, z2, z3, y1, y2, y3, m_b0, m_b01, m_b1, m_em, Classical.not_not, Nat.reduceBEq, Nat.reduceLT, Nat.reduceLeDiff, Nat.reduceAdd, cond_true, cond_false, Bool.or_false, Bool.false_or, Bool.or_true, Bool.true_or, beq_iff_eq, true_and, and_true, true_or, or_true, forall_const, not_true_eq_false, not_false_eq_true, false_implies, implies_true, Nat.reduceEqDiff, List.length_nil, List.length_cons]
  refine q8_bestWord hc hA.1.1.1 (fun g1 k1 => ?_)
  simp only [e_go, e_ald0, e_ald1, e_ald2, e_ild3, e_inc3, e_nl2, e_slen, e_sald, e_push, e_bin, e_lbin, e_lshl, e_i2l, e_callV1, e_callV2, e_callV3, e_callV4, e_pushs, e_icmp, e_goto, eq_self, ob_0, ob_66, rLaw_610, rLaw_611, rLaw_614, rLaw_615, rLaw_618, w1, w2, w3, z1, z2, z3, y1, y2, y3, m_b0, m_b01, m_b1, m_em, Classical.not_not, Nat.reduceBEq, Nat.reduceLT, Nat.reduceLeDiff, Nat.reduceAdd, cond_true, cond_false, Bool.or_false, Bool.false_or, Bool.or_true, Bool.true_or, beq_iff_eq, true_and, and_true, true_or, or_true, forall_const, not_true_eq_false, not_false_eq_true, false_implies, implies_true, Nat.reduceEqDiff, List.length_nil, List.length_cons]
  refine q9_bestWord (hl.far k1.2) hA.1.1.1 (fun g2 k2 => ?_)
  simp only [e_go, e_ald0, e_ald1, e_ald2, e_ild3, e_inc3, e_nl2, e_slen, e_sald, e_push, e_bin, e_lbin, e_lshl, e_i2l, e_callV1, e_callV2, e_callV3, e_callV4, e_pushs, e_icmp, e_goto, eq_self, ob_0, ob_66, rLaw_610, rLaw_611, rLaw_614, rLaw_615, rLaw_618, w1, w2, w3, z1, z2, z3, y1, y2, y3, m_b0, m_b01, m_b1, m_em, Classical.not_not, Nat.reduceBEq, Nat.reduceLT, Nat.reduceLeDiff, Nat.reduceAdd, cond_true, cond_false, Bool.or_false, Bool.false_or, Bool.or_true, Bool.true_or, beq_iff_eq, true_and, and_true, true_or, or_true, forall_const, not_true_eq_false, not_false_eq_true, false_implies, implies_true, Nat.reduceEqDiff, List.length_nil, List.length_cons]
  exact hb g2 _ ⟨k1.1.far k2.2, k2.1, hA⟩
theorem lw_c623 (hJ : m_cl (kLaw L xs) q J) (hL : L ≤ 256) (h0 : 0 ≤ i) (hi : i + 4 ≤ L) (hg : lw_I g A) (hb : ∀ g A, lw_I g A → J 915 (lw_l i) [] g) : J 623 (lw_l i) [] g := by
  obtain ⟨hc, hl, hA⟩ := hg
  have w1 : m_wrap (i + 1) = i + 1 := m_w1 (by omega) (by omega)
  have w2 : m_wrap (i + 2) = i + 2 := m_w1 (by omega) (by omega)
  have w3 : m_wrap (i + 3) = i + 3 := m_w1 (by omega) (by omega)
  have z1 : 0 ≤ i + 1 := by omega
  have z2 : 0 ≤ i + 2 := by omega
  have z3 : 0 ≤ i + 3 := by omega
  have y1 : i + 1 < (L : Int) := by omega
  have y2 : i + 2 < (L : Int) := by omega
  have y3 : i + 3 < (L : Int) := by omega
  refine m_run_ok hJ (fun pc => pc == 915) 18 _ _ _ _ ?_
  simp only [e_go, e_ald0, e_ald1, e_ald2, e_ild3, e_inc3, e_nl2, e_slen, e_sald, e_push, e_bin, e_lbin, e_lshl, e_i2l, e_callV1, e_callV2, e_callV3, e_callV4, e_pushs, e_icmp, e_goto, eq_self, ob_0, ob_66, rLaw_623, rLaw_624, rLaw_625, rLaw_626, rLaw_627, rLaw_628, rLaw_629, rLaw_632, rLaw_633, rLaw_634, rLaw_635, rLaw_636, rLaw_637, rLaw_638, rLaw_641, w1, w2, w3, z1, z2, z3, y1, y2, y3, m_b0, m_b01, m_b1, m_em, Classical.not_not, Nat.reduceBEq, Nat.reduceLT, Nat.reduceLeDiff, Nat.reduceAdd, cond_true, cond_false, Bool.or_false, Bool.false_or, Bool.or_true, Bool.true_or, beq_iff_eq, true_and, and_true, true_or, or_true, forall_const, not_true_eq_false, not_false_eq_true, false_implies, implies_true, Nat.reduceEqDiff, List.length_nil, List.length_cons]
  refine q8_fewest hc hA.1.1.1 (fun g1 k1 => ?_)
  simp only [e_go, e_ald0, e_ald1, e_ald2, e_ild3, e_inc3, e_nl2, e_slen, e_sald, e_push, e_bin, e_lbin, e_lshl, e_i2l, e_callV1, e_callV2, e_callV3, e_callV4, e_pushs, e_icmp, e_goto, eq_self, ob_0, ob_66, rLaw_623, rLaw_624, rLaw_625, rLaw_626, rLaw_627, rLaw_628, rLaw_629, rLaw_632, rLaw_633, rLaw_634, rLaw_635, rLaw_636, rLaw_637, rLaw_638, rLaw_641, w1, w2, w3, z1, z2, z3, y1, y2, y3, m_b0, m_b01, m_b1, m_em, Classical.not_not, Nat.reduceBEq, Nat.reduceLT, Nat.reduceLeDiff, Nat.reduceAdd, cond_true, cond_false, Bool.or_false, Bool.false_or, Bool.or_true, Bool.true_or, beq_iff_eq, true_and, and_true, true_or, or_true, forall_const, not_true_eq_false, not_false_eq_true, false_implies, implies_true, Nat.reduceEqDiff, List.length_nil, List.length_cons]
  refine q9_fewest (hl.far k1.2) hA.1.1.1 (fun g2 k2 => ?_)
  simp only [e_go, e_ald0, e_ald1, e_ald2, e_ild3, e_inc3, e_nl2, e_slen, e_sald, e_push, e_bin, e_lbin, e_lshl, e_i2l, e_callV1, e_callV2, e_callV3, e_callV4, e_pushs, e_icmp, e_goto, eq_self, ob_0, ob_66, rLaw_623, rLaw_624, rLaw_625, rLaw_626, rLaw_627, rLaw_628, rLaw_629, rLaw_632, rLaw_633, rLaw_634, rLaw_635, rLaw_636, rLaw_637, rLaw_638, rLaw_641, w1, w2, w3, z1, z2, z3, y1, y2, y3, m_b0, m_b01, m_b1, m_em, Classical.not_not, Nat.reduceBEq, Nat.reduceLT, Nat.reduceLeDiff, Nat.reduceAdd, cond_true, cond_false, Bool.or_false, Bool.false_or, Bool.or_true, Bool.true_or, beq_iff_eq, true_and, and_true, true_or, or_true, forall_const, not_true_eq_false, not_false_eq_true, false_implies, implies_true, Nat.reduceEqDiff, List.length_nil, List.length_cons]
  exact hb g2 _ ⟨k1.1.far k2.2, k2.1, hA.fewest' _⟩
theorem lw_c646 (hJ : m_cl (kLaw L xs) q J) (hL : L ≤ 256) (h0 : 0 ≤ i) (hi : i + 4 ≤ L) (hg : lw_I g A) (hb : ∀ g A, lw_I g A → J 915 (lw_l i) [] g) : J 646 (lw_l i) [] g := by
  obtain ⟨hc, hl, hA⟩ := hg
  have w1 : m_wrap (i + 1) = i + 1 := m_w1 (by omega) (by omega)
  have w2 : m_wrap (i + 2) = i + 2 := m_w1 (by omega) (by omega)
  have w3 : m_wrap (i + 3) = i + 3 := m_w1 (by omega) (by omega)
  have z1 : 0 ≤ i + 1 := by omega
  have z2 : 0 ≤ i + 2 := by omega
  have z3 : 0 ≤ i + 3 := by omega
  have y1 : i + 1 < (L : Int) := by omega
  have y2 : i + 2 < (L : Int) := by omega
  have y3 : i + 3 < (L : Int) := by omega
  refine m_run_ok hJ (fun pc => pc == 915) 8 _ _ _ _ ?_
  simp only [e_go, e_ald0, e_ald1, e_ald2, e_ild3, e_inc3, e_nl2, e_slen, e_sald, e_push, e_bin, e_lbin, e_lshl, e_i2l, e_callV1, e_callV2, e_callV3, e_callV4, e_pushs, e_icmp, e_goto, eq_self, ob_0, ob_66, rLaw_646, rLaw_647, rLaw_650, rLaw_651, rLaw_654, w1, w2, w3, z1, z2, z3, y1, y2, y3, m_b0, m_b01, m_b1, m_em, Classical.not_not, Nat.reduceBEq, Nat.reduceLT, Nat.reduceLeDiff, Nat.reduceAdd, cond_true, cond_false, Bool.or_false, Bool.false_or, Bool.or_true, Bool.true_or, beq_iff_eq, true_and, and_true, true_or, or_true, forall_const, not_true_eq_false, not_false_eq_true, false_implies, implies_true, Nat.reduceEqDiff, List.length_nil, List.length_cons]
  refine q8_edge hc hA.1.1.1 (fun g1 k1 => ?_)
  simp only [e_go, e_ald0, e_ald1, e_ald2, e_ild3, e_inc3, e_nl2, e_slen, e_sald, e_push, e_bin, e_lbin, e_lshl, e_i2l, e_callV1, e_callV2, e_callV3, e_callV4, e_pushs, e_icmp, e_goto, eq_self, ob_0, ob_66, rLaw_646, rLaw_647, rLaw_650, rLaw_651, rLaw_654, w1, w2, w3, z1, z2, z3, y1, y2, y3, m_b0, m_b01, m_b1, m_em, Classical.not_not, Nat.reduceBEq, Nat.reduceLT, Nat.reduceLeDiff, Nat.reduceAdd, cond_true, cond_false, Bool.or_false, Bool.false_or, Bool.or_true, Bool.true_or, beq_iff_eq, true_and, and_true, true_or, or_true, forall_const, not_true_eq_false, not_false_eq_true, false_implies, implies_true, Nat.reduceEqDiff, List.length_nil, List.length_cons]
  refine q9_edge (hl.far k1.2) hA.1.1.1 hA.1.2 (fun g2 k2 => ?_)
  simp only [e_go, e_ald0, e_ald1, e_ald2, e_ild3, e_inc3, e_nl2, e_slen, e_sald, e_push, e_bin, e_lbin, e_lshl, e_i2l, e_callV1, e_callV2, e_callV3, e_callV4, e_pushs, e_icmp, e_goto, eq_self, ob_0, ob_66, rLaw_646, rLaw_647, rLaw_650, rLaw_651, rLaw_654, w1, w2, w3, z1, z2, z3, y1, y2, y3, m_b0, m_b01, m_b1, m_em, Classical.not_not, Nat.reduceBEq, Nat.reduceLT, Nat.reduceLeDiff, Nat.reduceAdd, cond_true, cond_false, Bool.or_false, Bool.false_or, Bool.or_true, Bool.true_or, beq_iff_eq, true_and, and_true, true_or, or_true, forall_const, not_true_eq_false, not_false_eq_true, false_implies, implies_true, Nat.reduceEqDiff, List.length_nil, List.length_cons]
  exact hb g2 _ ⟨k1.1.far k2.2, k2.1, hA⟩
theorem lw_c659 (hJ : m_cl (kLaw L xs) q J) (hL : L ≤ 256) (h0 : 0 ≤ i) (hi : i + 4 ≤ L) (hg : lw_I g A) (hb : ∀ g A, lw_I g A → J 915 (lw_l i) [] g) : J 659 (lw_l i) [] g := by
  obtain ⟨hc, hl, hA⟩ := hg
  have w1 : m_wrap (i + 1) = i + 1 := m_w1 (by omega) (by omega)
  have w2 : m_wrap (i + 2) = i + 2 := m_w1 (by omega) (by omega)
  have w3 : m_wrap (i + 3) = i + 3 := m_w1 (by omega) (by omega)
  have z1 : 0 ≤ i + 1 := by omega
  have z2 : 0 ≤ i + 2 := by omega
  have z3 : 0 ≤ i + 3 := by omega
  have y1 : i + 1 < (L : Int) := by omega
  have y2 : i + 2 < (L : Int) := by omega
  have y3 : i + 3 < (L : Int) := by omega
  refine m_run_ok hJ (fun pc => pc == 915) 8 _ _ _ _ ?_
  simp only [e_go, e_ald0, e_ald1, e_ald2, e_ild3, e_inc3, e_nl2, e_slen, e_sald, e_push, e_bin, e_lbin, e_lshl, e_i2l, e_callV1, e_callV2, e_callV3, e_callV4, e_pushs, e_icmp, e_goto, eq_self, ob_0, ob_66, rLaw_659, rLaw_660, rLaw_663, rLaw_664, rLaw_667, w1, w2, w3, z1, z2, z3, y1, y2, y3, m_b0, m_b01, m_b1, m_em, Classical.not_not, Nat.reduceBEq, Nat.reduceLT, Nat.reduceLeDiff, Nat.reduceAdd, cond_true, cond_false, Bool.or_false, Bool.false_or, Bool.or_true, Bool.true_or, beq_iff_eq, true_and, and_true, true_or, or_true, forall_const, not_true_eq_false, not_false_eq_true, false_implies, implies_true, Nat.reduceEqDiff, List.length_nil, List.length_cons]
  refine q8_signs hc hA.1.1.1 (fun g1 k1 => ?_)
  simp only [e_go, e_ald0, e_ald1, e_ald2, e_ild3, e_inc3, e_nl2, e_slen, e_sald, e_push, e_bin, e_lbin, e_lshl, e_i2l, e_callV1, e_callV2, e_callV3, e_callV4, e_pushs, e_icmp, e_goto, eq_self, ob_0, ob_66, rLaw_659, rLaw_660, rLaw_663, rLaw_664, rLaw_667, w1, w2, w3, z1, z2, z3, y1, y2, y3, m_b0, m_b01, m_b1, m_em, Classical.not_not, Nat.reduceBEq, Nat.reduceLT, Nat.reduceLeDiff, Nat.reduceAdd, cond_true, cond_false, Bool.or_false, Bool.false_or, Bool.or_true, Bool.true_or, beq_iff_eq, true_and, and_true, true_or, or_true, forall_const, not_true_eq_false, not_false_eq_true, false_implies, implies_true, Nat.reduceEqDiff, List.length_nil, List.length_cons]
  refine q9_signs (hl.far k1.2) hA.1.1.1 (fun g2 k2 => ?_)
  simp only [e_go, e_ald0, e_ald1, e_ald2, e_ild3, e_inc3, e_nl2, e_slen, e_sald, e_push, e_bin, e_lbin, e_lshl, e_i2l, e_callV1, e_callV2, e_callV3, e_callV4, e_pushs, e_icmp, e_goto, eq_self, ob_0, ob_66, rLaw_659, rLaw_660, rLaw_663, rLaw_664, rLaw_667, w1, w2, w3, z1, z2, z3, y1, y2, y3, m_b0, m_b01, m_b1, m_em, Classical.not_not, Nat.reduceBEq, Nat.reduceLT, Nat.reduceLeDiff, Nat.reduceAdd, cond_true, cond_false, Bool.or_false, Bool.false_or, Bool.or_true, Bool.true_or, beq_iff_eq, true_and, and_true, true_or, or_true, forall_const, not_true_eq_false, not_false_eq_true, false_implies, implies_true, Nat.reduceEqDiff, List.length_nil, List.length_cons]
  exact hb g2 _ ⟨k1.1.far k2.2, k2.1, hA⟩
theorem lw_c672 (hJ : m_cl (kLaw L xs) q J) (hL : L ≤ 256) (h0 : 0 ≤ i) (hi : i + 4 ≤ L) (hg : lw_I g A) (hb : ∀ g A, lw_I g A → J 915 (lw_l i) [] g) : J 672 (lw_l i) [] g := by
  obtain ⟨hc, hl, hA⟩ := hg
  have w1 : m_wrap (i + 1) = i + 1 := m_w1 (by omega) (by omega)
  have w2 : m_wrap (i + 2) = i + 2 := m_w1 (by omega) (by omega)
  have w3 : m_wrap (i + 3) = i + 3 := m_w1 (by omega) (by omega)
  have z1 : 0 ≤ i + 1 := by omega
  have z2 : 0 ≤ i + 2 := by omega
  have z3 : 0 ≤ i + 3 := by omega
  have y1 : i + 1 < (L : Int) := by omega
  have y2 : i + 2 < (L : Int) := by omega
  have y3 : i + 3 < (L : Int) := by omega
  refine m_run_ok hJ (fun pc => pc == 915) 8 _ _ _ _ ?_
  simp only [e_go, e_ald0, e_ald1, e_ald2, e_ild3, e_inc3, e_nl2, e_slen, e_sald, e_push, e_bin, e_lbin, e_lshl, e_i2l, e_callV1, e_callV2, e_callV3, e_callV4, e_pushs, e_icmp, e_goto, eq_self, ob_0, ob_66, rLaw_672, rLaw_673, rLaw_676, rLaw_677, rLaw_680, w1, w2, w3, z1, z2, z3, y1, y2, y3, m_b0, m_b01, m_b1, m_em, Classical.not_not, Nat.reduceBEq, Nat.reduceLT, Nat.reduceLeDiff, Nat.reduceAdd, cond_true, cond_false, Bool.or_false, Bool.false_or, Bool.or_true, Bool.true_or, beq_iff_eq, true_and, and_true, true_or, or_true, forall_const, not_true_eq_false, not_false_eq_true, false_implies, implies_true, Nat.reduceEqDiff, List.length_nil, List.length_cons]
  refine q8_bestRule hc hA.1.1.1 (fun g1 k1 => ?_)
  simp only [e_go, e_ald0, e_ald1, e_ald2, e_ild3, e_inc3, e_nl2, e_slen, e_sald, e_push, e_bin, e_lbin, e_lshl, e_i2l, e_callV1, e_callV2, e_callV3, e_callV4, e_pushs, e_icmp, e_goto, eq_self, ob_0, ob_66, rLaw_672, rLaw_673, rLaw_676, rLaw_677, rLaw_680, w1, w2, w3, z1, z2, z3, y1, y2, y3, m_b0, m_b01, m_b1, m_em, Classical.not_not, Nat.reduceBEq, Nat.reduceLT, Nat.reduceLeDiff, Nat.reduceAdd, cond_true, cond_false, Bool.or_false, Bool.false_or, Bool.or_true, Bool.true_or, beq_iff_eq, true_and, and_true, true_or, or_true, forall_const, not_true_eq_false, not_false_eq_true, false_implies, implies_true, Nat.reduceEqDiff, List.length_nil, List.length_cons]
  refine q9_bestRule (hl.far k1.2) hA.1.1.1 (fun g2 k2 => ?_)
  simp only [e_go, e_ald0, e_ald1, e_ald2, e_ild3, e_inc3, e_nl2, e_slen, e_sald, e_push, e_bin, e_lbin, e_lshl, e_i2l, e_callV1, e_callV2, e_callV3, e_callV4, e_pushs, e_icmp, e_goto, eq_self, ob_0, ob_66, rLaw_672, rLaw_673, rLaw_676, rLaw_677, rLaw_680, w1, w2, w3, z1, z2, z3, y1, y2, y3, m_b0, m_b01, m_b1, m_em, Classical.not_not, Nat.reduceBEq, Nat.reduceLT, Nat.reduceLeDiff, Nat.reduceAdd, cond_true, cond_false, Bool.or_false, Bool.false_or, Bool.or_true, Bool.true_or, beq_iff_eq, true_and, and_true, true_or, or_true, forall_const, not_true_eq_false, not_false_eq_true, false_implies, implies_true, Nat.reduceEqDiff, List.length_nil, List.length_cons]
  exact hb g2 _ ⟨k1.1.far k2.2, k2.1, hA⟩
theorem lw_c685 (hJ : m_cl (kLaw L xs) q J) (hL : L ≤ 256) (h0 : 0 ≤ i) (hi : i + 4 ≤ L) (hg : lw_I g A) (hb : ∀ g A, lw_I g A → J 915 (lw_l i) [] g) : J 685 (lw_l i) [] g := by
  obtain ⟨hc, hl, hA⟩ := hg
  have w1 : m_wrap (i + 1) = i + 1 := m_w1 (by omega) (by omega)
  have w2 : m_wrap (i + 2) = i + 2 := m_w1 (by omega) (by omega)
  have w3 : m_wrap (i + 3) = i + 3 := m_w1 (by omega) (by omega)
  have z1 : 0 ≤ i + 1 := by omega
  have z2 : 0 ≤ i + 2 := by omega
  have z3 : 0 ≤ i + 3 := by omega
  have y1 : i + 1 < (L : Int) := by omega
  have y2 : i + 2 < (L : Int) := by omega
  have y3 : i + 3 < (L : Int) := by omega
  refine m_run_ok hJ (fun pc => pc == 915) 38 _ _ _ _ ?_
  simp only [e_go, e_ald0, e_ald1, e_ald2, e_ild3, e_inc3, e_nl2, e_slen, e_sald, e_push, e_bin, e_lbin, e_lshl, e_i2l, e_callV1, e_callV2, e_callV3, e_callV4, e_pushs, e_icmp, e_goto, eq_self, ob_0, ob_66, rLaw_685, rLaw_686, rLaw_687, rLaw_688, rLaw_689, rLaw_690, rLaw_691, rLaw_692, rLaw_693, rLaw_694, rLaw_695, rLaw_696, rLaw_697, rLaw_698, rLaw_699, rLaw_700, rLaw_701, rLaw_704, rLaw_705, rLaw_706, rLaw_707, rLaw_708, rLaw_709, rLaw_710, rLaw_711, rLaw_712, rLaw_713, rLaw_714, rLaw_715, rLaw_716, rLaw_717, rLaw_718, rLaw_719, rLaw_720, rLaw_723, w1, w2, w3, z1, z2, z3, y1, y2, y3, m_b0, m_b01, m_b1, m_em, Classical.not_not, Nat.reduceBEq, Nat.reduceLT, Nat.reduceLeDiff, Nat.reduceAdd, cond_true, cond_false, Bool.or_false, Bool.false_or, Bool.or_true, Bool.true_or, beq_iff_eq, true_and, and_true, true_or, or_true, forall_const, not_true_eq_false, not_false_eq_true, false_implies, implies_true, Nat.reduceEqDiff, List.length_nil, List.length_cons]
  refine q8_buys hc hA.1.1 (fun g1 k1 => ?_)
  simp only [e_go, e_ald0, e_ald1, e_ald2, e_ild3, e_inc3, e_nl2, e_slen, e_sald, e_push, e_bin, e_lbin, e_lshl, e_i2l, e_callV1, e_callV2, e_callV3, e_callV4, e_pushs, e_icmp, e_goto, eq_self, ob_0, ob_66, rLaw_685, rLaw_686, rLaw_687, rLaw_688, rLaw_689, rLaw_690, rLaw_691, rLaw_692, rLaw_693, rLaw_694, rLaw_695, rLaw_696, rLaw_697, rLaw_698, rLaw_699, rLaw_700, rLaw_701, rLaw_704, rLaw_705, rLaw_706, rLaw_707, rLaw_708, rLaw_709, rLaw_710, rLaw_711, rLaw_712, rLaw_713, rLaw_714, rLaw_715, rLaw_716, rLaw_717, rLaw_718, rLaw_719, rLaw_720, rLaw_723, w1, w2, w3, z1, z2, z3, y1, y2, y3, m_b0, m_b01, m_b1, m_em, Classical.not_not, Nat.reduceBEq, Nat.reduceLT, Nat.reduceLeDiff, Nat.reduceAdd, cond_true, cond_false, Bool.or_false, Bool.false_or, Bool.or_true, Bool.true_or, beq_iff_eq, true_and, and_true, true_or, or_true, forall_const, not_true_eq_false, not_false_eq_true, false_implies, implies_true, Nat.reduceEqDiff, List.length_nil, List.length_cons]
  refine q9_buys (hl.far k1.2) hA.1.1 (fun g2 k2 => ?_)
  simp only [e_go, e_ald0, e_ald1, e_ald2, e_ild3, e_inc3, e_nl2, e_slen, e_sald, e_push, e_bin, e_lbin, e_lshl, e_i2l, e_callV1, e_callV2, e_callV3, e_callV4, e_pushs, e_icmp, e_goto, eq_self, ob_0, ob_66, rLaw_685, rLaw_686, rLaw_687, rLaw_688, rLaw_689, rLaw_690, rLaw_691, rLaw_692, rLaw_693, rLaw_694, rLaw_695, rLaw_696, rLaw_697, rLaw_698, rLaw_699, rLaw_700, rLaw_701, rLaw_704, rLaw_705, rLaw_706, rLaw_707, rLaw_708, rLaw_709, rLaw_710, rLaw_711, rLaw_712, rLaw_713, rLaw_714, rLaw_715, rLaw_716, rLaw_717, rLaw_718, rLaw_719, rLaw_720, rLaw_723, w1, w2, w3, z1, z2, z3, y1, y2, y3, m_b0, m_b01, m_b1, m_em, Classical.not_not, Nat.reduceBEq, Nat.reduceLT, Nat.reduceLeDiff, Nat.reduceAdd, cond_true, cond_false, Bool.or_false, Bool.false_or, Bool.or_true, Bool.true_or, beq_iff_eq, true_and, and_true, true_or, or_true, forall_const, not_true_eq_false, not_false_eq_true, false_implies, implies_true, Nat.reduceEqDiff, List.length_nil, List.length_cons]
  exact hb g2 _ ⟨k1.1.far k2.2, k2.1, hA.buys' _ _ _⟩
theorem lw_c728 (hJ : m_cl (kLaw L xs) q J) (hL : L ≤ 256) (h0 : 0 ≤ i) (hi : i + 4 ≤ L) (hg : lw_I g A) (hb : ∀ g A, lw_I g A → J 915 (lw_l i) [] g) : J 728 (lw_l i) [] g := by
  obtain ⟨hc, hl, hA⟩ := hg
  have w1 : m_wrap (i + 1) = i + 1 := m_w1 (by omega) (by omega)
  have w2 : m_wrap (i + 2) = i + 2 := m_w1 (by omega) (by omega)
  have w3 : m_wrap (i + 3) = i + 3 := m_w1 (by omega) (by omega)
  have z1 : 0 ≤ i + 1 := by omega
  have z2 : 0 ≤ i + 2 := by omega
  have z3 : 0 ≤ i + 3 := by omega
  have y1 : i + 1 < (L : Int) := by omega
  have y2 : i + 2 < (L : Int) := by omega
  have y3 : i + 3 < (L : Int) := by omega
  refine m_run_ok hJ (fun pc => pc == 915) 38 _ _ _ _ ?_
  simp only [e_go, e_ald0, e_ald1, e_ald2, e_ild3, e_inc3, e_nl2, e_slen, e_sald, e_push, e_bin, e_lbin, e_lshl, e_i2l, e_callV1, e_callV2, e_callV3, e_callV4, e_pushs, e_icmp, e_goto, eq_self, ob_0, ob_66, rLaw_728, rLaw_729, rLaw_730, rLaw_731, rLaw_732, rLaw_733, rLaw_734, rLaw_735, rLaw_736, rLaw_737, rLaw_738, rLaw_739, rLaw_740, rLaw_741, rLaw_742, rLaw_743, rLaw_744, rLaw_747, rLaw_748, rLaw_749, rLaw_750, rLaw_751, rLaw_752, rLaw_753, rLaw_754, rLaw_755, rLaw_756, rLaw_757, rLaw_758, rLaw_759, rLaw_760, rLaw_761, rLaw_762, rLaw_763, rLaw_766, w1, w2, w3, z1, z2, z3, y1, y2, y3, m_b0, m_b01, m_b1, m_em, Classical.not_not, Nat.reduceBEq, Nat.reduceLT, Nat.reduceLeDiff, Nat.reduceAdd, cond_true, cond_false, Bool.or_false, Bool.false_or, Bool.or_true, Bool.true_or, beq_iff_eq, true_and, and_true, true_or, or_true, forall_const, not_true_eq_false, not_false_eq_true, false_implies, implies_true, Nat.reduceEqDiff, List.length_nil, List.length_cons]
  refine q8_fails hc hA.1.1.1 (fun g1 k1 => ?_)
  simp only [e_go, e_ald0, e_ald1, e_ald2, e_ild3, e_inc3, e_nl2, e_slen, e_sald, e_push, e_bin, e_lbin, e_lshl, e_i2l, e_callV1, e_callV2, e_callV3, e_callV4, e_pushs, e_icmp, e_goto, eq_self, ob_0, ob_66, rLaw_728, rLaw_729, rLaw_730, rLaw_731, rLaw_732, rLaw_733, rLaw_734, rLaw_735, rLaw_736, rLaw_737, rLaw_738, rLaw_739, rLaw_740, rLaw_741, rLaw_742, rLaw_743, rLaw_744, rLaw_747, rLaw_748, rLaw_749, rLaw_750, rLaw_751, rLaw_752, rLaw_753, rLaw_754, rLaw_755, rLaw_756, rLaw_757, rLaw_758, rLaw_759, rLaw_760, rLaw_761, rLaw_762, rLaw_763, rLaw_766, w1, w2, w3, z1, z2, z3, y1, y2, y3, m_b0, m_b01, m_b1, m_em, Classical.not_not, Nat.reduceBEq, Nat.reduceLT, Nat.reduceLeDiff, Nat.reduceAdd, cond_true, cond_false, Bool.or_false, Bool.false_or, Bool.or_true, Bool.true_or, beq_iff_eq, true_and, and_true, true_or, or_true, forall_const, not_true_eq_false, not_false_eq_true, false_implies, implies_true, Nat.reduceEqDiff, List.length_nil, List.length_cons]
  refine q9_fails (hl.far k1.2) hA.1.1.1 (fun g2 k2 => ?_)
  simp only [e_go, e_ald0, e_ald1, e_ald2, e_ild3, e_inc3, e_nl2, e_slen, e_sald, e_push, e_bin, e_lbin, e_lshl, e_i2l, e_callV1, e_callV2, e_callV3, e_callV4, e_pushs, e_icmp, e_goto, eq_self, ob_0, ob_66, rLaw_728, rLaw_729, rLaw_730, rLaw_731, rLaw_732, rLaw_733, rLaw_734, rLaw_735, rLaw_736, rLaw_737, rLaw_738, rLaw_739, rLaw_740, rLaw_741, rLaw_742, rLaw_743, rLaw_744, rLaw_747, rLaw_748, rLaw_749, rLaw_750, rLaw_751, rLaw_752, rLaw_753, rLaw_754, rLaw_755, rLaw_756, rLaw_757, rLaw_758, rLaw_759, rLaw_760, rLaw_761, rLaw_762, rLaw_763, rLaw_766, w1, w2, w3, z1, z2, z3, y1, y2, y3, m_b0, m_b01, m_b1, m_em, Classical.not_not, Nat.reduceBEq, Nat.reduceLT, Nat.reduceLeDiff, Nat.reduceAdd, cond_true, cond_false, Bool.or_false, Bool.false_or, Bool.or_true, Bool.true_or, beq_iff_eq, true_and, and_true, true_or, or_true, forall_const, not_true_eq_false, not_false_eq_true, false_implies, implies_true, Nat.reduceEqDiff, List.length_nil, List.length_cons]
  exact hb g2 _ ⟨k1.1.far k2.2, k2.1, hA.fails' _ _ _⟩
theorem lw_c771 (hJ : m_cl (kLaw L xs) q J) (hL : L ≤ 256) (h0 : 0 ≤ i) (hi : i + 4 ≤ L) (hg : lw_I g A) (hb : ∀ g A, lw_I g A → J 915 (lw_l i) [] g) : J 771 (lw_l i) [] g := by
  obtain ⟨hc, hl, hA⟩ := hg
  have w1 : m_wrap (i + 1) = i + 1 := m_w1 (by omega) (by omega)
  have w2 : m_wrap (i + 2) = i + 2 := m_w1 (by omega) (by omega)
  have w3 : m_wrap (i + 3) = i + 3 := m_w1 (by omega) (by omega)
  have z1 : 0 ≤ i + 1 := by omega
  have z2 : 0 ≤ i + 2 := by omega
  have z3 : 0 ≤ i + 3 := by omega
  have y1 : i + 1 < (L : Int) := by omega
  have y2 : i + 2 < (L : Int) := by omega
  have y3 : i + 3 < (L : Int) := by omega
  refine m_run_ok hJ (fun pc => pc == 915) 8 _ _ _ _ ?_
  simp only [e_go, e_ald0, e_ald1, e_ald2, e_ild3, e_inc3, e_nl2, e_slen, e_sald, e_push, e_bin, e_lbin, e_lshl, e_i2l, e_callV1, e_callV2, e_callV3, e_callV4, e_pushs, e_icmp, e_goto, eq_self, ob_0, ob_66, rLaw_771, rLaw_772, rLaw_775, rLaw_776, rLaw_779, w1, w2, w3, z1, z2, z3, y1, y2, y3, m_b0, m_b01, m_b1, m_em, Classical.not_not, Nat.reduceBEq, Nat.reduceLT, Nat.reduceLeDiff, Nat.reduceAdd, cond_true, cond_false, Bool.or_false, Bool.false_or, Bool.or_true, Bool.true_or, beq_iff_eq, true_and, and_true, true_or, or_true, forall_const, not_true_eq_false, not_false_eq_true, false_implies, implies_true, Nat.reduceEqDiff, List.length_nil, List.length_cons]
  refine q8_weave hc hA.1.1.1 (fun g1 k1 => ?_)
  simp only [e_go, e_ald0, e_ald1, e_ald2, e_ild3, e_inc3, e_nl2, e_slen, e_sald, e_push, e_bin, e_lbin, e_lshl, e_i2l, e_callV1, e_callV2, e_callV3, e_callV4, e_pushs, e_icmp, e_goto, eq_self, ob_0, ob_66, rLaw_771, rLaw_772, rLaw_775, rLaw_776, rLaw_779, w1, w2, w3, z1, z2, z3, y1, y2, y3, m_b0, m_b01, m_b1, m_em, Classical.not_not, Nat.reduceBEq, Nat.reduceLT, Nat.reduceLeDiff, Nat.reduceAdd, cond_true, cond_false, Bool.or_false, Bool.false_or, Bool.or_true, Bool.true_or, beq_iff_eq, true_and, and_true, true_or, or_true, forall_const, not_true_eq_false, not_false_eq_true, false_implies, implies_true, Nat.reduceEqDiff, List.length_nil, List.length_cons]
  refine q9_weave (hl.far k1.2) hA.1.1.1 (fun g2 k2 => ?_)
  simp only [e_go, e_ald0, e_ald1, e_ald2, e_ild3, e_inc3, e_nl2, e_slen, e_sald, e_push, e_bin, e_lbin, e_lshl, e_i2l, e_callV1, e_callV2, e_callV3, e_callV4, e_pushs, e_icmp, e_goto, eq_self, ob_0, ob_66, rLaw_771, rLaw_772, rLaw_775, rLaw_776, rLaw_779, w1, w2, w3, z1, z2, z3, y1, y2, y3, m_b0, m_b01, m_b1, m_em, Classical.not_not, Nat.reduceBEq, Nat.reduceLT, Nat.reduceLeDiff, Nat.reduceAdd, cond_true, cond_false, Bool.or_false, Bool.false_or, Bool.or_true, Bool.true_or, beq_iff_eq, true_and, and_true, true_or, or_true, forall_const, not_true_eq_false, not_false_eq_true, false_implies, implies_true, Nat.reduceEqDiff, List.length_nil, List.length_cons]
  exact hb g2 _ ⟨k1.1.far k2.2, k2.1, hA⟩
theorem lw_c784 (hJ : m_cl (kLaw L xs) q J) (hL : L ≤ 256) (h0 : 0 ≤ i) (hi : i + 4 ≤ L) (hg : lw_I g A) (hb : ∀ g A, lw_I g A → J 915 (lw_l i) [] g) : J 784 (lw_l i) [] g := by
  obtain ⟨hc, hl, hA⟩ := hg
  have w1 : m_wrap (i + 1) = i + 1 := m_w1 (by omega) (by omega)
  have w2 : m_wrap (i + 2) = i + 2 := m_w1 (by omega) (by omega)
  have w3 : m_wrap (i + 3) = i + 3 := m_w1 (by omega) (by omega)
  have z1 : 0 ≤ i + 1 := by omega
  have z2 : 0 ≤ i + 2 := by omega
  have z3 : 0 ≤ i + 3 := by omega
  have y1 : i + 1 < (L : Int) := by omega
  have y2 : i + 2 < (L : Int) := by omega
  have y3 : i + 3 < (L : Int) := by omega
  refine m_run_ok hJ (fun pc => pc == 915) 18 _ _ _ _ ?_
  simp only [e_go, e_ald0, e_ald1, e_ald2, e_ild3, e_inc3, e_nl2, e_slen, e_sald, e_push, e_bin, e_lbin, e_lshl, e_i2l, e_callV1, e_callV2, e_callV3, e_callV4, e_pushs, e_icmp, e_goto, eq_self, ob_0, ob_66, rLaw_784, rLaw_785, rLaw_786, rLaw_787, rLaw_788, rLaw_789, rLaw_790, rLaw_793, rLaw_794, rLaw_795, rLaw_796, rLaw_797, rLaw_798, rLaw_799, rLaw_802, w1, w2, w3, z1, z2, z3, y1, y2, y3, m_b0, m_b01, m_b1, m_em, Classical.not_not, Nat.reduceBEq, Nat.reduceLT, Nat.reduceLeDiff, Nat.reduceAdd, cond_true, cond_false, Bool.or_false, Bool.false_or, Bool.or_true, Bool.true_or, beq_iff_eq, true_and, and_true, true_or, or_true, forall_const, not_true_eq_false, not_false_eq_true, false_implies, implies_true, Nat.reduceEqDiff, List.length_nil, List.length_cons]
  refine q8_order hc hA.1.1.1 (fun g1 k1 => ?_)
  simp only [e_go, e_ald0, e_ald1, e_ald2, e_ild3, e_inc3, e_nl2, e_slen, e_sald, e_push, e_bin, e_lbin, e_lshl, e_i2l, e_callV1, e_callV2, e_callV3, e_callV4, e_pushs, e_icmp, e_goto, eq_self, ob_0, ob_66, rLaw_784, rLaw_785, rLaw_786, rLaw_787, rLaw_788, rLaw_789, rLaw_790, rLaw_793, rLaw_794, rLaw_795, rLaw_796, rLaw_797, rLaw_798, rLaw_799, rLaw_802, w1, w2, w3, z1, z2, z3, y1, y2, y3, m_b0, m_b01, m_b1, m_em, Classical.not_not, Nat.reduceBEq, Nat.reduceLT, Nat.reduceLeDiff, Nat.reduceAdd, cond_true, cond_false, Bool.or_false, Bool.false_or, Bool.or_true, Bool.true_or, beq_iff_eq, true_and, and_true, true_or, or_true, forall_const, not_true_eq_false, not_false_eq_true, false_implies, implies_true, Nat.reduceEqDiff, List.length_nil, List.length_cons]
  refine q9_order (hl.far k1.2) hA.1.1.1 (fun g2 k2 => ?_)
  simp only [e_go, e_ald0, e_ald1, e_ald2, e_ild3, e_inc3, e_nl2, e_slen, e_sald, e_push, e_bin, e_lbin, e_lshl, e_i2l, e_callV1, e_callV2, e_callV3, e_callV4, e_pushs, e_icmp, e_goto, eq_self, ob_0, ob_66, rLaw_784, rLaw_785, rLaw_786, rLaw_787, rLaw_788, rLaw_789, rLaw_790, rLaw_793, rLaw_794, rLaw_795, rLaw_796, rLaw_797, rLaw_798, rLaw_799, rLaw_802, w1, w2, w3, z1, z2, z3, y1, y2, y3, m_b0, m_b01, m_b1, m_em, Classical.not_not, Nat.reduceBEq, Nat.reduceLT, Nat.reduceLeDiff, Nat.reduceAdd, cond_true, cond_false, Bool.or_false, Bool.false_or, Bool.or_true, Bool.true_or, beq_iff_eq, true_and, and_true, true_or, or_true, forall_const, not_true_eq_false, not_false_eq_true, false_implies, implies_true, Nat.reduceEqDiff, List.length_nil, List.length_cons]
  exact hb g2 _ ⟨k1.1.far k2.2, k2.1, hA.order' _⟩
theorem lw_c807 (hJ : m_cl (kLaw L xs) q J) (hL : L ≤ 256) (h0 : 0 ≤ i) (hi : i + 4 ≤ L) (hg : lw_I g A) (hb : ∀ g A, lw_I g A → J 915 (lw_l i) [] g) : J 807 (lw_l i) [] g := by
  obtain ⟨hc, hl, hA⟩ := hg
  have w1 : m_wrap (i + 1) = i + 1 := m_w1 (by omega) (by omega)
  have w2 : m_wrap (i + 2) = i + 2 := m_w1 (by omega) (by omega)
  have w3 : m_wrap (i + 3) = i + 3 := m_w1 (by omega) (by omega)
  have z1 : 0 ≤ i + 1 := by omega
  have z2 : 0 ≤ i + 2 := by omega
  have z3 : 0 ≤ i + 3 := by omega
  have y1 : i + 1 < (L : Int) := by omega
  have y2 : i + 2 < (L : Int) := by omega
  have y3 : i + 3 < (L : Int) := by omega
  refine m_run_ok hJ (fun pc => pc == 915) 18 _ _ _ _ ?_
  simp only [e_go, e_ald0, e_ald1, e_ald2, e_ild3, e_inc3, e_nl2, e_slen, e_sald, e_push, e_bin, e_lbin, e_lshl, e_i2l, e_callV1, e_callV2, e_callV3, e_callV4, e_pushs, e_icmp, e_goto, eq_self, ob_0, ob_66, rLaw_807, rLaw_808, rLaw_809, rLaw_810, rLaw_811, rLaw_812, rLaw_813, rLaw_816, rLaw_817, rLaw_818, rLaw_819, rLaw_820, rLaw_821, rLaw_822, rLaw_825, w1, w2, w3, z1, z2, z3, y1, y2, y3, m_b0, m_b01, m_b1, m_em, Classical.not_not, Nat.reduceBEq, Nat.reduceLT, Nat.reduceLeDiff, Nat.reduceAdd, cond_true, cond_false, Bool.or_false, Bool.false_or, Bool.or_true, Bool.true_or, beq_iff_eq, true_and, and_true, true_or, or_true, forall_const, not_true_eq_false, not_false_eq_true, false_implies, implies_true, Nat.reduceEqDiff, List.length_nil, List.length_cons]
  refine q8_rests hc hA.1.1.1 (fun g1 k1 => ?_)
  simp only [e_go, e_ald0, e_ald1, e_ald2, e_ild3, e_inc3, e_nl2, e_slen, e_sald, e_push, e_bin, e_lbin, e_lshl, e_i2l, e_callV1, e_callV2, e_callV3, e_callV4, e_pushs, e_icmp, e_goto, eq_self, ob_0, ob_66, rLaw_807, rLaw_808, rLaw_809, rLaw_810, rLaw_811, rLaw_812, rLaw_813, rLaw_816, rLaw_817, rLaw_818, rLaw_819, rLaw_820, rLaw_821, rLaw_822, rLaw_825, w1, w2, w3, z1, z2, z3, y1, y2, y3, m_b0, m_b01, m_b1, m_em, Classical.not_not, Nat.reduceBEq, Nat.reduceLT, Nat.reduceLeDiff, Nat.reduceAdd, cond_true, cond_false, Bool.or_false, Bool.false_or, Bool.or_true, Bool.true_or, beq_iff_eq, true_and, and_true, true_or, or_true, forall_const, not_true_eq_false, not_false_eq_true, false_implies, implies_true, Nat.reduceEqDiff, List.length_nil, List.length_cons]
  refine q9_rests (hl.far k1.2) hA.1.1.1 (fun g2 k2 => ?_)
  simp only [e_go, e_ald0, e_ald1, e_ald2, e_ild3, e_inc3, e_nl2, e_slen, e_sald, e_push, e_bin, e_lbin, e_lshl, e_i2l, e_callV1, e_callV2, e_callV3, e_callV4, e_pushs, e_icmp, e_goto, eq_self, ob_0, ob_66, rLaw_807, rLaw_808, rLaw_809, rLaw_810, rLaw_811, rLaw_812, rLaw_813, rLaw_816, rLaw_817, rLaw_818, rLaw_819, rLaw_820, rLaw_821, rLaw_822, rLaw_825, w1, w2, w3, z1, z2, z3, y1, y2, y3, m_b0, m_b01, m_b1, m_em, Classical.not_not, Nat.reduceBEq, Nat.reduceLT, Nat.reduceLeDiff, Nat.reduceAdd, cond_true, cond_false, Bool.or_false, Bool.false_or, Bool.or_true, Bool.true_or, beq_iff_eq, true_and, and_true, true_or, or_true, forall_const, not_true_eq_false, not_false_eq_true, false_implies, implies_true, Nat.reduceEqDiff, List.length_nil, List.length_cons]
  exact hb g2 _ ⟨k1.1.far k2.2, k2.1, hA.rests' _⟩
theorem lw_c830 (hJ : m_cl (kLaw L xs) q J) (hL : L ≤ 256) (h0 : 0 ≤ i) (hi : i + 4 ≤ L) (hg : lw_I g A) (hb : ∀ g A, lw_I g A → J 915 (lw_l i) [] g) : J 830 (lw_l i) [] g := by
  obtain ⟨hc, hl, hA⟩ := hg
  have w1 : m_wrap (i + 1) = i + 1 := m_w1 (by omega) (by omega)
  have w2 : m_wrap (i + 2) = i + 2 := m_w1 (by omega) (by omega)
  have w3 : m_wrap (i + 3) = i + 3 := m_w1 (by omega) (by omega)
  have z1 : 0 ≤ i + 1 := by omega
  have z2 : 0 ≤ i + 2 := by omega
  have z3 : 0 ≤ i + 3 := by omega
  have y1 : i + 1 < (L : Int) := by omega
  have y2 : i + 2 < (L : Int) := by omega
  have y3 : i + 3 < (L : Int) := by omega
  refine m_run_ok hJ (fun pc => pc == 915) 18 _ _ _ _ ?_
  simp only [e_go, e_ald0, e_ald1, e_ald2, e_ild3, e_inc3, e_nl2, e_slen, e_sald, e_push, e_bin, e_lbin, e_lshl, e_i2l, e_callV1, e_callV2, e_callV3, e_callV4, e_pushs, e_icmp, e_goto, eq_self, ob_0, ob_66, rLaw_830, rLaw_831, rLaw_832, rLaw_833, rLaw_834, rLaw_835, rLaw_836, rLaw_839, rLaw_840, rLaw_841, rLaw_842, rLaw_843, rLaw_844, rLaw_845, rLaw_848, w1, w2, w3, z1, z2, z3, y1, y2, y3, m_b0, m_b01, m_b1, m_em, Classical.not_not, Nat.reduceBEq, Nat.reduceLT, Nat.reduceLeDiff, Nat.reduceAdd, cond_true, cond_false, Bool.or_false, Bool.false_or, Bool.or_true, Bool.true_or, beq_iff_eq, true_and, and_true, true_or, or_true, forall_const, not_true_eq_false, not_false_eq_true, false_implies, implies_true, Nat.reduceEqDiff, List.length_nil, List.length_cons]
  refine q8_row hc hA.2.2.2 (fun g1 k1 => ?_)
  simp only [e_go, e_ald0, e_ald1, e_ald2, e_ild3, e_inc3, e_nl2, e_slen, e_sald, e_push, e_bin, e_lbin, e_lshl, e_i2l, e_callV1, e_callV2, e_callV3, e_callV4, e_pushs, e_icmp, e_goto, eq_self, ob_0, ob_66, rLaw_830, rLaw_831, rLaw_832, rLaw_833, rLaw_834, rLaw_835, rLaw_836, rLaw_839, rLaw_840, rLaw_841, rLaw_842, rLaw_843, rLaw_844, rLaw_845, rLaw_848, w1, w2, w3, z1, z2, z3, y1, y2, y3, m_b0, m_b01, m_b1, m_em, Classical.not_not, Nat.reduceBEq, Nat.reduceLT, Nat.reduceLeDiff, Nat.reduceAdd, cond_true, cond_false, Bool.or_false, Bool.false_or, Bool.or_true, Bool.true_or, beq_iff_eq, true_and, and_true, true_or, or_true, forall_const, not_true_eq_false, not_false_eq_true, false_implies, implies_true, Nat.reduceEqDiff, List.length_nil, List.length_cons]
  refine q9_row (hl.far k1.2) hA.2.2.2 (fun g2 k2 => ?_)
  simp only [e_go, e_ald0, e_ald1, e_ald2, e_ild3, e_inc3, e_nl2, e_slen, e_sald, e_push, e_bin, e_lbin, e_lshl, e_i2l, e_callV1, e_callV2, e_callV3, e_callV4, e_pushs, e_icmp, e_goto, eq_self, ob_0, ob_66, rLaw_830, rLaw_831, rLaw_832, rLaw_833, rLaw_834, rLaw_835, rLaw_836, rLaw_839, rLaw_840, rLaw_841, rLaw_842, rLaw_843, rLaw_844, rLaw_845, rLaw_848, w1, w2, w3, z1, z2, z3, y1, y2, y3, m_b0, m_b01, m_b1, m_em, Classical.not_not, Nat.reduceBEq, Nat.reduceLT, Nat.reduceLeDiff, Nat.reduceAdd, cond_true, cond_false, Bool.or_false, Bool.false_or, Bool.or_true, Bool.true_or, beq_iff_eq, true_and, and_true, true_or, or_true, forall_const, not_true_eq_false, not_false_eq_true, false_implies, implies_true, Nat.reduceEqDiff, List.length_nil, List.length_cons]
  exact hb g2 _ ⟨k1.1.far k2.2, k2.1, hA.row' _⟩
theorem lw_c853 (hJ : m_cl (kLaw L xs) q J) (hL : L ≤ 256) (h0 : 0 ≤ i) (hi : i + 4 ≤ L) (hg : lw_I g A) (hb : ∀ g A, lw_I g A → J 915 (lw_l i) [] g) : J 853 (lw_l i) [] g := by
  obtain ⟨hc, hl, hA⟩ := hg
  have w1 : m_wrap (i + 1) = i + 1 := m_w1 (by omega) (by omega)
  have w2 : m_wrap (i + 2) = i + 2 := m_w1 (by omega) (by omega)
  have w3 : m_wrap (i + 3) = i + 3 := m_w1 (by omega) (by omega)
  have z1 : 0 ≤ i + 1 := by omega
  have z2 : 0 ≤ i + 2 := by omega
  have z3 : 0 ≤ i + 3 := by omega
  have y1 : i + 1 < (L : Int) := by omega
  have y2 : i + 2 < (L : Int) := by omega
  have y3 : i + 3 < (L : Int) := by omega
  refine m_run_ok hJ (fun pc => pc == 915) 8 _ _ _ _ ?_
  simp only [e_go, e_ald0, e_ald1, e_ald2, e_ild3, e_inc3, e_nl2, e_slen, e_sald, e_push, e_bin, e_lbin, e_lshl, e_i2l, e_callV1, e_callV2, e_callV3, e_callV4, e_pushs, e_icmp, e_goto, eq_self, ob_0, ob_66, rLaw_853, rLaw_854, rLaw_857, rLaw_858, rLaw_861, w1, w2, w3, z1, z2, z3, y1, y2, y3, m_b0, m_b01, m_b1, m_em, Classical.not_not, Nat.reduceBEq, Nat.reduceLT, Nat.reduceLeDiff, Nat.reduceAdd, cond_true, cond_false, Bool.or_false, Bool.false_or, Bool.or_true, Bool.true_or, beq_iff_eq, true_and, and_true, true_or, or_true, forall_const, not_true_eq_false, not_false_eq_true, false_implies, implies_true, Nat.reduceEqDiff, List.length_nil, List.length_cons]
  refine q8_judge hc hA.1.1.1 hA.2.2.2 (fun g1 k1 => ?_)
  simp only [e_go, e_ald0, e_ald1, e_ald2, e_ild3, e_inc3, e_nl2, e_slen, e_sald, e_push, e_bin, e_lbin, e_lshl, e_i2l, e_callV1, e_callV2, e_callV3, e_callV4, e_pushs, e_icmp, e_goto, eq_self, ob_0, ob_66, rLaw_853, rLaw_854, rLaw_857, rLaw_858, rLaw_861, w1, w2, w3, z1, z2, z3, y1, y2, y3, m_b0, m_b01, m_b1, m_em, Classical.not_not, Nat.reduceBEq, Nat.reduceLT, Nat.reduceLeDiff, Nat.reduceAdd, cond_true, cond_false, Bool.or_false, Bool.false_or, Bool.or_true, Bool.true_or, beq_iff_eq, true_and, and_true, true_or, or_true, forall_const, not_true_eq_false, not_false_eq_true, false_implies, implies_true, Nat.reduceEqDiff, List.length_nil, List.length_cons]
  refine q9_judge (hl.far k1.2) hA.1.1.1 hA.2.2.2 (fun g2 k2 => ?_)
  simp only [e_go, e_ald0, e_ald1, e_ald2, e_ild3, e_inc3, e_nl2, e_slen, e_sald, e_push, e_bin, e_lbin, e_lshl, e_i2l, e_callV1, e_callV2, e_callV3, e_callV4, e_pushs, e_icmp, e_goto, eq_self, ob_0, ob_66, rLaw_853, rLaw_854, rLaw_857, rLaw_858, rLaw_861, w1, w2, w3, z1, z2, z3, y1, y2, y3, m_b0, m_b01, m_b1, m_em, Classical.not_not, Nat.reduceBEq, Nat.reduceLT, Nat.reduceLeDiff, Nat.reduceAdd, cond_true, cond_false, Bool.or_false, Bool.false_or, Bool.or_true, Bool.true_or, beq_iff_eq, true_and, and_true, true_or, or_true, forall_const, not_true_eq_false, not_false_eq_true, false_implies, implies_true, Nat.reduceEqDiff, List.length_nil, List.length_cons]
  exact hb g2 _ ⟨k1.1.far k2.2, k2.1, hA.judge'⟩
theorem lw_c866 (hJ : m_cl (kLaw L xs) q J) (hL : L ≤ 256) (h0 : 0 ≤ i) (hi : i + 4 ≤ L) (hg : lw_I g A) (hb : ∀ g A, lw_I g A → J 915 (lw_l i) [] g) : J 866 (lw_l i) [] g := by
  obtain ⟨hc, hl, hA⟩ := hg
  have w1 : m_wrap (i + 1) = i + 1 := m_w1 (by omega) (by omega)
  have w2 : m_wrap (i + 2) = i + 2 := m_w1 (by omega) (by omega)
  have w3 : m_wrap (i + 3) = i + 3 := m_w1 (by omega) (by omega)
  have z1 : 0 ≤ i + 1 := by omega
  have z2 : 0 ≤ i + 2 := by omega
  have z3 : 0 ≤ i + 3 := by omega
  have y1 : i + 1 < (L : Int) := by omega
  have y2 : i + 2 < (L : Int) := by omega
  have y3 : i + 3 < (L : Int) := by omega
  refine m_run_ok hJ (fun pc => pc == 915) 8 _ _ _ _ ?_
  simp only [e_go, e_ald0, e_ald1, e_ald2, e_ild3, e_inc3, e_nl2, e_slen, e_sald, e_push, e_bin, e_lbin, e_lshl, e_i2l, e_callV1, e_callV2, e_callV3, e_callV4, e_pushs, e_icmp, e_goto, eq_self, ob_0, ob_66, rLaw_866, rLaw_867, rLaw_870, rLaw_871, rLaw_874, w1, w2, w3, z1, z2, z3, y1, y2, y3, m_b0, m_b01, m_b1, m_em, Classical.not_not, Nat.reduceBEq, Nat.reduceLT, Nat.reduceLeDiff, Nat.reduceAdd, cond_true, cond_false, Bool.or_false, Bool.false_or, Bool.or_true, Bool.true_or, beq_iff_eq, true_and, and_true, true_or, or_true, forall_const, not_true_eq_false, not_false_eq_true, false_implies, implies_true, Nat.reduceEqDiff, List.length_nil, List.length_cons]
  refine q8_image hc  (fun g1 k1 => ?_)
  simp only [e_go, e_ald0, e_ald1, e_ald2, e_ild3, e_inc3, e_nl2, e_slen, e_sald, e_push, e_bin, e_lbin, e_lshl, e_i2l, e_callV1, e_callV2, e_callV3, e_callV4, e_pushs, e_icmp, e_goto, eq_self, ob_0, ob_66, rLaw_866, rLaw_867, rLaw_870, rLaw_871, rLaw_874, w1, w2, w3, z1, z2, z3, y1, y2, y3, m_b0, m_b01, m_b1, m_em, Classical.not_not, Nat.reduceBEq, Nat.reduceLT, Nat.reduceLeDiff, Nat.reduceAdd, cond_true, cond_false, Bool.or_false, Bool.false_or, Bool.or_true, Bool.true_or, beq_iff_eq, true_and, and_true, true_or, or_true, forall_const, not_true_eq_false, not_false_eq_true, false_implies, implies_true, Nat.reduceEqDiff, List.length_nil, List.length_cons]
  refine q9_image (hl.far k1.2)  (fun g2 k2 => ?_)
  simp only [e_go, e_ald0, e_ald1, e_ald2, e_ild3, e_inc3, e_nl2, e_slen, e_sald, e_push, e_bin, e_lbin, e_lshl, e_i2l, e_callV1, e_callV2, e_callV3, e_callV4, e_pushs, e_icmp, e_goto, eq_self, ob_0, ob_66, rLaw_866, rLaw_867, rLaw_870, rLaw_871, rLaw_874, w1, w2, w3, z1, z2, z3, y1, y2, y3, m_b0, m_b01, m_b1, m_em, Classical.not_not, Nat.reduceBEq, Nat.reduceLT, Nat.reduceLeDiff, Nat.reduceAdd, cond_true, cond_false, Bool.or_false, Bool.false_or, Bool.or_true, Bool.true_or, beq_iff_eq, true_and, and_true, true_or, or_true, forall_const, not_true_eq_false, not_false_eq_true, false_implies, implies_true, Nat.reduceEqDiff, List.length_nil, List.length_cons]
  exact hb g2 _ ⟨k1.1.far k2.2, k2.1, hA.image'⟩
theorem lw_c879 (hJ : m_cl (kLaw L xs) q J) (hL : L ≤ 256) (h0 : 0 ≤ i) (hi : i + 4 ≤ L) (hg : lw_I g A) (hb : ∀ g A, lw_I g A → J 915 (lw_l i) [] g) : J 879 (lw_l i) [] g := by
  obtain ⟨hc, hl, hA⟩ := hg
  have w1 : m_wrap (i + 1) = i + 1 := m_w1 (by omega) (by omega)
  have w2 : m_wrap (i + 2) = i + 2 := m_w1 (by omega) (by omega)
  have w3 : m_wrap (i + 3) = i + 3 := m_w1 (by omega) (by omega)
  have z1 : 0 ≤ i + 1 := by omega
  have z2 : 0 ≤ i + 2 := by omega
  have z3 : 0 ≤ i + 3 := by omega
  have y1 : i + 1 < (L : Int) := by omega
  have y2 : i + 2 < (L : Int) := by omega
  have y3 : i + 3 < (L : Int) := by omega
  refine m_run_ok hJ (fun pc => pc == 915) 8 _ _ _ _ ?_
  simp only [e_go, e_ald0, e_ald1, e_ald2, e_ild3, e_inc3, e_nl2, e_slen, e_sald, e_push, e_bin, e_lbin, e_lshl, e_i2l, e_callV1, e_callV2, e_callV3, e_callV4, e_pushs, e_icmp, e_goto, eq_self, ob_0, ob_66, rLaw_879, rLaw_880, rLaw_883, rLaw_884, rLaw_887, w1, w2, w3, z1, z2, z3, y1, y2, y3, m_b0, m_b01, m_b1, m_em, Classical.not_not, Nat.reduceBEq, Nat.reduceLT, Nat.reduceLeDiff, Nat.reduceAdd, cond_true, cond_false, Bool.or_false, Bool.false_or, Bool.or_true, Bool.true_or, beq_iff_eq, true_and, and_true, true_or, or_true, forall_const, not_true_eq_false, not_false_eq_true, false_implies, implies_true, Nat.reduceEqDiff, List.length_nil, List.length_cons]
  refine q8_on hc hA.2.1.1 (fun g1 k1 => ?_)
  simp only [e_go, e_ald0, e_ald1, e_ald2, e_ild3, e_inc3, e_nl2, e_slen, e_sald, e_push, e_bin, e_lbin, e_lshl, e_i2l, e_callV1, e_callV2, e_callV3, e_callV4, e_pushs, e_icmp, e_goto, eq_self, ob_0, ob_66, rLaw_879, rLaw_880, rLaw_883, rLaw_884, rLaw_887, w1, w2, w3, z1, z2, z3, y1, y2, y3, m_b0, m_b01, m_b1, m_em, Classical.not_not, Nat.reduceBEq, Nat.reduceLT, Nat.reduceLeDiff, Nat.reduceAdd, cond_true, cond_false, Bool.or_false, Bool.false_or, Bool.or_true, Bool.true_or, beq_iff_eq, true_and, and_true, true_or, or_true, forall_const, not_true_eq_false, not_false_eq_true, false_implies, implies_true, Nat.reduceEqDiff, List.length_nil, List.length_cons]
  refine q9_on (hl.far k1.2) hA.2.1.1 (fun g2 k2 => ?_)
  simp only [e_go, e_ald0, e_ald1, e_ald2, e_ild3, e_inc3, e_nl2, e_slen, e_sald, e_push, e_bin, e_lbin, e_lshl, e_i2l, e_callV1, e_callV2, e_callV3, e_callV4, e_pushs, e_icmp, e_goto, eq_self, ob_0, ob_66, rLaw_879, rLaw_880, rLaw_883, rLaw_884, rLaw_887, w1, w2, w3, z1, z2, z3, y1, y2, y3, m_b0, m_b01, m_b1, m_em, Classical.not_not, Nat.reduceBEq, Nat.reduceLT, Nat.reduceLeDiff, Nat.reduceAdd, cond_true, cond_false, Bool.or_false, Bool.false_or, Bool.or_true, Bool.true_or, beq_iff_eq, true_and, and_true, true_or, or_true, forall_const, not_true_eq_false, not_false_eq_true, false_implies, implies_true, Nat.reduceEqDiff, List.length_nil, List.length_cons]
  exact hb g2 _ ⟨k1.1.far k2.2, k2.1, hA.on'⟩
theorem lw_c892 (hJ : m_cl (kLaw L xs) q J) (hL : L ≤ 256) (h0 : 0 ≤ i) (hi : i + 4 ≤ L) (hg : lw_I g A) (hb : ∀ g A, lw_I g A → J 915 (lw_l i) [] g) : J 892 (lw_l i) [] g := by
  obtain ⟨hc, hl, hA⟩ := hg
  have w1 : m_wrap (i + 1) = i + 1 := m_w1 (by omega) (by omega)
  have w2 : m_wrap (i + 2) = i + 2 := m_w1 (by omega) (by omega)
  have w3 : m_wrap (i + 3) = i + 3 := m_w1 (by omega) (by omega)
  have z1 : 0 ≤ i + 1 := by omega
  have z2 : 0 ≤ i + 2 := by omega
  have z3 : 0 ≤ i + 3 := by omega
  have y1 : i + 1 < (L : Int) := by omega
  have y2 : i + 2 < (L : Int) := by omega
  have y3 : i + 3 < (L : Int) := by omega
  refine m_run_ok hJ (fun pc => pc == 915) 18 _ _ _ _ ?_
  simp only [e_go, e_ald0, e_ald1, e_ald2, e_ild3, e_inc3, e_nl2, e_slen, e_sald, e_push, e_bin, e_lbin, e_lshl, e_i2l, e_callV1, e_callV2, e_callV3, e_callV4, e_pushs, e_icmp, e_goto, eq_self, ob_0, ob_66, rLaw_892, rLaw_893, rLaw_894, rLaw_895, rLaw_896, rLaw_897, rLaw_898, rLaw_901, rLaw_902, rLaw_903, rLaw_904, rLaw_905, rLaw_906, rLaw_907, rLaw_910, w1, w2, w3, z1, z2, z3, y1, y2, y3, m_b0, m_b01, m_b1, m_em, Classical.not_not, Nat.reduceBEq, Nat.reduceLT, Nat.reduceLeDiff, Nat.reduceAdd, cond_true, cond_false, Bool.or_false, Bool.false_or, Bool.or_true, Bool.true_or, beq_iff_eq, true_and, and_true, true_or, or_true, forall_const, not_true_eq_false, not_false_eq_true, false_implies, implies_true, Nat.reduceEqDiff, List.length_nil, List.length_cons]
  refine q8_count hc hA.1.1.1 (fun g1 k1 => ?_)
  simp only [e_go, e_ald0, e_ald1, e_ald2, e_ild3, e_inc3, e_nl2, e_slen, e_sald, e_push, e_bin, e_lbin, e_lshl, e_i2l, e_callV1, e_callV2, e_callV3, e_callV4, e_pushs, e_icmp, e_goto, eq_self, ob_0, ob_66, rLaw_892, rLaw_893, rLaw_894, rLaw_895, rLaw_896, rLaw_897, rLaw_898, rLaw_901, rLaw_902, rLaw_903, rLaw_904, rLaw_905, rLaw_906, rLaw_907, rLaw_910, w1, w2, w3, z1, z2, z3, y1, y2, y3, m_b0, m_b01, m_b1, m_em, Classical.not_not, Nat.reduceBEq, Nat.reduceLT, Nat.reduceLeDiff, Nat.reduceAdd, cond_true, cond_false, Bool.or_false, Bool.false_or, Bool.or_true, Bool.true_or, beq_iff_eq, true_and, and_true, true_or, or_true, forall_const, not_true_eq_false, not_false_eq_true, false_implies, implies_true, Nat.reduceEqDiff, List.length_nil, List.length_cons]
  refine q9_count (hl.far k1.2) hA.1.1.1 (fun g2 k2 => ?_)
  simp only [e_go, e_ald0, e_ald1, e_ald2, e_ild3, e_inc3, e_nl2, e_slen, e_sald, e_push, e_bin, e_lbin, e_lshl, e_i2l, e_callV1, e_callV2, e_callV3, e_callV4, e_pushs, e_icmp, e_goto, eq_self, ob_0, ob_66, rLaw_892, rLaw_893, rLaw_894, rLaw_895, rLaw_896, rLaw_897, rLaw_898, rLaw_901, rLaw_902, rLaw_903, rLaw_904, rLaw_905, rLaw_906, rLaw_907, rLaw_910, w1, w2, w3, z1, z2, z3, y1, y2, y3, m_b0, m_b01, m_b1, m_em, Classical.not_not, Nat.reduceBEq, Nat.reduceLT, Nat.reduceLeDiff, Nat.reduceAdd, cond_true, cond_false, Bool.or_false, Bool.false_or, Bool.or_true, Bool.true_or, beq_iff_eq, true_and, and_true, true_or, or_true, forall_const, not_true_eq_false, not_false_eq_true, false_implies, implies_true, Nat.reduceEqDiff, List.length_nil, List.length_cons]
  exact hb g2 _ ⟨k1.1.far k2.2, k2.1, hA⟩
theorem lw_step (hJ : m_cl (kLaw L xs) q J) (hE : ∀ ls g, J 922 ls [.inl 1] g) (hL : L ≤ 256) (h0 : 0 ≤ i) (hg : lw_I g A) (hb : i + 4 ≤ L → ∀ g A, lw_I g A → J 18 (lw_l (i + 4)) [] g) (hx : i ≤ 260) : J 18 (lw_l i) [] g := by
  have hb2 : i + 4 ≤ L → ∀ g A, lw_I g A → J 915 (lw_l i) [] g := by
    intro hi g A hg
    refine m_run_ok hJ (fun pc => pc == 18) 4 _ _ _ _ ?_
    have w4 : m_wrap (i + 4) = i + 4 := m_w1 (by omega) (by omega)
    simp only [e_go, e_ald0, e_ald1, e_ald2, e_ild3, e_inc3, e_nl2, e_slen, e_sald, e_push, e_bin, e_lbin, e_lshl, e_i2l, e_callV1, e_callV2, e_callV3, e_callV4, e_pushs, e_icmp, e_goto, eq_self, ob_0, ob_66, rLaw_915, rLaw_918, w4, m_b0, m_b01, m_b1, m_em, Classical.not_not, Nat.reduceBEq, Nat.reduceLT, Nat.reduceLeDiff, Nat.reduceAdd, cond_true, cond_false, Bool.or_false, Bool.false_or, Bool.or_true, Bool.true_or, beq_iff_eq, true_and, and_true, true_or, or_true, forall_const, not_true_eq_false, not_false_eq_true, false_implies, implies_true, Nat.reduceEqDiff, List.length_nil, List.length_cons]
    exact hb hi g A hg
  refine m_run_ok hJ (fun pc => pc == 922 || pc == 32) 20 _ _ _ _ ?_
  have w4 : m_wrap ((L : Int) - 4) = (L : Int) - 4 := m_w1 (by omega) (by omega)
  simp only [e_go, e_ald0, e_ald1, e_ald2, e_ild3, e_inc3, e_nl2, e_slen, e_sald, e_push, e_bin, e_lbin, e_lshl, e_i2l, e_callV1, e_callV2, e_callV3, e_callV4, e_pushs, e_icmp, e_goto, eq_self, ob_0, ob_66, rLaw_18, rLaw_19, rLaw_20, rLaw_21, rLaw_22, rLaw_23, rLaw_26, rLaw_27, rLaw_28, rLaw_29, rLaw_31, rLaw_921, w4, h0, m_b0, m_b01, m_b1, m_em, Classical.not_not, Nat.reduceBEq, Nat.reduceLT, Nat.reduceLeDiff, Nat.reduceAdd, cond_true, cond_false, Bool.or_false, Bool.false_or, Bool.or_true, Bool.true_or, beq_iff_eq, true_and, and_true, true_or, or_true, forall_const, not_true_eq_false, not_false_eq_true, false_implies, implies_true, Nat.reduceEqDiff, List.length_nil, List.length_cons]
  refine ⟨fun _ => hE _ _, fun hn => ⟨by omega, ?_⟩⟩
  have hi : i + 4 ≤ (L : Int) := by omega
  refine m_run_ok hJ (fun pc => true) 1 _ _ _ _ ?_
  rw [rLaw_32, e_sw]
  refine m_sw_all ?_ _ ?_
  · exact hb2 hi g A hg
  · intro c hc
    simp only [List.mem_cons, List.not_mem_nil, or_false] at hc
    rcases hc with rfl | rfl | rfl | rfl | rfl | rfl | rfl | rfl | rfl | rfl | rfl | rfl | rfl | rfl | rfl | rfl | rfl | rfl | rfl | rfl | rfl | rfl | rfl | rfl | rfl | rfl | rfl | rfl | rfl | rfl | rfl
    all_goals first | exact lw_c172 hJ hL h0 hi hg (hb2 hi) | exact lw_c235 hJ hL h0 hi hg (hb2 hi) | exact lw_c248 hJ hL h0 hi hg (hb2 hi) | exact lw_c281 hJ hL h0 hi hg (hb2 hi) | exact lw_c314 hJ hL h0 hi hg (hb2 hi) | exact lw_c347 hJ hL h0 hi hg (hb2 hi) | exact lw_c380 hJ hL h0 hi hg (hb2 hi) | exact lw_c423 hJ hL h0 hi hg (hb2 hi) | exact lw_c436 hJ hL h0 hi hg (hb2 hi) | exact lw_c459 hJ hL h0 hi hg (hb2 hi) | exact lw_c482 hJ hL h0 hi hg (hb2 hi) | exact lw_c505 hJ hL h0 hi hg (hb2 hi) | exact lw_c518 hJ hL h0 hi hg (hb2 hi) | exact lw_c541 hJ hL h0 hi hg (hb2 hi) | exact lw_c564 hJ hL h0 hi hg (hb2 hi) | exact lw_c577 hJ hL h0 hi hg (hb2 hi) | exact lw_c610 hJ hL h0 hi hg (hb2 hi) | exact lw_c623 hJ hL h0 hi hg (hb2 hi) | exact lw_c646 hJ hL h0 hi hg (hb2 hi) | exact lw_c659 hJ hL h0 hi hg (hb2 hi) | exact lw_c672 hJ hL h0 hi hg (hb2 hi) | exact lw_c685 hJ hL h0 hi hg (hb2 hi) | exact lw_c728 hJ hL h0 hi hg (hb2 hi) | exact lw_c771 hJ hL h0 hi hg (hb2 hi) | exact lw_c784 hJ hL h0 hi hg (hb2 hi) | exact lw_c807 hJ hL h0 hi hg (hb2 hi) | exact lw_c830 hJ hL h0 hi hg (hb2 hi) | exact lw_c853 hJ hL h0 hi hg (hb2 hi) | exact lw_c866 hJ hL h0 hi hg (hb2 hi) | exact lw_c879 hJ hL h0 hi hg (hb2 hi) | exact lw_c892 hJ hL h0 hi hg (hb2 hi)
theorem lw_loop (hJ : m_cl (kLaw L xs) q J) (hE : ∀ ls g, J 922 ls [.inl 1] g) (hL : L ≤ 256) : ∀ (n : Nat) (i : Int) (g A : m_G), 0 ≤ i → i ≤ 260 → (L : Int) < i + 4 + n → lw_I g A → J 18 (lw_l i) [] g := by
  intro n
  induction n with
  | zero => exact fun i g A h0 hx hn hg => lw_step hJ hE hL h0 hg (fun z => by omega) hx
  | succ n ih => exact fun i g A h0 hx hn hg => lw_step hJ hE hL h0 hg (fun z g A hg => ih (i + 4) g A (by omega) (by omega) (by omega) hg) hx
end
