set_option maxRecDepth 20000
set_option maxHeartbeats 2000000
/-- car c stands in the reference's rows at place n -/
def r_c (g : m_G) (n : Nat) (c : d_C) : Prop := g 74 n = c.1 ∧ g 75 n = c.2.1 ∧ g 76 n = c.2.2.1 ∧ g 77 n = c.2.2.2
theorem m_ix60 {l k : Nat} (hl : l < 6) (hk : k ≤ 61) : m_wrap (((60 * l : Nat) : Int) + (k : Int)) = ((60 * l + k : Nat) : Int) := by
  rw [m_w2 (by omega) (by omega)]; omega
theorem p9_leaves {l now : Nat} {s : Nat → Int} {n0 : Nat} {σ : d_S} {g : m_G} {q : m_Post} {c : d_C} {r : List d_C} (hn : now < 7200) (hW : h_W s) (hR : r_R g σ) (hI : d_I s n0 σ) (hn0 : n0 ≤ 7200) (hl : l < 6) (hq : σ.1 l = c :: r)
    (h : ∀ g', r_R g' (d_leave l now σ) → r_F g g' → q none g') : wX9_leaves.1 [.inr (.inr 66), .inl l, .inl now] g q := by
  have hz := hW.1
  have hlen := d_len hW hI
  obtain ⟨⟨r1, r2, r3, r4, r5⟩, r6⟩ := hR.1 l hl
  have i2 := (hI.1 l hl).2.1
  have hlr := hlen l hl
  rw [hq] at r1 r6 i2 hlr
  simp only [List.length_cons] at r1 hlr
  have hc0 := r6 0 c rfl
  rw [Nat.add_zero] at hc0
  have hci := i2 c List.mem_cons_self
  obtain ⟨T, hT⟩ : ∃ T : Nat, c.1 = (T : Int) := ⟨c.1.toNat, by have := hci.1; omega⟩
  have hT5 : T < 5 := by have := hci.1; omega
  have hX := hI.2.2
  refine m_wp_of (by simp [m_fit]) (fun J hJ => ?_)
  simp only [m_ini, Nat.reduceSub, List.replicate]
  have ix : m_wrap (60 * (l : Int)) = ((60 * l : Nat) : Int) := by
    rw [m_w2 (by omega) (by omega)]; omega
  obtain ⟨g1, hg1⟩ : ∃ g1 : m_G, g1 = m_up (m_up (m_up (m_up (m_up g 81 T (m_wrap (g 81 T + m_wrap (now - g 79 l)))) 83 T (m_wrap (g 83 T + 1))) 86 l (m_wrap (g 86 l + 1))) 66 25 now) 78 l (r.length : Int) := ⟨_, rfl⟩
  -- the end
  have fin : ∀ g' : m_G, (∀ j, j ≠ 74 → j ≠ 75 → j ≠ 76 → j ≠ 77 → g' j = g1 j) → (∀ A, (A = 74 ∨ A = 75 ∨ A = 76 ∨ A = 77) → ∀ n, (n < 60 * l ∨ 60 * l + 60 ≤ n) → g' A n = g1 A n) → (∀ k x, r[k]? = some x → r_c g' (60 * l + k) x) → q none (m_up g' 79 l (-9)) := by
    intro g' h0 h1 h2
    have ne : ∀ j, j ≠ 79 → m_up g' 79 l (-9) j = g' j := fun j hj => m_up_ne hj
    refine h _ ?_ ⟨fun j hj => ?_, fun k k1 k2 k3 => ?_⟩
    · obtain ⟨x1, x2, x3, x4, x5⟩ := hR
      unfold d_leave
      rw [hq]
      simp only
      unfold r_R
      rw [hT, Int.toNat_natCast]
      simp only
      rw [m_up_eq, ne 78 (by decide), ne 80 (by decide), ne 85 (by decide), ne 86 (by decide), ne 74 (by decide), ne 75 (by decide), ne 76 (by decide), ne 77 (by decide), ne 81 (by decide), ne 82 (by decide), ne 83 (by decide), ne 84 (by decide), ne 66 (by decide)]
      rw [h0 78 (by decide) (by decide) (by decide) (by decide), h0 79 (by decide) (by decide) (by decide) (by decide), h0 80 (by decide) (by decide) (by decide) (by decide), h0 85 (by decide) (by decide) (by decide) (by decide), h0 86 (by decide) (by decide) (by decide) (by decide), h0 81 (by decide) (by decide) (by decide) (by decide), h0 82 (by decide) (by decide) (by decide) (by decide), h0 83 (by decide) (by decide) (by decide) (by decide), h0 84 (by decide) (by decide) (by decide) (by decide), h0 66 (by decide) (by decide) (by decide) (by decide)]
      rw [hg1]
      simp only [m_up_ne, m_up_eq, ne_eq, Nat.reduceEqDiff, not_false_eq_true, not_true_eq_false]
      refine ⟨fun a ha => ⟨?_, fun i x hx => ?_⟩, fun t ht => ?_, ?_, ?_, ?_⟩
      · obtain ⟨⟨b1, b2, b3, b4, b5⟩, b6⟩ := x1 a ha
        by_cases e : a = l
        · subst e
          unfold d_uq
          rw [if_pos rfl, m_us, m_us, m_us, m_us, m_us, b5]
          exact ⟨rfl, rfl, b3, b4, rfl⟩
        · unfold d_uq
          rw [if_neg e, m_un e, m_un e, m_un e, m_un e, m_un e]
          exact ⟨b1, b2, b3, b4, b5⟩
      · obtain ⟨-, b6⟩ := x1 a ha
        by_cases e : a = l
        · subst e
          unfold d_uq at hx
          rw [if_pos rfl] at hx
          exact h2 i x hx
        · unfold d_uq at hx
          rw [if_neg e] at hx
          have hi := (List.getElem?_eq_some_iff.mp hx).1
          have := hlen a ha
          have hout : 60 * a + i < 60 * l ∨ 60 * l + 60 ≤ 60 * a + i := by omega
          have b7 := b6 i x hx
          rw [h1 74 (by simp) _ hout, h1 75 (by simp) _ hout, h1 76 (by simp) _ hout, h1 77 (by simp) _ hout, hg1]
          simp only [m_up_ne, m_up_eq, ne_eq, Nat.reduceEqDiff, not_false_eq_true, not_true_eq_false]
          exact b7
      · obtain ⟨b1, b2, b3, b4⟩ := x2 t ht
        by_cases e : t = T
        · subst e
          rw [m_us, m_us, m_us, m_us, b1, b2, r2]
          exact ⟨rfl, rfl, b3, b4⟩
        · rw [m_un e, m_un e, m_un e, m_un e]
          exact ⟨b1, b2, b3, b4⟩
      · rw [m_un (by decide), m_un (by decide)]; exact x3
      · rw [m_un (by decide), m_un (by decide)]; exact x4
      · rw [m_us, m_us]
    · rw [ne j (by omega), h0 j (by omega) (by omega) (by omega) (by omega), hg1]
      rw [m_up_ne (by omega), m_up_ne (by omega), m_up_ne (by omega), m_up_ne (by omega), m_up_ne (by omega)]
    · rw [ne 66 (by decide), h0 66 (by decide) (by decide) (by decide) (by decide), hg1]
      rw [m_up_ne (by decide), m_up_eq, m_un k3, m_up_ne (by decide), m_up_ne (by decide), m_up_ne (by decide)]
  have loop : ∀ (m i : Nat) (g' : m_G), i + m = r.length → (∀ j, j ≠ 74 → j ≠ 75 → j ≠ 76 → j ≠ 77 → g' j = g1 j) → (∀ A, (A = 74 ∨ A = 75 ∨ A = 76 ∨ A = 77) → ∀ n, (n < 60 * l ∨ 60 * l + 60 ≤ n) → g' A n = g1 A n) → (∀ k x, k < i → r[k]? = some x → r_c g' (60 * l + k) x) → (∀ k x, i ≤ k → r[k]? = some x → r_c g' (60 * l + (k + 1)) x) → J 70 [some (.inr (.inr 66)), some (.inl l), some (.inl now), some (.inl ((60 * l : Nat) : Int)), some (.inl i)] [] g' := by
    intro m
    induction m with
    | zero =>
      intro i g' hi h0 h1 h2 h3
      refine m_run_ok hJ (fun pc => pc == 70) 60 _ _ _ _ ?_
      simp only [e_go, rX9_leaves_0, rX9_leaves_2, rX9_leaves_3, rX9_leaves_4, rX9_leaves_5, rX9_leaves_6, rX9_leaves_9, rX9_leaves_10, rX9_leaves_13, rX9_leaves_14, rX9_leaves_15, rX9_leaves_16, rX9_leaves_17, rX9_leaves_18, rX9_leaves_19, rX9_leaves_22, rX9_leaves_23, rX9_leaves_24, rX9_leaves_25, rX9_leaves_26, rX9_leaves_27, rX9_leaves_28, rX9_leaves_31, rX9_leaves_32, rX9_leaves_35, rX9_leaves_36, rX9_leaves_37, rX9_leaves_38, rX9_leaves_39, rX9_leaves_40, rX9_leaves_41, rX9_leaves_42, rX9_leaves_43, rX9_leaves_46, rX9_leaves_47, rX9_leaves_48, rX9_leaves_49, rX9_leaves_50, rX9_leaves_51, rX9_leaves_52, rX9_leaves_53, rX9_leaves_54, rX9_leaves_57, rX9_leaves_58, rX9_leaves_61, rX9_leaves_62, rX9_leaves_63, rX9_leaves_64, rX9_leaves_65, rX9_leaves_66, rX9_leaves_67, rX9_leaves_68, rX9_leaves_70, rX9_leaves_72, rX9_leaves_73, rX9_leaves_76, rX9_leaves_77, rX9_leaves_78, rX9_leaves_81, rX9_leaves_82, rX9_leaves_85, rX9_leaves_86, rX9_leaves_88, rX9_leaves_89, rX9_leaves_90, rX9_leaves_93, rX9_leaves_94, rX9_leaves_96, rX9_leaves_97, rX9_leaves_98, rX9_leaves_99, rX9_leaves_100, rX9_leaves_101, rX9_leaves_102, rX9_leaves_105, rX9_leaves_106, rX9_leaves_108, rX9_leaves_109, rX9_leaves_110, rX9_leaves_113, rX9_leaves_114, rX9_leaves_116, rX9_leaves_117, rX9_leaves_118, rX9_leaves_119, rX9_leaves_120, rX9_leaves_121, rX9_leaves_122, rX9_leaves_125, rX9_leaves_126, rX9_leaves_128, rX9_leaves_129, rX9_leaves_130, rX9_leaves_133, rX9_leaves_134, rX9_leaves_136, rX9_leaves_137, rX9_leaves_138, rX9_leaves_139, rX9_leaves_140, rX9_leaves_141, rX9_leaves_142, rX9_leaves_145, rX9_leaves_146, rX9_leaves_148, rX9_leaves_149, rX9_leaves_150, rX9_leaves_153, rX9_leaves_154, rX9_leaves_156, rX9_leaves_157, rX9_leaves_158, rX9_leaves_159, rX9_leaves_160, rX9_leaves_161, rX9_leaves_164, rX9_leaves_167, rX9_leaves_168, rX9_leaves_171, rX9_leaves_172, rX9_leaves_174, rX9_leaves_175, e_ald0, e_bin, e_dup2, e_get, e_goto, e_iald, e_iast, e_icmp, e_ild1, e_ild2, e_ild3, e_ild4, e_inc4, e_ist3, e_ist4, e_nl0, e_nl1, e_nl2, e_push, e_put, e_retv, m_b0, m_b01, m_b1, m_em, Classical.not_not, Nat.reduceBEq, Nat.reduceLT, Nat.reduceLeDiff, Nat.reduceAdd, cond_true, cond_false, Bool.or_false, Bool.false_or, Bool.or_true, Bool.true_or, beq_iff_eq, true_and, and_true, true_or, or_true, forall_const, not_true_eq_false, not_false_eq_true, false_implies, implies_true, Nat.reduceEqDiff, List.length_nil, List.length_cons, ob_66, fv_66_0, fv_66_1, fv_66_2, fv_66_3, fv_66_4, fv_66_5, fs_66_5, fv_66_6, fv_66_7, fv_66_8, fs_66_8, fv_66_9, fs_66_9, fv_66_10, fv_66_11, fv_66_12, fv_66_13, fv_66_14, fv_66_15, fv_66_16, fv_66_17, fv_66_18, fv_66_19, fv_66_20, fv_66_21, fv_66_22, fv_66_23, fs_66_23, fv_66_24, fs_66_24, fv_66_25, fs_66_25, fv_66_26, fs_66_26, fv_66_27, fs_66_27, fv_66_28, fs_66_28, fv_66_29, fv_66_30, fv_66_31, fs_66_31, fv_66_32, fv_66_33, fv_66_34, fs_66_34, kd_74, ln_74, kd_75, ln_75, kd_76, ln_76, kd_77, ln_77, kd_78, ln_78, kd_79, ln_79, Int.toNat_natCast]
      have e78 : g' 78 l = (r.length : Int) := by rw [h0 78 (by decide) (by decide) (by decide) (by decide), hg1, m_up_eq, m_us]
      rw [e78]
      refine ⟨by omega, fun _ => ⟨by omega, fin g' h0 h1 (fun k x hx => h2 k x ?_ hx)⟩, fun z => absurd z (by omega)⟩
      have := (List.getElem?_eq_some_iff.mp hx).1
      omega
    | succ m ih =>
      intro i g' hi h0 h1 h2 h3
      have e78 : g' 78 l = (r.length : Int) := by rw [h0 78 (by decide) (by decide) (by decide) (by decide), hg1, m_up_eq, m_us]
      have hri : r[i]? = some r[i] := List.getElem?_eq_getElem (by omega)
      have hx := h3 i r[i] (Nat.le_refl i) hri
      obtain ⟨v1, v2, v3, v4⟩ := hx
      have a1 := m_ix60 hl (show i ≤ 61 by omega)
      have a2 : m_wrap (((60 * l + i : Nat) : Int) + 1) = ((60 * l + (i + 1) : Nat) : Int) := by rw [m_w2 (by omega) (by omega)]; omega
      have a3 : m_wrap ((i : Int) + 1) = ((i + 1 : Nat) : Int) := m_w2 (by omega) (by omega)
      refine m_run_ok hJ (fun pc => pc == 70) 100 _ _ _ _ ?_
      simp only [e_go, rX9_leaves_0, rX9_leaves_2, rX9_leaves_3, rX9_leaves_4, rX9_leaves_5, rX9_leaves_6, rX9_leaves_9, rX9_leaves_10, rX9_leaves_13, rX9_leaves_14, rX9_leaves_15, rX9_leaves_16, rX9_leaves_17, rX9_leaves_18, rX9_leaves_19, rX9_leaves_22, rX9_leaves_23, rX9_leaves_24, rX9_leaves_25, rX9_leaves_26, rX9_leaves_27, rX9_leaves_28, rX9_leaves_31, rX9_leaves_32, rX9_leaves_35, rX9_leaves_36, rX9_leaves_37, rX9_leaves_38, rX9_leaves_39, rX9_leaves_40, rX9_leaves_41, rX9_leaves_42, rX9_leaves_43, rX9_leaves_46, rX9_leaves_47, rX9_leaves_48, rX9_leaves_49, rX9_leaves_50, rX9_leaves_51, rX9_leaves_52, rX9_leaves_53, rX9_leaves_54, rX9_leaves_57, rX9_leaves_58, rX9_leaves_61, rX9_leaves_62, rX9_leaves_63, rX9_leaves_64, rX9_leaves_65, rX9_leaves_66, rX9_leaves_67, rX9_leaves_68, rX9_leaves_70, rX9_leaves_72, rX9_leaves_73, rX9_leaves_76, rX9_leaves_77, rX9_leaves_78, rX9_leaves_81, rX9_leaves_82, rX9_leaves_85, rX9_leaves_86, rX9_leaves_88, rX9_leaves_89, rX9_leaves_90, rX9_leaves_93, rX9_leaves_94, rX9_leaves_96, rX9_leaves_97, rX9_leaves_98, rX9_leaves_99, rX9_leaves_100, rX9_leaves_101, rX9_leaves_102, rX9_leaves_105, rX9_leaves_106, rX9_leaves_108, rX9_leaves_109, rX9_leaves_110, rX9_leaves_113, rX9_leaves_114, rX9_leaves_116, rX9_leaves_117, rX9_leaves_118, rX9_leaves_119, rX9_leaves_120, rX9_leaves_121, rX9_leaves_122, rX9_leaves_125, rX9_leaves_126, rX9_leaves_128, rX9_leaves_129, rX9_leaves_130, rX9_leaves_133, rX9_leaves_134, rX9_leaves_136, rX9_leaves_137, rX9_leaves_138, rX9_leaves_139, rX9_leaves_140, rX9_leaves_141, rX9_leaves_142, rX9_leaves_145, rX9_leaves_146, rX9_leaves_148, rX9_leaves_149, rX9_leaves_150, rX9_leaves_153, rX9_leaves_154, rX9_leaves_156, rX9_leaves_157, rX9_leaves_158, rX9_leaves_159, rX9_leaves_160, rX9_leaves_161, rX9_leaves_164, rX9_leaves_167, rX9_leaves_168, rX9_leaves_171, rX9_leaves_172, rX9_leaves_174, rX9_leaves_175, e_ald0, e_bin, e_dup2, e_get, e_goto, e_iald, e_iast, e_icmp, e_ild1, e_ild2, e_ild3, e_ild4, e_inc4, e_ist3, e_ist4, e_nl0, e_nl1, e_nl2, e_push, e_put, e_retv, m_b0, m_b01, m_b1, m_em, Classical.not_not, Nat.reduceBEq, Nat.reduceLT, Nat.reduceLeDiff, Nat.reduceAdd, cond_true, cond_false, Bool.or_false, Bool.false_or, Bool.or_true, Bool.true_or, beq_iff_eq, true_and, and_true, true_or, or_true, forall_const, not_true_eq_false, not_false_eq_true, false_implies, implies_true, Nat.reduceEqDiff, List.length_nil, List.length_cons, ob_66, fv_66_0, fv_66_1, fv_66_2, fv_66_3, fv_66_4, fv_66_5, fs_66_5, fv_66_6, fv_66_7, fv_66_8, fs_66_8, fv_66_9, fs_66_9, fv_66_10, fv_66_11, fv_66_12, fv_66_13, fv_66_14, fv_66_15, fv_66_16, fv_66_17, fv_66_18, fv_66_19, fv_66_20, fv_66_21, fv_66_22, fv_66_23, fs_66_23, fv_66_24, fs_66_24, fv_66_25, fs_66_25, fv_66_26, fs_66_26, fv_66_27, fs_66_27, fv_66_28, fs_66_28, fv_66_29, fv_66_30, fv_66_31, fs_66_31, fv_66_32, fv_66_33, fv_66_34, fs_66_34, kd_74, ln_74, kd_75, ln_75, kd_76, ln_76, kd_77, ln_77, kd_78, ln_78, kd_79, ln_79, Int.toNat_natCast, a1, a2, a3, m_up_ne, m_up_eq, ne_eq, Nat.reduceEqDiff, not_false_eq_true, not_true_eq_false]
      rw [e78, v1, v2, v3, v4]
      refine ⟨by omega, fun z => absurd z (by omega), fun _ => ⟨by omega, by omega, by omega, by omega, by omega, by omega, by omega, by omega, ?_⟩⟩
      refine ih (i + 1) _ (by omega) (fun j j1 j2 j3 j4 => ?_) (fun A hA n hn => ?_) (fun k x hk hx => ?_) (fun k x hk hx => ?_)
      · rw [m_up_ne j4, m_up_ne j3, m_up_ne j2, m_up_ne j1]; exact h0 j j1 j2 j3 j4
      · have := h1 A hA n hn
        have hne : n ≠ 60 * l + i := by omega
        rcases hA with rfl | rfl | rfl | rfl <;> simp only [m_up_ne, m_up_eq, m_un hne, ne_eq, Nat.reduceEqDiff, not_false_eq_true, not_true_eq_false] <;> exact this
      · unfold r_c
        simp only [m_up_ne, m_up_eq, ne_eq, Nat.reduceEqDiff, not_false_eq_true, not_true_eq_false]
        by_cases e : k = i
        · subst e
          rw [hri] at hx
          cases hx
          rw [m_us, m_us, m_us, m_us]
          exact ⟨rfl, rfl, rfl, rfl⟩
        · rw [m_un (by omega), m_un (by omega), m_un (by omega), m_un (by omega)]
          exact h2 k x (by omega) hx
      · unfold r_c
        simp only [m_up_ne, m_up_eq, ne_eq, Nat.reduceEqDiff, not_false_eq_true, not_true_eq_false]
        rw [m_un (by omega), m_un (by omega), m_un (by omega), m_un (by omega)]
        exact h3 k x (by omega) hx
  have hst := loop r.length 0 g1 (by omega) (fun _ _ _ _ _ => rfl) (fun _ _ _ _ => rfl) (fun k x hk => absurd hk (by omega)) (fun k x _ hx => by
    have b7 := r6 (k + 1) x (by simpa using hx)
    unfold r_c
    rw [hg1]
    simp only [m_up_ne, m_up_eq, ne_eq, Nat.reduceEqDiff, not_false_eq_true, not_true_eq_false]
    exact b7)
  rw [hg1] at hst
  refine m_run_ok hJ (fun pc => pc == 70) 100 _ _ _ _ ?_
  simp only [rX9_leaves_0, e_go, rX9_leaves_0, rX9_leaves_2, rX9_leaves_3, rX9_leaves_4, rX9_leaves_5, rX9_leaves_6, rX9_leaves_9, rX9_leaves_10, rX9_leaves_13, rX9_leaves_14, rX9_leaves_15, rX9_leaves_16, rX9_leaves_17, rX9_leaves_18, rX9_leaves_19, rX9_leaves_22, rX9_leaves_23, rX9_leaves_24, rX9_leaves_25, rX9_leaves_26, rX9_leaves_27, rX9_leaves_28, rX9_leaves_31, rX9_leaves_32, rX9_leaves_35, rX9_leaves_36, rX9_leaves_37, rX9_leaves_38, rX9_leaves_39, rX9_leaves_40, rX9_leaves_41, rX9_leaves_42, rX9_leaves_43, rX9_leaves_46, rX9_leaves_47, rX9_leaves_48, rX9_leaves_49, rX9_leaves_50, rX9_leaves_51, rX9_leaves_52, rX9_leaves_53, rX9_leaves_54, rX9_leaves_57, rX9_leaves_58, rX9_leaves_61, rX9_leaves_62, rX9_leaves_63, rX9_leaves_64, rX9_leaves_65, rX9_leaves_66, rX9_leaves_67, rX9_leaves_68, rX9_leaves_70, rX9_leaves_72, rX9_leaves_73, rX9_leaves_76, rX9_leaves_77, rX9_leaves_78, rX9_leaves_81, rX9_leaves_82, rX9_leaves_85, rX9_leaves_86, rX9_leaves_88, rX9_leaves_89, rX9_leaves_90, rX9_leaves_93, rX9_leaves_94, rX9_leaves_96, rX9_leaves_97, rX9_leaves_98, rX9_leaves_99, rX9_leaves_100, rX9_leaves_101, rX9_leaves_102, rX9_leaves_105, rX9_leaves_106, rX9_leaves_108, rX9_leaves_109, rX9_leaves_110, rX9_leaves_113, rX9_leaves_114, rX9_leaves_116, rX9_leaves_117, rX9_leaves_118, rX9_leaves_119, rX9_leaves_120, rX9_leaves_121, rX9_leaves_122, rX9_leaves_125, rX9_leaves_126, rX9_leaves_128, rX9_leaves_129, rX9_leaves_130, rX9_leaves_133, rX9_leaves_134, rX9_leaves_136, rX9_leaves_137, rX9_leaves_138, rX9_leaves_139, rX9_leaves_140, rX9_leaves_141, rX9_leaves_142, rX9_leaves_145, rX9_leaves_146, rX9_leaves_148, rX9_leaves_149, rX9_leaves_150, rX9_leaves_153, rX9_leaves_154, rX9_leaves_156, rX9_leaves_157, rX9_leaves_158, rX9_leaves_159, rX9_leaves_160, rX9_leaves_161, rX9_leaves_164, rX9_leaves_167, rX9_leaves_168, rX9_leaves_171, rX9_leaves_172, rX9_leaves_174, rX9_leaves_175, e_ald0, e_bin, e_dup2, e_get, e_goto, e_iald, e_iast, e_icmp, e_ild1, e_ild2, e_ild3, e_ild4, e_inc4, e_ist3, e_ist4, e_nl0, e_nl1, e_nl2, e_push, e_put, e_retv, m_b0, m_b01, m_b1, m_em, Classical.not_not, Nat.reduceBEq, Nat.reduceLT, Nat.reduceLeDiff, Nat.reduceAdd, cond_true, cond_false, Bool.or_false, Bool.false_or, Bool.or_true, Bool.true_or, beq_iff_eq, true_and, and_true, true_or, or_true, forall_const, not_true_eq_false, not_false_eq_true, false_implies, implies_true, Nat.reduceEqDiff, List.length_nil, List.length_cons, ob_66, fv_66_0, fv_66_1, fv_66_2, fv_66_3, fv_66_4, fv_66_5, fs_66_5, fv_66_6, fv_66_7, fv_66_8, fs_66_8, fv_66_9, fs_66_9, fv_66_10, fv_66_11, fv_66_12, fv_66_13, fv_66_14, fv_66_15, fv_66_16, fv_66_17, fv_66_18, fv_66_19, fv_66_20, fv_66_21, fv_66_22, fv_66_23, fs_66_23, fv_66_24, fs_66_24, fv_66_25, fs_66_25, fv_66_26, fs_66_26, fv_66_27, fs_66_27, fv_66_28, fs_66_28, fv_66_29, fv_66_30, fv_66_31, fs_66_31, fv_66_32, fv_66_33, fv_66_34, fs_66_34, kd_74, ln_74, kd_75, ln_75, kd_76, ln_76, kd_77, ln_77, kd_78, ln_78, kd_79, ln_79, Int.toNat_natCast, ix, kd_81, ln_81, kd_83, ln_83, kd_86, ln_86, m_up_ne, m_up_eq, ne_eq, Nat.reduceEqDiff, not_false_eq_true, not_true_eq_false, hc0.1, hT]
  rw [r1, m_w1 (x := ((r.length + 1 : Nat) : Int) - 1) (by omega) (by omega), show ((r.length + 1 : Nat) : Int) - 1 = (r.length : Int) by omega]
  repeat refine ⟨by omega, ?_⟩
  exact hst
