set_option maxRecDepth 20000
set_option maxHeartbeats 2000000
theorem p1_admit {n now T n0 b : Nat} {g : m_G} {s : Nat → Int} {nd : Nat → Nat → Int} {σ : d_S} {K : Nat → List Nat} {q : m_Post} (hD : v_D g b s nd) (hW : h_W s) (hR : v_R g σ K n) (hI : d_I s n0 σ) (hnn : now ≤ n0) (hn0 : n0 ≤ 7200) (hJd : d_J σ) (hQ : v_Q g s (d_q now)) (hnow : now < 3600) (hU : v_U g s n) (hn : (n : Int) < sumC s (s 0).toNat) (hT : (T : Int) < s 0) (h51 : g 51 n = (T : Int)) (h52 : g 52 n = (now : Int)) (hnb : 1 ≤ g 53 n ∧ g 53 n ≤ 99)
    (h : ∀ g' K', v_R g' (d_one s T now (g 53 n) σ) K' (n + 1) → v_F g g' → v_U g' s (n + 1) → q none g') : wX1_admit.1 [.inr (.inr 39), .inl n, .inl now] g q := by
  have hb := hD.1
  have hz := hW.1
  have h500 := hW.2.2.2.2
  have h2 := hI.2
  have hx10 : g 39 10 = σ.2 8 1 := hR.2.2.2.2.1
  have hm : 0 ≤ d_more s ∧ d_more s ≤ 100 := by have w := hW.2.1; unfold d_more; split <;> omega
  refine m_wp_of (by simp [m_fit]) (fun J hJ => ?_)
  simp only [m_ini, Nat.reduceSub, List.replicate]
  refine m_run_ok hJ (fun pc => pc == 69 || pc == 118) 80 _ _ _ _ ?_
  simp only [e_go, rX1_admit_0, rX1_admit_1, rX1_admit_4, rX1_admit_5, rX1_admit_6, rX1_admit_7, rX1_admit_10, rX1_admit_13, rX1_admit_14, rX1_admit_15, rX1_admit_16, rX1_admit_19, rX1_admit_21, rX1_admit_23, rX1_admit_26, rX1_admit_27, rX1_admit_30, rX1_admit_31, rX1_admit_34, rX1_admit_37, rX1_admit_38, rX1_admit_39, rX1_admit_40, rX1_admit_41, rX1_admit_42, rX1_admit_43, rX1_admit_44, rX1_admit_45, rX1_admit_47, rX1_admit_48, rX1_admit_49, rX1_admit_50, rX1_admit_53, rX1_admit_56, rX1_admit_59, rX1_admit_61, rX1_admit_62, rX1_admit_63, rX1_admit_66, rX1_admit_67, rX1_admit_69, rX1_admit_70, rX1_admit_73, rX1_admit_75, rX1_admit_77, rX1_admit_80, rX1_admit_81, rX1_admit_82, rX1_admit_85, rX1_admit_87, rX1_admit_88, rX1_admit_91, rX1_admit_94, rX1_admit_95, rX1_admit_98, rX1_admit_101, rX1_admit_102, rX1_admit_103, rX1_admit_104, rX1_admit_105, rX1_admit_106, rX1_admit_109, rX1_admit_110, rX1_admit_111, rX1_admit_114, rX1_admit_116, rX1_admit_118, rX1_admit_119, rX1_admit_122, rX1_admit_124, rX1_admit_125, rX1_admit_126, rX1_admit_129, rX1_admit_130, rX1_admit_133, e_aald, e_ald0, e_bin, e_callV1, e_callV2, e_callV3, e_dup2, e_dupi, e_dupr, e_get, e_goto, e_iald, e_iast, e_icmp, e_if, e_ild1, e_ild2, e_ild3, e_ild4, e_ild5, e_ist3, e_ist4, e_ist5, e_nl0, e_nl1, e_nl2, e_push, e_pushn, e_pushs, e_put, e_retv, e_zast, m_b0, m_b01, m_b1, m_em, Classical.not_not, Nat.reduceBEq, Nat.reduceLT, Nat.reduceLeDiff, Nat.reduceAdd, cond_true, cond_false, Bool.or_false, Bool.false_or, Bool.or_true, Bool.true_or, beq_iff_eq, true_and, and_true, true_or, or_true, forall_const, not_true_eq_false, not_false_eq_true, false_implies, implies_true, Nat.reduceEqDiff, List.length_nil, List.length_cons, ob_39, fv_39_0, fv_39_1, fv_39_2, fv_39_3, fv_39_4, fs_39_4, fv_39_5, fs_39_5, fv_39_6, fv_39_7, fs_39_7, fv_39_8, fs_39_8, fv_39_9, fs_39_9, fv_39_10, fs_39_10, kd_42, ln_42, kd_43, ln_43, ob_50, fv_50_0, fs_50_0, fv_50_1, fv_50_2, fv_50_3, fv_50_4, fv_50_5, fv_50_6, fv_50_7, kd_51, ln_51, Int.toNat_natCast]
  refine p1_countStray hD hW (by omega) ?_
  rw [hx10]
  have hF1 : v_F g (m_up g 39 10 (if σ.2 8 1 + d_more s < 100 then σ.2 8 1 + d_more s else σ.2 8 1 + d_more s - 100)) := v_F.put (by omega)
  have hR1 : v_R (m_up g 39 10 (if σ.2 8 1 + d_more s < 100 then σ.2 8 1 + d_more s else σ.2 8 1 + d_more s - 100)) (d_cnt s σ) K n := by
    refine hR.num (Nat.le_refl n) rfl ⟨?_, ?_, ?_, ?_⟩ (fun j hj => m_up_ne (by omega)) (fun m _ => by rw [m_up_ne (by decide)]) (fun t ht => ?_) ?_ ?_ ?_
    · exact d_cnt_F s σ 0 (by decide)
    · exact d_cnt_F s σ 1 (by decide)
    · exact d_cnt_F s σ 2 (by decide)
    · exact d_cnt_F s σ 3 (by decide)
    · rw [d_cnt_F s σ 4 (by decide), d_cnt_F s σ 5 (by decide), d_cnt_F s σ 6 (by decide), m_up_ne (by decide), m_up_ne (by decide), m_up_ne (by decide)]
      exact hR.2.2.1 t ht
    · unfold d_cnt; simp only [m_upv]; simp; exact hR.2.2.2.1
    · unfold d_cnt; simp only [m_upv]; simp
    · unfold d_cnt; simp only [m_upv]; simp; exact hR.2.2.2.2.2
  have hU1 : v_U (m_up g 39 10 (if σ.2 8 1 + d_more s < 100 then σ.2 8 1 + d_more s else σ.2 8 1 + d_more s - 100)) s n := fun m h1 h2 => by rw [m_up_ne (by decide), m_up_ne (by decide)]; exact hU m h1 h2
  have c51 : (m_up g 39 10 (if σ.2 8 1 + d_more s < 100 then σ.2 8 1 + d_more s else σ.2 8 1 + d_more s - 100)) 51 = g 51 := m_up_ne (by decide)
  have c52 : (m_up g 39 10 (if σ.2 8 1 + d_more s < 100 then σ.2 8 1 + d_more s else σ.2 8 1 + d_more s - 100)) 52 = g 52 := m_up_ne (by decide)
  have c53 : (m_up g 39 10 (if σ.2 8 1 + d_more s < 100 then σ.2 8 1 + d_more s else σ.2 8 1 + d_more s - 100)) 53 = g 53 := m_up_ne (by decide)
  generalize (m_up g 39 10 (if σ.2 8 1 + d_more s < 100 then σ.2 8 1 + d_more s else σ.2 8 1 + d_more s - 100)) = g1 at hF1 hR1 hU1 c51 c52 c53 ⊢
  have hD1 := hD.keep hF1
  have hI1 := hI.cnt hW
  have hJ1 := hJd.cnt (s := s)
  have hQ1 := hQ.keep hW hF1
  have e7 : (g1 39 7).toNat = b := by rw [hD1.2.1]; rfl
  have e1 : g1 b 1 = s 1 := hD1.2.2.1.1.2
  unfold d_one at h
  have hco := d_ch_open s (d_cnt s σ) T now (s 1).toNat
  have hcb := d_ch_b s (d_cnt s σ) T now (s 1).toNat
  have hst : (if σ.2 8 1 + d_more s < 100 then (0 : Int) else 1) = 0 ↔ σ.2 8 1 + d_more s < 100 := by
    by_cases c : σ.2 8 1 + d_more s < 100
    · simp [c]
    · simp [c]
  generalize hσ1 : d_cnt s σ = σ1 at hR1 hI1 hJ1 hco hcb h
  generalize hcc : (d_ch s σ1 T now (s 1).toNat).1 = cc at hco hcb h
  generalize hstr : (if σ.2 8 1 + d_more s < 100 then (0 : Int) else 1) = str at hst
  have jn : ∀ (l : Nat) (x5 : Option m_V) (g2 : m_G) (σ2 : d_S) (sy : Int), (l : Int) < s 1 → v_R g2 σ2 K n → v_F g g2 → v_U g2 s (n + 1) → g2 54 n = -1 → d_I s n0 σ2 → d_J σ2 → ((σ2.1 l).length : Int) < s 7 → v_car g2 n = ((T : Int), (now : Int), g 53 n, sy) →
      d_put s T now (g 53 n) (¬ σ.2 8 1 + d_more s < 100) cc σ1 = d_stand l T now (g 53 n) sy σ2 → J 118 [some (.inr (.inr 39)), some (.inl n), some (.inl now), some (.inl str), some (.inl l), x5] [] g2 := by
    intro l x5 g2 σ2 sy hl hR2 hF2 hU2 h54 hI2 hJ2 hlen hcar heq
    have hcl : m_lnc (44 + l) := by unfold m_lnc; omega
    refine m_run_ok hJ (fun pc => pc == 69 || pc == 118) 80 _ _ _ _ ?_
    simp only [e_go, rX1_admit_0, rX1_admit_1, rX1_admit_4, rX1_admit_5, rX1_admit_6, rX1_admit_7, rX1_admit_10, rX1_admit_13, rX1_admit_14, rX1_admit_15, rX1_admit_16, rX1_admit_19, rX1_admit_21, rX1_admit_23, rX1_admit_26, rX1_admit_27, rX1_admit_30, rX1_admit_31, rX1_admit_34, rX1_admit_37, rX1_admit_38, rX1_admit_39, rX1_admit_40, rX1_admit_41, rX1_admit_42, rX1_admit_43, rX1_admit_44, rX1_admit_45, rX1_admit_47, rX1_admit_48, rX1_admit_49, rX1_admit_50, rX1_admit_53, rX1_admit_56, rX1_admit_59, rX1_admit_61, rX1_admit_62, rX1_admit_63, rX1_admit_66, rX1_admit_67, rX1_admit_69, rX1_admit_70, rX1_admit_73, rX1_admit_75, rX1_admit_77, rX1_admit_80, rX1_admit_81, rX1_admit_82, rX1_admit_85, rX1_admit_87, rX1_admit_88, rX1_admit_91, rX1_admit_94, rX1_admit_95, rX1_admit_98, rX1_admit_101, rX1_admit_102, rX1_admit_103, rX1_admit_104, rX1_admit_105, rX1_admit_106, rX1_admit_109, rX1_admit_110, rX1_admit_111, rX1_admit_114, rX1_admit_116, rX1_admit_118, rX1_admit_119, rX1_admit_122, rX1_admit_124, rX1_admit_125, rX1_admit_126, rX1_admit_129, rX1_admit_130, rX1_admit_133, e_aald, e_ald0, e_bin, e_callV1, e_callV2, e_callV3, e_dup2, e_dupi, e_dupr, e_get, e_goto, e_iald, e_iast, e_icmp, e_if, e_ild1, e_ild2, e_ild3, e_ild4, e_ild5, e_ist3, e_ist4, e_ist5, e_nl0, e_nl1, e_nl2, e_push, e_pushn, e_pushs, e_put, e_retv, e_zast, m_b0, m_b01, m_b1, m_em, Classical.not_not, Nat.reduceBEq, Nat.reduceLT, Nat.reduceLeDiff, Nat.reduceAdd, cond_true, cond_false, Bool.or_false, Bool.false_or, Bool.or_true, Bool.true_or, beq_iff_eq, true_and, and_true, true_or, or_true, forall_const, not_true_eq_false, not_false_eq_true, false_implies, implies_true, Nat.reduceEqDiff, List.length_nil, List.length_cons, ob_39, fv_39_0, fv_39_1, fv_39_2, fv_39_3, fv_39_4, fs_39_4, fv_39_5, fs_39_5, fv_39_6, fv_39_7, fs_39_7, fv_39_8, fs_39_8, fv_39_9, fs_39_9, fv_39_10, fs_39_10, kd_42, ln_42, kd_43, ln_43, ob_50, fv_50_0, fs_50_0, fv_50_1, fv_50_2, fv_50_3, fv_50_4, fv_50_5, fv_50_6, fv_50_7, kd_51, ln_51, obL hcl, fvL0 hcl, fsL0 hcl, fvL1 hcl, fsL1 hcl, fvL2 hcl, fsL2 hcl, fvL3 hcl, fsL3 hcl, fvL4 hcl, fsL4 hcl, fvL5 hcl, fsL5 hcl, fvL6 hcl, fsL6 hcl, fvL7 hcl, fsL7 hcl, fvL8 hcl, fsL8 hcl, fvL9 hcl, fsL9 hcl, fvL10 hcl, fsL10 hcl, fvL11 hcl, fsL11 hcl, Int.toNat_natCast]
    refine ⟨by omega, ?_⟩
    refine p3_join hW hR2 hI2 hJ2 (by omega) hlen hcar hnb h54 (by omega) (fun g' r1 r2 r3 r4 => ?_)
    simp only [e_go, rX1_admit_0, rX1_admit_1, rX1_admit_4, rX1_admit_5, rX1_admit_6, rX1_admit_7, rX1_admit_10, rX1_admit_13, rX1_admit_14, rX1_admit_15, rX1_admit_16, rX1_admit_19, rX1_admit_21, rX1_admit_23, rX1_admit_26, rX1_admit_27, rX1_admit_30, rX1_admit_31, rX1_admit_34, rX1_admit_37, rX1_admit_38, rX1_admit_39, rX1_admit_40, rX1_admit_41, rX1_admit_42, rX1_admit_43, rX1_admit_44, rX1_admit_45, rX1_admit_47, rX1_admit_48, rX1_admit_49, rX1_admit_50, rX1_admit_53, rX1_admit_56, rX1_admit_59, rX1_admit_61, rX1_admit_62, rX1_admit_63, rX1_admit_66, rX1_admit_67, rX1_admit_69, rX1_admit_70, rX1_admit_73, rX1_admit_75, rX1_admit_77, rX1_admit_80, rX1_admit_81, rX1_admit_82, rX1_admit_85, rX1_admit_87, rX1_admit_88, rX1_admit_91, rX1_admit_94, rX1_admit_95, rX1_admit_98, rX1_admit_101, rX1_admit_102, rX1_admit_103, rX1_admit_104, rX1_admit_105, rX1_admit_106, rX1_admit_109, rX1_admit_110, rX1_admit_111, rX1_admit_114, rX1_admit_116, rX1_admit_118, rX1_admit_119, rX1_admit_122, rX1_admit_124, rX1_admit_125, rX1_admit_126, rX1_admit_129, rX1_admit_130, rX1_admit_133, e_aald, e_ald0, e_bin, e_callV1, e_callV2, e_callV3, e_dup2, e_dupi, e_dupr, e_get, e_goto, e_iald, e_iast, e_icmp, e_if, e_ild1, e_ild2, e_ild3, e_ild4, e_ild5, e_ist3, e_ist4, e_ist5, e_nl0, e_nl1, e_nl2, e_push, e_pushn, e_pushs, e_put, e_retv, e_zast, m_b0, m_b01, m_b1, m_em, Classical.not_not, Nat.reduceBEq, Nat.reduceLT, Nat.reduceLeDiff, Nat.reduceAdd, cond_true, cond_false, Bool.or_false, Bool.false_or, Bool.or_true, Bool.true_or, beq_iff_eq, true_and, and_true, true_or, or_true, forall_const, not_true_eq_false, not_false_eq_true, false_implies, implies_true, Nat.reduceEqDiff, List.length_nil, List.length_cons, ob_39, fv_39_0, fv_39_1, fv_39_2, fv_39_3, fv_39_4, fs_39_4, fv_39_5, fs_39_5, fv_39_6, fv_39_7, fs_39_7, fv_39_8, fs_39_8, fv_39_9, fs_39_9, fv_39_10, fs_39_10, kd_42, ln_42, kd_43, ln_43, ob_50, fv_50_0, fs_50_0, fv_50_1, fv_50_2, fv_50_3, fv_50_4, fv_50_5, fv_50_6, fv_50_7, kd_51, ln_51, obL hcl, fvL0 hcl, fsL0 hcl, fvL1 hcl, fsL1 hcl, fvL2 hcl, fsL2 hcl, fvL3 hcl, fsL3 hcl, fvL4 hcl, fsL4 hcl, fvL5 hcl, fsL5 hcl, fvL6 hcl, fsL6 hcl, fvL7 hcl, fsL7 hcl, fvL8 hcl, fsL8 hcl, fvL9 hcl, fsL9 hcl, fvL10 hcl, fsL10 hcl, fvL11 hcl, fsL11 hcl, Int.toNat_natCast]
    rw [← heq] at r1
    refine h g' _ r1 (hF2.trans r2) (fun m h1 h2 => ?_)
    rw [r3 m (by omega), r4 55 (by omega) (by decide)]
    exact hU2 m h1 h2
  have e54 : g1 54 n = -1 ∧ g1 55 n = 0 := hU1 n (Nat.le_refl n) hn
  have hcar0 : v_car g1 n = ((T : Int), (now : Int), g 53 n, 0) := by unfold v_car; rw [c51, c52, c53, h51, h52, e54.2]
  have no : ∀ (x5 : Option m_V), 0 ≤ cc → ¬ ((¬ σ.2 8 1 + d_more s < 100) ∧ ¬ (cc + 1) % s 1 = cc ∧ ((σ1.1 ((cc + 1) % s 1).toNat).length : Int) < s 7) → J 118 [some (.inr (.inr 39)), some (.inl n), some (.inl now), some (.inl str), some (.inl cc), x5] [] g1 := by
    intro x5 h0 hno
    rcases hco with hco | ⟨o1, o2, o3⟩
    · omega
    obtain ⟨l, hl⟩ : ∃ l : Nat, cc = (l : Int) := ⟨cc.toNat, by omega⟩
    subst hl
    rw [Int.toNat_natCast] at o3
    refine jn l x5 g1 σ1 0 (by omega) hR1 hF1 (fun m h1 h2 => hU1 m (by omega) h2) e54.1 hI1 hJ1 o3.2.1 hcar0 ?_
    unfold d_put
    rw [if_neg (by omega), if_neg hno, Int.toNat_natCast]
  have mid : 0 ≤ cc → ∀ nx : Int, nx = (cc + 1) % s 1 → J 69 [some (.inr (.inr 39)), some (.inl n), some (.inl now), some (.inl str), some (.inl cc), some (.inl nx)] [] g1 := by
    intro h0 nx hnx
    rcases hco with hco | ⟨o1, o2, o3⟩
    · omega
    have hmod : 0 ≤ (cc + 1) % s 1 ∧ (cc + 1) % s 1 < s 1 := ⟨Int.emod_nonneg _ (by omega), Int.emod_lt_of_pos _ (by omega)⟩
    rw [← hnx] at hmod
    obtain ⟨k, hk⟩ : ∃ k : Nat, nx = (k : Int) := ⟨nx.toNat, by omega⟩
    have hck : m_lnc (44 + k) := by unfold m_lnc; omega
    have no := no (some (.inl nx)) h0
    rw [← hnx] at no
    rw [hk, Int.toNat_natCast] at no
    rw [hk]
    refine m_run_ok hJ (fun pc => pc == 69 || pc == 118) 80 _ _ _ _ ?_
    simp only [e_go, rX1_admit_0, rX1_admit_1, rX1_admit_4, rX1_admit_5, rX1_admit_6, rX1_admit_7, rX1_admit_10, rX1_admit_13, rX1_admit_14, rX1_admit_15, rX1_admit_16, rX1_admit_19, rX1_admit_21, rX1_admit_23, rX1_admit_26, rX1_admit_27, rX1_admit_30, rX1_admit_31, rX1_admit_34, rX1_admit_37, rX1_admit_38, rX1_admit_39, rX1_admit_40, rX1_admit_41, rX1_admit_42, rX1_admit_43, rX1_admit_44, rX1_admit_45, rX1_admit_47, rX1_admit_48, rX1_admit_49, rX1_admit_50, rX1_admit_53, rX1_admit_56, rX1_admit_59, rX1_admit_61, rX1_admit_62, rX1_admit_63, rX1_admit_66, rX1_admit_67, rX1_admit_69, rX1_admit_70, rX1_admit_73, rX1_admit_75, rX1_admit_77, rX1_admit_80, rX1_admit_81, rX1_admit_82, rX1_admit_85, rX1_admit_87, rX1_admit_88, rX1_admit_91, rX1_admit_94, rX1_admit_95, rX1_admit_98, rX1_admit_101, rX1_admit_102, rX1_admit_103, rX1_admit_104, rX1_admit_105, rX1_admit_106, rX1_admit_109, rX1_admit_110, rX1_admit_111, rX1_admit_114, rX1_admit_116, rX1_admit_118, rX1_admit_119, rX1_admit_122, rX1_admit_124, rX1_admit_125, rX1_admit_126, rX1_admit_129, rX1_admit_130, rX1_admit_133, e_aald, e_ald0, e_bin, e_callV1, e_callV2, e_callV3, e_dup2, e_dupi, e_dupr, e_get, e_goto, e_iald, e_iast, e_icmp, e_if, e_ild1, e_ild2, e_ild3, e_ild4, e_ild5, e_ist3, e_ist4, e_ist5, e_nl0, e_nl1, e_nl2, e_push, e_pushn, e_pushs, e_put, e_retv, e_zast, m_b0, m_b01, m_b1, m_em, Classical.not_not, Nat.reduceBEq, Nat.reduceLT, Nat.reduceLeDiff, Nat.reduceAdd, cond_true, cond_false, Bool.or_false, Bool.false_or, Bool.or_true, Bool.true_or, beq_iff_eq, true_and, and_true, true_or, or_true, forall_const, not_true_eq_false, not_false_eq_true, false_implies, implies_true, Nat.reduceEqDiff, List.length_nil, List.length_cons, ob_39, fv_39_0, fv_39_1, fv_39_2, fv_39_3, fv_39_4, fs_39_4, fv_39_5, fs_39_5, fv_39_6, fv_39_7, fs_39_7, fv_39_8, fs_39_8, fv_39_9, fs_39_9, fv_39_10, fs_39_10, kd_42, ln_42, kd_43, ln_43, ob_50, fv_50_0, fs_50_0, fv_50_1, fv_50_2, fv_50_3, fv_50_4, fv_50_5, fv_50_6, fv_50_7, kd_51, ln_51, kd_55, ln_55, obL hck, fvL0 hck, fsL0 hck, fvL1 hck, fsL1 hck, fvL2 hck, fsL2 hck, fvL3 hck, fsL3 hck, fvL4 hck, fsL4 hck, fvL5 hck, fsL5 hck, fvL6 hck, fsL6 hck, fvL7 hck, fsL7 hck, fvL8 hck, fsL8 hck, fvL9 hck, fsL9 hck, fvL10 hck, fsL10 hck, fvL11 hck, fsL11 hck, Int.toNat_natCast]
    refine ⟨fun c => no (fun z => z.1 (hst.1 c)), fun c => ⟨fun c2 => no (fun z => z.2.1 c2), fun c2 => ⟨by omega, ?_⟩⟩⟩
    refine p1_hasPlace hck hD1 ?_
    simp only [e_go, rX1_admit_0, rX1_admit_1, rX1_admit_4, rX1_admit_5, rX1_admit_6, rX1_admit_7, rX1_admit_10, rX1_admit_13, rX1_admit_14, rX1_admit_15, rX1_admit_16, rX1_admit_19, rX1_admit_21, rX1_admit_23, rX1_admit_26, rX1_admit_27, rX1_admit_30, rX1_admit_31, rX1_admit_34, rX1_admit_37, rX1_admit_38, rX1_admit_39, rX1_admit_40, rX1_admit_41, rX1_admit_42, rX1_admit_43, rX1_admit_44, rX1_admit_45, rX1_admit_47, rX1_admit_48, rX1_admit_49, rX1_admit_50, rX1_admit_53, rX1_admit_56, rX1_admit_59, rX1_admit_61, rX1_admit_62, rX1_admit_63, rX1_admit_66, rX1_admit_67, rX1_admit_69, rX1_admit_70, rX1_admit_73, rX1_admit_75, rX1_admit_77, rX1_admit_80, rX1_admit_81, rX1_admit_82, rX1_admit_85, rX1_admit_87, rX1_admit_88, rX1_admit_91, rX1_admit_94, rX1_admit_95, rX1_admit_98, rX1_admit_101, rX1_admit_102, rX1_admit_103, rX1_admit_104, rX1_admit_105, rX1_admit_106, rX1_admit_109, rX1_admit_110, rX1_admit_111, rX1_admit_114, rX1_admit_116, rX1_admit_118, rX1_admit_119, rX1_admit_122, rX1_admit_124, rX1_admit_125, rX1_admit_126, rX1_admit_129, rX1_admit_130, rX1_admit_133, e_aald, e_ald0, e_bin, e_callV1, e_callV2, e_callV3, e_dup2, e_dupi, e_dupr, e_get, e_goto, e_iald, e_iast, e_icmp, e_if, e_ild1, e_ild2, e_ild3, e_ild4, e_ild5, e_ist3, e_ist4, e_ist5, e_nl0, e_nl1, e_nl2, e_push, e_pushn, e_pushs, e_put, e_retv, e_zast, m_b0, m_b01, m_b1, m_em, Classical.not_not, Nat.reduceBEq, Nat.reduceLT, Nat.reduceLeDiff, Nat.reduceAdd, cond_true, cond_false, Bool.or_false, Bool.false_or, Bool.or_true, Bool.true_or, beq_iff_eq, true_and, and_true, true_or, or_true, forall_const, not_true_eq_false, not_false_eq_true, false_implies, implies_true, Nat.reduceEqDiff, List.length_nil, List.length_cons, ob_39, fv_39_0, fv_39_1, fv_39_2, fv_39_3, fv_39_4, fs_39_4, fv_39_5, fs_39_5, fv_39_6, fv_39_7, fs_39_7, fv_39_8, fs_39_8, fv_39_9, fs_39_9, fv_39_10, fs_39_10, kd_42, ln_42, kd_43, ln_43, ob_50, fv_50_0, fs_50_0, fv_50_1, fv_50_2, fv_50_3, fv_50_4, fv_50_5, fv_50_6, fv_50_7, kd_51, ln_51, kd_55, ln_55, obL hck, fvL0 hck, fsL0 hck, fvL1 hck, fsL1 hck, fvL2 hck, fsL2 hck, fvL3 hck, fsL3 hck, fvL4 hck, fsL4 hck, fvL5 hck, fsL5 hck, fvL6 hck, fsL6 hck, fvL7 hck, fsL7 hck, fvL8 hck, fsL8 hck, fvL9 hck, fsL9 hck, fvL10 hck, fsL10 hck, fvL11 hck, fsL11 hck, Int.toNat_natCast]
    have hlk := (hR1.1 k (by omega)).1.1.1
    rw [hlk]
    refine ⟨fun c3 => no (fun z => c3 z.2.2), fun c3 => ⟨by omega, ?_⟩⟩
    refine jn k _ _ (σ1.1, m_up σ1.2 8 0 (m_wrap (σ1.2 8 0 + 1))) 1 (by omega) ?_ ?_ ?_ ?_ ?_ ?_ c3 ?_ ?_
    · refine hR1.num (Nat.le_refl n) rfl ⟨?_, ?_, ?_, ?_⟩ (fun j hj => by rw [m_up_ne (by omega), m_up_ne (by omega)]) (fun m hm => ?_) (fun t ht => ?_) ?_ ?_ ?_
      · show m_up σ1.2 8 0 (m_wrap (σ1.2 8 0 + 1)) 0 = _; exact m_up_ne (by decide)
      · show m_up σ1.2 8 0 (m_wrap (σ1.2 8 0 + 1)) 1 = _; exact m_up_ne (by decide)
      · show m_up σ1.2 8 0 (m_wrap (σ1.2 8 0 + 1)) 2 = _; exact m_up_ne (by decide)
      · show m_up σ1.2 8 0 (m_wrap (σ1.2 8 0 + 1)) 3 = _; exact m_up_ne (by decide)
      · simp only [m_upv]; rw [if_neg (by omega), if_neg (by omega)]
      · simp only [m_upv]; simp; exact hR1.2.2.1 t ht
      · simp only [m_upv]; simp; rw [hR1.2.2.2.1]
      · simp only [m_upv]; simp; exact hR1.2.2.2.2.1
      · simp only [m_upv]; simp; exact hR1.2.2.2.2.2
    · exact (hF1.trans (v_F.put (by omega))).trans (v_F.put (by omega))
    · intro m h1 h2
      simp only [m_upv]; simp
      rw [if_neg (by omega)]
      exact hU1 m (by omega) h2
    · simp only [m_upv]; simp; exact e54.1
    · have h3 := hI1.2
      refine hI1.num (m_up_ne (by decide)) (m_up_ne (by decide)) (m_up_ne (by decide)) ?_ ?_
      · simp only [m_upv]; simp; exact h3.1
      · simp only [m_upv]; simp; exact h3.2
    · refine hJ1.of (fun a ha z => ?_) (fun a ha z => z)
      simp only at z
      rwa [m_up_ne (by decide)] at z
    · unfold v_car
      simp only [m_upv]; simp
      rw [c51, c52, c53, h51, h52]
      exact ⟨rfl, rfl, rfl⟩
    · unfold d_put
      rw [if_neg (by omega), ← hnx, hk, Int.toNat_natCast, if_pos ⟨fun z => c (hst.2 z), c2, c3⟩]
  
  simp only [e_go, rX1_admit_0, rX1_admit_1, rX1_admit_4, rX1_admit_5, rX1_admit_6, rX1_admit_7, rX1_admit_10, rX1_admit_13, rX1_admit_14, rX1_admit_15, rX1_admit_16, rX1_admit_19, rX1_admit_21, rX1_admit_23, rX1_admit_26, rX1_admit_27, rX1_admit_30, rX1_admit_31, rX1_admit_34, rX1_admit_37, rX1_admit_38, rX1_admit_39, rX1_admit_40, rX1_admit_41, rX1_admit_42, rX1_admit_43, rX1_admit_44, rX1_admit_45, rX1_admit_47, rX1_admit_48, rX1_admit_49, rX1_admit_50, rX1_admit_53, rX1_admit_56, rX1_admit_59, rX1_admit_61, rX1_admit_62, rX1_admit_63, rX1_admit_66, rX1_admit_67, rX1_admit_69, rX1_admit_70, rX1_admit_73, rX1_admit_75, rX1_admit_77, rX1_admit_80, rX1_admit_81, rX1_admit_82, rX1_admit_85, rX1_admit_87, rX1_admit_88, rX1_admit_91, rX1_admit_94, rX1_admit_95, rX1_admit_98, rX1_admit_101, rX1_admit_102, rX1_admit_103, rX1_admit_104, rX1_admit_105, rX1_admit_106, rX1_admit_109, rX1_admit_110, rX1_admit_111, rX1_admit_114, rX1_admit_116, rX1_admit_118, rX1_admit_119, rX1_admit_122, rX1_admit_124, rX1_admit_125, rX1_admit_126, rX1_admit_129, rX1_admit_130, rX1_admit_133, e_aald, e_ald0, e_bin, e_callV1, e_callV2, e_callV3, e_dup2, e_dupi, e_dupr, e_get, e_goto, e_iald, e_iast, e_icmp, e_if, e_ild1, e_ild2, e_ild3, e_ild4, e_ild5, e_ist3, e_ist4, e_ist5, e_nl0, e_nl1, e_nl2, e_push, e_pushn, e_pushs, e_put, e_retv, e_zast, m_b0, m_b01, m_b1, m_em, Classical.not_not, Nat.reduceBEq, Nat.reduceLT, Nat.reduceLeDiff, Nat.reduceAdd, cond_true, cond_false, Bool.or_false, Bool.false_or, Bool.or_true, Bool.true_or, beq_iff_eq, true_and, and_true, true_or, or_true, forall_const, not_true_eq_false, not_false_eq_true, false_implies, implies_true, Nat.reduceEqDiff, List.length_nil, List.length_cons, ob_39, fv_39_0, fv_39_1, fv_39_2, fv_39_3, fv_39_4, fs_39_4, fv_39_5, fs_39_5, fv_39_6, fv_39_7, fs_39_7, fv_39_8, fs_39_8, fv_39_9, fs_39_9, fv_39_10, fs_39_10, kd_42, ln_42, kd_43, ln_43, ob_50, fv_50_0, fs_50_0, fv_50_1, fv_50_2, fv_50_3, fv_50_4, fv_50_5, fv_50_6, fv_50_7, kd_51, ln_51, e7, obH hb, fvH0 hb, fsH0 hb, fvH1 hb, fsH1 hb, fvH2 hb, fvH3 hb, fvH4 hb, fvH5 hb, fvH6 hb, fvH7 hb, kdH1 hb, lnH1 hb, ltH1 hb, kdH2 hb, lnH2 hb, ltH2 hb, kdH3 hb, lnH3 hb, ltH3 hb, kdH4 hb, lnH4 hb, ltH4 hb, kdH5 hb, lnH5 hb, ltH5 hb, kdH6 hb, lnH6 hb, ltH6 hb, e1, Int.toNat_natCast]
  rw [c51, h51]
  refine ⟨by omega, ?_⟩
  refine p1_choose hD1 hW hR1 hI1 hn0 hJ1 hQ1 hnow ?_
  rw [hcc]
  simp only [e_go, rX1_admit_0, rX1_admit_1, rX1_admit_4, rX1_admit_5, rX1_admit_6, rX1_admit_7, rX1_admit_10, rX1_admit_13, rX1_admit_14, rX1_admit_15, rX1_admit_16, rX1_admit_19, rX1_admit_21, rX1_admit_23, rX1_admit_26, rX1_admit_27, rX1_admit_30, rX1_admit_31, rX1_admit_34, rX1_admit_37, rX1_admit_38, rX1_admit_39, rX1_admit_40, rX1_admit_41, rX1_admit_42, rX1_admit_43, rX1_admit_44, rX1_admit_45, rX1_admit_47, rX1_admit_48, rX1_admit_49, rX1_admit_50, rX1_admit_53, rX1_admit_56, rX1_admit_59, rX1_admit_61, rX1_admit_62, rX1_admit_63, rX1_admit_66, rX1_admit_67, rX1_admit_69, rX1_admit_70, rX1_admit_73, rX1_admit_75, rX1_admit_77, rX1_admit_80, rX1_admit_81, rX1_admit_82, rX1_admit_85, rX1_admit_87, rX1_admit_88, rX1_admit_91, rX1_admit_94, rX1_admit_95, rX1_admit_98, rX1_admit_101, rX1_admit_102, rX1_admit_103, rX1_admit_104, rX1_admit_105, rX1_admit_106, rX1_admit_109, rX1_admit_110, rX1_admit_111, rX1_admit_114, rX1_admit_116, rX1_admit_118, rX1_admit_119, rX1_admit_122, rX1_admit_124, rX1_admit_125, rX1_admit_126, rX1_admit_129, rX1_admit_130, rX1_admit_133, e_aald, e_ald0, e_bin, e_callV1, e_callV2, e_callV3, e_dup2, e_dupi, e_dupr, e_get, e_goto, e_iald, e_iast, e_icmp, e_if, e_ild1, e_ild2, e_ild3, e_ild4, e_ild5, e_ist3, e_ist4, e_ist5, e_nl0, e_nl1, e_nl2, e_push, e_pushn, e_pushs, e_put, e_retv, e_zast, m_b0, m_b01, m_b1, m_em, Classical.not_not, Nat.reduceBEq, Nat.reduceLT, Nat.reduceLeDiff, Nat.reduceAdd, cond_true, cond_false, Bool.or_false, Bool.false_or, Bool.or_true, Bool.true_or, beq_iff_eq, true_and, and_true, true_or, or_true, forall_const, not_true_eq_false, not_false_eq_true, false_implies, implies_true, Nat.reduceEqDiff, List.length_nil, List.length_cons, ob_39, fv_39_0, fv_39_1, fv_39_2, fv_39_3, fv_39_4, fs_39_4, fv_39_5, fs_39_5, fv_39_6, fv_39_7, fs_39_7, fv_39_8, fs_39_8, fv_39_9, fs_39_9, fv_39_10, fs_39_10, kd_42, ln_42, kd_43, ln_43, ob_50, fv_50_0, fs_50_0, fv_50_1, fv_50_2, fv_50_3, fv_50_4, fv_50_5, fv_50_6, fv_50_7, kd_51, ln_51, e7, obH hb, fvH0 hb, fsH0 hb, fvH1 hb, fsH1 hb, fvH2 hb, fvH3 hb, fvH4 hb, fvH5 hb, fvH6 hb, fvH7 hb, kdH1 hb, lnH1 hb, ltH1 hb, kdH2 hb, lnH2 hb, ltH2 hb, kdH3 hb, lnH3 hb, ltH3 hb, kdH4 hb, lnH4 hb, ltH4 hb, kdH5 hb, lnH5 hb, ltH5 hb, kdH6 hb, lnH6 hb, ltH6 hb, e1, Int.toNat_natCast]
  rw [c51, h51, Int.toNat_natCast]
  have hvb : 0 ≤ v_b cc ↔ 0 ≤ cc := by unfold v_b; split <;> omega
  refine ⟨fun c => ?_, fun c => ⟨by omega, by omega, by omega, ?_⟩⟩
  · have c0 := hvb.1 c
    have ev : v_b cc = cc := by unfold v_b; rw [if_neg (by omega)]
    rw [ev, m_w2 (x := cc + 1) (by omega) (by omega)]
    refine ⟨fun c2 => mid c0 _ ?_, fun c2 => mid c0 _ ?_⟩
    · rw [show cc + 1 = s 1 by omega, Int.emod_self]
    · rw [Int.emod_eq_of_lt (by omega) (by omega)]
  · have c0 : cc < 0 := by have := mt hvb.2 c; omega
    unfold d_put at h
    rw [if_pos c0] at h
    refine h _ K (hR1.num (by omega) rfl ⟨?_, ?_, ?_, ?_⟩ (fun j hj => m_up_ne (by omega)) (fun m hm => by rw [m_up_ne (by decide)]) (fun t ht => ?_) ?_ ?_ ?_) (hF1.trans (v_F.put (by omega))) (fun m h1 h2 => ?_)
    · show m_up σ1.2 6 T (m_wrap (σ1.2 6 T + 1)) 0 = _; exact m_up_ne (by decide)
    · show m_up σ1.2 6 T (m_wrap (σ1.2 6 T + 1)) 1 = _; exact m_up_ne (by decide)
    · show m_up σ1.2 6 T (m_wrap (σ1.2 6 T + 1)) 2 = _; exact m_up_ne (by decide)
    · show m_up σ1.2 6 T (m_wrap (σ1.2 6 T + 1)) 3 = _; exact m_up_ne (by decide)
    · obtain ⟨t1, t2, t3⟩ := hR1.2.2.1 t ht
      simp only [m_upv]; simp
      refine ⟨t1, t2, ?_⟩
      by_cases e : t = T
      · subst e; simp; rw [t3]
      · simp [e]; exact t3
    · simp only [m_upv]; simp; exact hR1.2.2.2.1
    · simp only [m_upv]; simp; exact hR1.2.2.2.2.1
    · simp only [m_upv]; simp; exact hR1.2.2.2.2.2
    · rw [m_up_ne (by decide), m_up_ne (by decide)]; exact hU1 m (by omega) h2
