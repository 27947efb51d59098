set_option maxRecDepth 20000
set_option maxHeartbeats 2000000
theorem p1_nextSecond {now b z : Nat} {g : m_G} {s : Nat → Int} {nd : Nat → Nat → Int} {σ : d_S} {K : Nat → List Nat} {q : m_Post} (hD : v_D g b s nd) (hW : h_W s) (hR : v_R g σ K z) (hI : d_I s (now + 1) σ) (hn : now < 7200) (hz : g 39 9 = (z : Int))
    (h : ∀ v : Nat, now < v → v ≤ 7200 → (∀ x : Nat, now < x → x < v → ((z : Int) < sumC s (s 0).toNat → (x : Int) < g 52 z) ∧ ∀ l : Nat, (l : Int) < s 1 → ¬ d_due s l x σ) → q (some (.inl v)) g) : wX1_nextSecond.1 [.inr (.inr 39), .inl now] g q := by
  have hb := hD.1
  have hz0 := hW.1
  have w := hW.2.1
  have h500 := hW.2.2.2.2
  have h2 := hI.2.2
  have e7 : (g 39 7).toNat = b := by rw [hD.2.1]; rfl
  have e1 : g b 1 = s 1 := hD.2.2.1.1.2
  have e6 : g (b + 6) 1 = s 3 := hD.2.2.1.2.2.1 1 (by decide)
  have e50 := hD.2.2.2.1
  have hx5 : g 39 5 = (if σ.2 8 2 < 0 then -1 else σ.2 8 2) := hR.2.2.2.2.2
  refine m_wp_of (by simp [m_fit]) (fun J hJ => ?_)
  simp only [m_ini, Nat.reduceSub, List.replicate]
  have loop : ∀ (m l : Nat) (nx fr : Int), l + m = (s 1).toNat → nx ≤ 7200 → (fr = if σ.2 8 2 < 0 then 0 else σ.2 8 2 + s 3) → (∀ x : Nat, (x : Int) < nx → ((z : Int) < sumC s (s 0).toNat → (x : Int) < g 52 z) ∧ ∀ a : Nat, a < l → ¬ d_due s a x σ) → J 64 [some (.inr (.inr 39)), some (.inl now), some (.inl nx), some (.inl fr), some (.inl l)] [] g := by
    intro m
    induction m with
    | zero =>
      intro l nx fr hl h72 hfr hA
      refine m_run_ok hJ (fun pc => pc == 35 || pc == 60 || pc == 64) 80 _ _ _ _ ?_
      simp only [e_go, rX1_nextSecond_0, rX1_nextSecond_3, rX1_nextSecond_4, rX1_nextSecond_5, rX1_nextSecond_8, rX1_nextSecond_9, rX1_nextSecond_12, rX1_nextSecond_15, rX1_nextSecond_18, rX1_nextSecond_19, rX1_nextSecond_20, rX1_nextSecond_23, rX1_nextSecond_26, rX1_nextSecond_27, rX1_nextSecond_30, rX1_nextSecond_31, rX1_nextSecond_34, rX1_nextSecond_35, rX1_nextSecond_36, rX1_nextSecond_39, rX1_nextSecond_42, rX1_nextSecond_43, rX1_nextSecond_46, rX1_nextSecond_47, rX1_nextSecond_50, rX1_nextSecond_51, rX1_nextSecond_54, rX1_nextSecond_57, rX1_nextSecond_58, rX1_nextSecond_59, rX1_nextSecond_60, rX1_nextSecond_61, rX1_nextSecond_62, rX1_nextSecond_64, rX1_nextSecond_66, rX1_nextSecond_67, rX1_nextSecond_70, rX1_nextSecond_73, rX1_nextSecond_76, rX1_nextSecond_77, rX1_nextSecond_80, rX1_nextSecond_82, rX1_nextSecond_83, rX1_nextSecond_86, rX1_nextSecond_89, rX1_nextSecond_90, rX1_nextSecond_91, rX1_nextSecond_94, rX1_nextSecond_96, rX1_nextSecond_97, rX1_nextSecond_100, rX1_nextSecond_101, rX1_nextSecond_104, rX1_nextSecond_107, rX1_nextSecond_108, rX1_nextSecond_111, rX1_nextSecond_114, rX1_nextSecond_115, rX1_nextSecond_116, rX1_nextSecond_117, rX1_nextSecond_118, rX1_nextSecond_121, e_aald, e_ald0, e_bin, e_get, e_goto, e_iald, e_icmp, e_if, e_ild1, e_ild2, e_ild3, e_ild4, e_inc4, e_ist2, e_ist3, e_ist4, e_max, e_min, e_nl0, e_nl1, e_nl2, e_push, e_ret, m_b0, m_b01, m_b1, m_em, Classical.not_not, Nat.reduceBEq, Nat.reduceLT, Nat.reduceLeDiff, Nat.reduceAdd, cond_true, cond_false, Bool.or_false, Bool.false_or, Bool.or_true, Bool.true_or, beq_iff_eq, true_and, and_true, true_or, or_true, forall_const, not_true_eq_false, not_false_eq_true, false_implies, implies_true, Nat.reduceEqDiff, List.length_nil, List.length_cons, ob_39, fv_39_0, fv_39_1, fv_39_2, fv_39_3, fv_39_4, fs_39_4, fv_39_5, fs_39_5, fv_39_6, fv_39_7, fs_39_7, fv_39_8, fs_39_8, fv_39_9, fs_39_9, fv_39_10, fs_39_10, kd_43, ln_43, ob_50, fv_50_0, fs_50_0, fv_50_1, fv_50_2, fv_50_3, fv_50_4, fv_50_5, fv_50_6, fv_50_7, kd_52, ln_52, obH hb, fvH0 hb, fsH0 hb, fvH1 hb, fsH1 hb, fvH2 hb, fvH3 hb, fvH4 hb, fvH5 hb, fvH6 hb, fvH7 hb, kdH1 hb, lnH1 hb, ltH1 hb, kdH2 hb, lnH2 hb, ltH2 hb, kdH3 hb, lnH3 hb, ltH3 hb, kdH4 hb, lnH4 hb, ltH4 hb, kdH5 hb, lnH5 hb, ltH5 hb, kdH6 hb, lnH6 hb, ltH6 hb, e7, e1, Int.toNat_natCast]
      rw [m_w2 (x := (now : Int) + 1) (by omega) (by omega)]
      refine ⟨fun _ => ?_, fun z => absurd z (by omega)⟩
      by_cases c : nx < (now : Int) + 1
      · rw [if_pos c]
        have := h (now + 1) (by omega) (by omega) (fun x h1 h2 => absurd h1 (by omega))
        exact this
      · rw [if_neg c]
        have := h nx.toNat (by omega) (by omega) (fun x h1 h2 => ⟨(hA x (by omega)).1, fun a ha => (hA x (by omega)).2 a (by omega)⟩)
        rw [Int.toNat_of_nonneg (by omega)] at this
        exact this
    | succ m ih =>
      intro l nx fr hl h72 hfr hA
      have hcl : m_lnc (44 + l) := by unfold m_lnc; omega
      have aL := (hR.1 l (by omega)).1.1
      refine m_run_ok hJ (fun pc => pc == 35 || pc == 60 || pc == 64) 80 _ _ _ _ ?_
      simp only [e_go, rX1_nextSecond_0, rX1_nextSecond_3, rX1_nextSecond_4, rX1_nextSecond_5, rX1_nextSecond_8, rX1_nextSecond_9, rX1_nextSecond_12, rX1_nextSecond_15, rX1_nextSecond_18, rX1_nextSecond_19, rX1_nextSecond_20, rX1_nextSecond_23, rX1_nextSecond_26, rX1_nextSecond_27, rX1_nextSecond_30, rX1_nextSecond_31, rX1_nextSecond_34, rX1_nextSecond_35, rX1_nextSecond_36, rX1_nextSecond_39, rX1_nextSecond_42, rX1_nextSecond_43, rX1_nextSecond_46, rX1_nextSecond_47, rX1_nextSecond_50, rX1_nextSecond_51, rX1_nextSecond_54, rX1_nextSecond_57, rX1_nextSecond_58, rX1_nextSecond_59, rX1_nextSecond_60, rX1_nextSecond_61, rX1_nextSecond_62, rX1_nextSecond_64, rX1_nextSecond_66, rX1_nextSecond_67, rX1_nextSecond_70, rX1_nextSecond_73, rX1_nextSecond_76, rX1_nextSecond_77, rX1_nextSecond_80, rX1_nextSecond_82, rX1_nextSecond_83, rX1_nextSecond_86, rX1_nextSecond_89, rX1_nextSecond_90, rX1_nextSecond_91, rX1_nextSecond_94, rX1_nextSecond_96, rX1_nextSecond_97, rX1_nextSecond_100, rX1_nextSecond_101, rX1_nextSecond_104, rX1_nextSecond_107, rX1_nextSecond_108, rX1_nextSecond_111, rX1_nextSecond_114, rX1_nextSecond_115, rX1_nextSecond_116, rX1_nextSecond_117, rX1_nextSecond_118, rX1_nextSecond_121, e_aald, e_ald0, e_bin, e_get, e_goto, e_iald, e_icmp, e_if, e_ild1, e_ild2, e_ild3, e_ild4, e_inc4, e_ist2, e_ist3, e_ist4, e_max, e_min, e_nl0, e_nl1, e_nl2, e_push, e_ret, m_b0, m_b01, m_b1, m_em, Classical.not_not, Nat.reduceBEq, Nat.reduceLT, Nat.reduceLeDiff, Nat.reduceAdd, cond_true, cond_false, Bool.or_false, Bool.false_or, Bool.or_true, Bool.true_or, beq_iff_eq, true_and, and_true, true_or, or_true, forall_const, not_true_eq_false, not_false_eq_true, false_implies, implies_true, Nat.reduceEqDiff, List.length_nil, List.length_cons, ob_39, fv_39_0, fv_39_1, fv_39_2, fv_39_3, fv_39_4, fs_39_4, fv_39_5, fs_39_5, fv_39_6, fv_39_7, fs_39_7, fv_39_8, fs_39_8, fv_39_9, fs_39_9, fv_39_10, fs_39_10, kd_43, ln_43, ob_50, fv_50_0, fs_50_0, fv_50_1, fv_50_2, fv_50_3, fv_50_4, fv_50_5, fv_50_6, fv_50_7, kd_52, ln_52, obH hb, fvH0 hb, fsH0 hb, fvH1 hb, fsH1 hb, fvH2 hb, fvH3 hb, fvH4 hb, fvH5 hb, fvH6 hb, fvH7 hb, kdH1 hb, lnH1 hb, ltH1 hb, kdH2 hb, lnH2 hb, ltH2 hb, kdH3 hb, lnH3 hb, ltH3 hb, kdH4 hb, lnH4 hb, ltH4 hb, kdH5 hb, lnH5 hb, ltH5 hb, kdH6 hb, lnH6 hb, ltH6 hb, e7, e1, obL hcl, fvL0 hcl, fsL0 hcl, fvL1 hcl, fsL1 hcl, fvL2 hcl, fsL2 hcl, fvL3 hcl, fsL3 hcl, fvL4 hcl, fsL4 hcl, fvL5 hcl, fsL5 hcl, fvL6 hcl, fsL6 hcl, fvL7 hcl, fsL7 hcl, fvL8 hcl, fsL8 hcl, fvL9 hcl, fsL9 hcl, fvL10 hcl, fsL10 hcl, fvL11 hcl, fsL11 hcl, Int.toNat_natCast]
      rw [m_w2 (x := (l : Int) + 1) (by omega) (by omega), aL.2.1]
      refine ⟨fun z => absurd z (by omega), fun _ => ⟨by omega, fun c => ?_, fun c => ⟨by omega, ?_⟩⟩⟩
      · refine ih (l + 1) nx fr (by omega) h72 hfr (fun x hx => ⟨(hA x hx).1, fun a ha hd => ?_⟩)
        by_cases e : a = l
        · subst e
          rw [if_pos hd.1.2.1] at c; exact absurd c (by decide)
        · exact (hA x hx).2 a (by omega) hd
      · have hs0 : 0 ≤ σ.2 0 l := by
          by_cases y : 0 ≤ σ.2 0 l
          · exact y
          · rw [if_neg y] at c; exact absurd rfl c
        rw [aL.2.2.1 hs0]
        have st : ∀ nx' : Int, nx' ≤ nx → nx' ≤ (if σ.2 0 l < fr then fr else σ.2 0 l) → J 64 [some (.inr (.inr 39)), some (.inl now), some (.inl nx'), some (.inl fr), some (.inl (l + 1 : Nat))] [] g := by
          intro nx' h1 h3
          refine ih (l + 1) nx' fr (by omega) (by omega) hfr (fun x hx => ⟨(hA x (by omega)).1, fun a ha hd => ?_⟩)
          by_cases e : a = l
          · subst e
            have d1 := hd.1.2.2
            have d2 := hd.2
            by_cases y : σ.2 8 2 < 0
            · rw [if_pos y] at hfr
              rw [hfr, if_neg (by omega)] at h3; omega
            · rw [if_neg y] at hfr
              split at h3 <;> omega
          · exact (hA x (by omega)).2 a (by omega) hd
        refine st _ ?_ ?_
        · split <;> omega
        · split <;> omega
  have mid : ∀ nx : Int, nx ≤ 7200 → (∀ x : Nat, (x : Int) < nx → (z : Int) < sumC s (s 0).toNat → (x : Int) < g 52 z) → J 35 [some (.inr (.inr 39)), some (.inl now), some (.inl nx), none, none] [] g := by
    intro nx h72 hA
    have lp : ∀ fr : Int, (fr = if σ.2 8 2 < 0 then 0 else σ.2 8 2 + s 3) → J 60 [some (.inr (.inr 39)), some (.inl now), some (.inl nx), none, none] [.inl fr] g := by
      intro fr hfr
      refine m_run_ok hJ (fun pc => pc == 35 || pc == 60 || pc == 64) 80 _ _ _ _ ?_
      simp only [e_go, rX1_nextSecond_0, rX1_nextSecond_3, rX1_nextSecond_4, rX1_nextSecond_5, rX1_nextSecond_8, rX1_nextSecond_9, rX1_nextSecond_12, rX1_nextSecond_15, rX1_nextSecond_18, rX1_nextSecond_19, rX1_nextSecond_20, rX1_nextSecond_23, rX1_nextSecond_26, rX1_nextSecond_27, rX1_nextSecond_30, rX1_nextSecond_31, rX1_nextSecond_34, rX1_nextSecond_35, rX1_nextSecond_36, rX1_nextSecond_39, rX1_nextSecond_42, rX1_nextSecond_43, rX1_nextSecond_46, rX1_nextSecond_47, rX1_nextSecond_50, rX1_nextSecond_51, rX1_nextSecond_54, rX1_nextSecond_57, rX1_nextSecond_58, rX1_nextSecond_59, rX1_nextSecond_60, rX1_nextSecond_61, rX1_nextSecond_62, rX1_nextSecond_64, rX1_nextSecond_66, rX1_nextSecond_67, rX1_nextSecond_70, rX1_nextSecond_73, rX1_nextSecond_76, rX1_nextSecond_77, rX1_nextSecond_80, rX1_nextSecond_82, rX1_nextSecond_83, rX1_nextSecond_86, rX1_nextSecond_89, rX1_nextSecond_90, rX1_nextSecond_91, rX1_nextSecond_94, rX1_nextSecond_96, rX1_nextSecond_97, rX1_nextSecond_100, rX1_nextSecond_101, rX1_nextSecond_104, rX1_nextSecond_107, rX1_nextSecond_108, rX1_nextSecond_111, rX1_nextSecond_114, rX1_nextSecond_115, rX1_nextSecond_116, rX1_nextSecond_117, rX1_nextSecond_118, rX1_nextSecond_121, e_aald, e_ald0, e_bin, e_get, e_goto, e_iald, e_icmp, e_if, e_ild1, e_ild2, e_ild3, e_ild4, e_inc4, e_ist2, e_ist3, e_ist4, e_max, e_min, e_nl0, e_nl1, e_nl2, e_push, e_ret, m_b0, m_b01, m_b1, m_em, Classical.not_not, Nat.reduceBEq, Nat.reduceLT, Nat.reduceLeDiff, Nat.reduceAdd, cond_true, cond_false, Bool.or_false, Bool.false_or, Bool.or_true, Bool.true_or, beq_iff_eq, true_and, and_true, true_or, or_true, forall_const, not_true_eq_false, not_false_eq_true, false_implies, implies_true, Nat.reduceEqDiff, List.length_nil, List.length_cons, ob_39, fv_39_0, fv_39_1, fv_39_2, fv_39_3, fv_39_4, fs_39_4, fv_39_5, fs_39_5, fv_39_6, fv_39_7, fs_39_7, fv_39_8, fs_39_8, fv_39_9, fs_39_9, fv_39_10, fs_39_10, kd_43, ln_43, ob_50, fv_50_0, fs_50_0, fv_50_1, fv_50_2, fv_50_3, fv_50_4, fv_50_5, fv_50_6, fv_50_7, kd_52, ln_52, obH hb, fvH0 hb, fsH0 hb, fvH1 hb, fsH1 hb, fvH2 hb, fvH3 hb, fvH4 hb, fvH5 hb, fvH6 hb, fvH7 hb, kdH1 hb, lnH1 hb, ltH1 hb, kdH2 hb, lnH2 hb, ltH2 hb, kdH3 hb, lnH3 hb, ltH3 hb, kdH4 hb, lnH4 hb, ltH4 hb, kdH5 hb, lnH5 hb, ltH5 hb, kdH6 hb, lnH6 hb, ltH6 hb, e7, e1, Int.toNat_natCast]
      exact loop (s 1).toNat 0 nx fr (by omega) h72 hfr (fun x hx => ⟨hA x hx, fun a ha => absurd ha (by omega)⟩)
    refine m_run_ok hJ (fun pc => pc == 35 || pc == 60 || pc == 64) 80 _ _ _ _ ?_
    simp only [e_go, rX1_nextSecond_0, rX1_nextSecond_3, rX1_nextSecond_4, rX1_nextSecond_5, rX1_nextSecond_8, rX1_nextSecond_9, rX1_nextSecond_12, rX1_nextSecond_15, rX1_nextSecond_18, rX1_nextSecond_19, rX1_nextSecond_20, rX1_nextSecond_23, rX1_nextSecond_26, rX1_nextSecond_27, rX1_nextSecond_30, rX1_nextSecond_31, rX1_nextSecond_34, rX1_nextSecond_35, rX1_nextSecond_36, rX1_nextSecond_39, rX1_nextSecond_42, rX1_nextSecond_43, rX1_nextSecond_46, rX1_nextSecond_47, rX1_nextSecond_50, rX1_nextSecond_51, rX1_nextSecond_54, rX1_nextSecond_57, rX1_nextSecond_58, rX1_nextSecond_59, rX1_nextSecond_60, rX1_nextSecond_61, rX1_nextSecond_62, rX1_nextSecond_64, rX1_nextSecond_66, rX1_nextSecond_67, rX1_nextSecond_70, rX1_nextSecond_73, rX1_nextSecond_76, rX1_nextSecond_77, rX1_nextSecond_80, rX1_nextSecond_82, rX1_nextSecond_83, rX1_nextSecond_86, rX1_nextSecond_89, rX1_nextSecond_90, rX1_nextSecond_91, rX1_nextSecond_94, rX1_nextSecond_96, rX1_nextSecond_97, rX1_nextSecond_100, rX1_nextSecond_101, rX1_nextSecond_104, rX1_nextSecond_107, rX1_nextSecond_108, rX1_nextSecond_111, rX1_nextSecond_114, rX1_nextSecond_115, rX1_nextSecond_116, rX1_nextSecond_117, rX1_nextSecond_118, rX1_nextSecond_121, e_aald, e_ald0, e_bin, e_get, e_goto, e_iald, e_icmp, e_if, e_ild1, e_ild2, e_ild3, e_ild4, e_inc4, e_ist2, e_ist3, e_ist4, e_max, e_min, e_nl0, e_nl1, e_nl2, e_push, e_ret, m_b0, m_b01, m_b1, m_em, Classical.not_not, Nat.reduceBEq, Nat.reduceLT, Nat.reduceLeDiff, Nat.reduceAdd, cond_true, cond_false, Bool.or_false, Bool.false_or, Bool.or_true, Bool.true_or, beq_iff_eq, true_and, and_true, true_or, or_true, forall_const, not_true_eq_false, not_false_eq_true, false_implies, implies_true, Nat.reduceEqDiff, List.length_nil, List.length_cons, ob_39, fv_39_0, fv_39_1, fv_39_2, fv_39_3, fv_39_4, fs_39_4, fv_39_5, fs_39_5, fv_39_6, fv_39_7, fs_39_7, fv_39_8, fs_39_8, fv_39_9, fs_39_9, fv_39_10, fs_39_10, kd_43, ln_43, ob_50, fv_50_0, fs_50_0, fv_50_1, fv_50_2, fv_50_3, fv_50_4, fv_50_5, fv_50_6, fv_50_7, kd_52, ln_52, obH hb, fvH0 hb, fsH0 hb, fvH1 hb, fsH1 hb, fvH2 hb, fvH3 hb, fvH4 hb, fvH5 hb, fvH6 hb, fvH7 hb, kdH1 hb, lnH1 hb, ltH1 hb, kdH2 hb, lnH2 hb, ltH2 hb, kdH3 hb, lnH3 hb, ltH3 hb, kdH4 hb, lnH4 hb, ltH4 hb, kdH5 hb, lnH5 hb, ltH5 hb, kdH6 hb, lnH6 hb, ltH6 hb, e7, e1, Int.toNat_natCast]
    simp only [show (1 : Int).toNat = 1 from rfl, e6]
    rw [hx5]
    by_cases c5 : σ.2 8 2 < 0
    · rw [if_pos c5]
      exact ⟨fun z => absurd z (by decide), fun _ => lp 0 (by rw [if_pos c5])⟩
    · rw [if_neg c5]
      exact ⟨fun z => ⟨by decide, lp _ (by rw [if_neg c5]; exact m_w2 (by omega) (by omega))⟩, fun z => absurd (by omega) z⟩
  refine m_run_ok hJ (fun pc => pc == 35 || pc == 60 || pc == 64) 80 _ _ _ _ ?_
  simp only [e_go, rX1_nextSecond_0, rX1_nextSecond_3, rX1_nextSecond_4, rX1_nextSecond_5, rX1_nextSecond_8, rX1_nextSecond_9, rX1_nextSecond_12, rX1_nextSecond_15, rX1_nextSecond_18, rX1_nextSecond_19, rX1_nextSecond_20, rX1_nextSecond_23, rX1_nextSecond_26, rX1_nextSecond_27, rX1_nextSecond_30, rX1_nextSecond_31, rX1_nextSecond_34, rX1_nextSecond_35, rX1_nextSecond_36, rX1_nextSecond_39, rX1_nextSecond_42, rX1_nextSecond_43, rX1_nextSecond_46, rX1_nextSecond_47, rX1_nextSecond_50, rX1_nextSecond_51, rX1_nextSecond_54, rX1_nextSecond_57, rX1_nextSecond_58, rX1_nextSecond_59, rX1_nextSecond_60, rX1_nextSecond_61, rX1_nextSecond_62, rX1_nextSecond_64, rX1_nextSecond_66, rX1_nextSecond_67, rX1_nextSecond_70, rX1_nextSecond_73, rX1_nextSecond_76, rX1_nextSecond_77, rX1_nextSecond_80, rX1_nextSecond_82, rX1_nextSecond_83, rX1_nextSecond_86, rX1_nextSecond_89, rX1_nextSecond_90, rX1_nextSecond_91, rX1_nextSecond_94, rX1_nextSecond_96, rX1_nextSecond_97, rX1_nextSecond_100, rX1_nextSecond_101, rX1_nextSecond_104, rX1_nextSecond_107, rX1_nextSecond_108, rX1_nextSecond_111, rX1_nextSecond_114, rX1_nextSecond_115, rX1_nextSecond_116, rX1_nextSecond_117, rX1_nextSecond_118, rX1_nextSecond_121, e_aald, e_ald0, e_bin, e_get, e_goto, e_iald, e_icmp, e_if, e_ild1, e_ild2, e_ild3, e_ild4, e_inc4, e_ist2, e_ist3, e_ist4, e_max, e_min, e_nl0, e_nl1, e_nl2, e_push, e_ret, m_b0, m_b01, m_b1, m_em, Classical.not_not, Nat.reduceBEq, Nat.reduceLT, Nat.reduceLeDiff, Nat.reduceAdd, cond_true, cond_false, Bool.or_false, Bool.false_or, Bool.or_true, Bool.true_or, beq_iff_eq, true_and, and_true, true_or, or_true, forall_const, not_true_eq_false, not_false_eq_true, false_implies, implies_true, Nat.reduceEqDiff, List.length_nil, List.length_cons, ob_39, fv_39_0, fv_39_1, fv_39_2, fv_39_3, fv_39_4, fs_39_4, fv_39_5, fs_39_5, fv_39_6, fv_39_7, fs_39_7, fv_39_8, fs_39_8, fv_39_9, fs_39_9, fv_39_10, fs_39_10, kd_43, ln_43, ob_50, fv_50_0, fs_50_0, fv_50_1, fv_50_2, fv_50_3, fv_50_4, fv_50_5, fv_50_6, fv_50_7, kd_52, ln_52, obH hb, fvH0 hb, fsH0 hb, fvH1 hb, fsH1 hb, fvH2 hb, fvH3 hb, fvH4 hb, fvH5 hb, fvH6 hb, fvH7 hb, kdH1 hb, lnH1 hb, ltH1 hb, kdH2 hb, lnH2 hb, ltH2 hb, kdH3 hb, lnH3 hb, ltH3 hb, kdH4 hb, lnH4 hb, ltH4 hb, kdH5 hb, lnH5 hb, ltH5 hb, kdH6 hb, lnH6 hb, ltH6 hb, e7, e1, Int.toNat_natCast]
  rw [hz, e50, Int.toNat_natCast]
  refine ⟨fun c => mid 7200 (by omega) (fun x _ hz => absurd hz (by omega)), fun c => ⟨by omega, mid _ (by split <;> omega) (fun x hx _ => ?_)⟩⟩
  split at hx <;> omega
theorem p1_closeLine {l b z : Nat} {g : m_G} {s : Nat → Int} {nd : Nat → Nat → Int} {σ : d_S} {K : Nat → List Nat} {q : m_Post} (hD : v_D g b s nd) (hW : h_W s) (hR : v_R g σ K z) (hI : d_I s 7200 σ) (hl : (l : Int) < s 1) (hz5 : z ≤ 500) (hF4 : ∀ j, 0 ≤ σ.2 4 j ∧ σ.2 4 j ≤ 900000000)
    (h : ∀ g', v_R g' (d_endl l σ) K z → (∀ j, j ≠ 40 → g' j = g j) → q none g') : wX1_closeLine.1 [.inr (.inr 39), .inr (.inr (44 + l))] g q := by
  have hz0 := hW.1
  have hcl : m_lnc (44 + l) := by unfold m_lnc; omega
  have hL := hR.1 l (by omega)
  obtain ⟨⟨⟨a1, a2, a3, a4, a5, a6, a7⟩, ⟨b1, b2, b3⟩, c⟩, hzz⟩ := hL
  have hlen := d_len hW hI l (by omega)
  have hln : (σ.1 l).length = (K l).length := by rw [b1, List.length_map]
  refine m_wp_of (by simp [m_fit]) (fun J hJ => ?_)
  simp only [m_ini, Nat.reduceSub, List.replicate]
  have fin : ∀ g1 : m_G, (∀ j, j ≠ 40 → g1 j = g j) → (∀ t, t < 5 → g1 40 t = (d_endl l σ).2 4 t) → q none g1 := by
    intro g1 hO hT
    refine h g1 (hR.num (Nat.le_refl z) (d_endl_Q l σ) ⟨d_endl_ne (by decide) σ, d_endl_ne (by decide) σ, d_endl_ne (by decide) σ, d_endl_ne (by decide) σ⟩ (fun j hj => hO j (by omega)) (fun m _ => by rw [hO 55 (by decide)]) (fun t ht => ?_) ?_ ?_ ?_) hO
    · rw [hO 41 (by decide), hO 42 (by decide), d_endl_ne (j := 5) (by decide), d_endl_ne (j := 6) (by decide)]
      exact ⟨hT t ht, (hR.2.2.1 t ht).2⟩
    · rw [hO 39 (by decide), d_endl_ne (j := 8) (by decide)]; exact hR.2.2.2.1
    · rw [hO 39 (by decide), d_endl_ne (j := 8) (by decide)]; exact hR.2.2.2.2.1
    · rw [hO 39 (by decide), d_endl_ne (j := 8) (by decide)]; exact hR.2.2.2.2.2
  have s64 : ∀ (n i : Nat) (v : Int) (g1 : m_G) (x4 x5 : Option m_V), n < 500 → i < 100 → 0 ≤ g 51 n ∧ g 51 n < 5 → (∀ j, j ≠ 40 → g1 j = g j) → m_nl x4 → J 7 [some (.inr (.inr 39)), some (.inr (.inr (44 + l))), some (.inl (g 54 n)), some (.inl (i + 1 : Nat)), x4, some (.inl v)] [] (m_up g1 40 (g 51 n).toNat (m_wrap (g1 40 (g 51 n).toNat + m_wrap (7200 - v)))) → J 64 [some (.inr (.inr 39)), some (.inr (.inr (44 + l))), some (.inl n), some (.inl i), x4, x5] [.inl v] g1 := by
    intro n i v g1 x4 x5 hn hi hc hO n4 hj
    refine m_run_ok hJ (fun pc => pc == 7 || pc == 64) 80 _ _ _ _ ?_
    simp only [e_go, rX1_closeLine_0, rX1_closeLine_1, rX1_closeLine_4, rX1_closeLine_5, rX1_closeLine_6, rX1_closeLine_7, rX1_closeLine_8, rX1_closeLine_9, rX1_closeLine_12, rX1_closeLine_15, rX1_closeLine_16, rX1_closeLine_19, rX1_closeLine_20, rX1_closeLine_23, rX1_closeLine_24, rX1_closeLine_27, rX1_closeLine_30, rX1_closeLine_31, rX1_closeLine_34, rX1_closeLine_35, rX1_closeLine_37, rX1_closeLine_39, rX1_closeLine_42, rX1_closeLine_43, rX1_closeLine_46, rX1_closeLine_49, rX1_closeLine_52, rX1_closeLine_55, rX1_closeLine_56, rX1_closeLine_59, rX1_closeLine_62, rX1_closeLine_63, rX1_closeLine_64, rX1_closeLine_66, rX1_closeLine_67, rX1_closeLine_70, rX1_closeLine_71, rX1_closeLine_74, rX1_closeLine_77, rX1_closeLine_78, rX1_closeLine_79, rX1_closeLine_80, rX1_closeLine_81, rX1_closeLine_84, rX1_closeLine_86, rX1_closeLine_87, rX1_closeLine_88, rX1_closeLine_89, rX1_closeLine_90, rX1_closeLine_93, rX1_closeLine_96, rX1_closeLine_97, rX1_closeLine_98, rX1_closeLine_99, rX1_closeLine_102, rX1_closeLine_105, e_ald0, e_ald1, e_bin, e_dup2, e_get, e_goto, e_iald, e_iast, e_icmp, e_if, e_ild2, e_ild3, e_ild4, e_ild5, e_inc3, e_ist2, e_ist3, e_ist4, e_ist5, e_min, e_nl0, e_nl1, e_nl2, e_push, e_retv, m_b0, m_b01, m_b1, m_em, Classical.not_not, Nat.reduceBEq, Nat.reduceLT, Nat.reduceLeDiff, Nat.reduceAdd, cond_true, cond_false, Bool.or_false, Bool.false_or, Bool.or_true, Bool.true_or, beq_iff_eq, true_and, and_true, true_or, or_true, forall_const, not_true_eq_false, not_false_eq_true, false_implies, implies_true, Nat.reduceEqDiff, List.length_nil, List.length_cons, ob_39, fv_39_0, fv_39_1, fv_39_2, fv_39_3, fv_39_4, fs_39_4, fv_39_5, fs_39_5, fv_39_6, fv_39_7, fs_39_7, fv_39_8, fs_39_8, fv_39_9, fs_39_9, fv_39_10, fs_39_10, kd_40, ln_40, ob_50, fv_50_0, fs_50_0, fv_50_1, fv_50_2, fv_50_3, fv_50_4, fv_50_5, fv_50_6, fv_50_7, kd_51, ln_51, kd_52, ln_52, kd_54, ln_54, obL hcl, fvL0 hcl, fsL0 hcl, fvL1 hcl, fsL1 hcl, fvL2 hcl, fsL2 hcl, fvL3 hcl, fsL3 hcl, fvL4 hcl, fsL4 hcl, fvL5 hcl, fsL5 hcl, fvL6 hcl, fsL6 hcl, fvL7 hcl, fsL7 hcl, fvL8 hcl, fsL8 hcl, fvL9 hcl, fsL9 hcl, fvL10 hcl, fsL10 hcl, fvL11 hcl, fsL11 hcl, Int.toNat_natCast]
    rw [hO 51 (by decide), m_w2 (x := (i : Int) + 1) (by omega) (by omega), m_up_ne (by decide), hO 54 (by decide)]
    exact ⟨n4, by omega, by omega, by omega, by omega, hj⟩
  have rest : ∀ (r : List Nat) (i : Nat) (f : Int) (F : m_G) (g1 : m_G) (x4 x5 : Option m_V), 1 ≤ i → i + r.length = (K l).length → v_ch g r f → (∀ n ∈ r, n < z ∧ (0 ≤ g 51 n ∧ g 51 n < 5)) → (∀ j, j ≠ 40 → g1 j = g j) → (∀ t, t < 5 → g1 40 t = F 4 t) → (∀ t, (d_endl l σ).2 4 t = d_rest (r.map (v_car g)) F 4 t) → m_nl x4 → J 7 [some (.inr (.inr 39)), some (.inr (.inr (44 + l))), some (.inl f), some (.inl i), x4, x5] [] g1 := by
    intro r
    induction r with
    | nil =>
      intro i f F g1 x4 x5 hi hlen2 hch hr hO hT hE n4
      have e0 : g1 (44 + l) 0 = ((K l).length : Int) := by rw [hO _ (by omega), a1, hln]
      refine m_run_ok hJ (fun pc => pc == 7 || pc == 64) 80 _ _ _ _ ?_
      simp only [e_go, rX1_closeLine_0, rX1_closeLine_1, rX1_closeLine_4, rX1_closeLine_5, rX1_closeLine_6, rX1_closeLine_7, rX1_closeLine_8, rX1_closeLine_9, rX1_closeLine_12, rX1_closeLine_15, rX1_closeLine_16, rX1_closeLine_19, rX1_closeLine_20, rX1_closeLine_23, rX1_closeLine_24, rX1_closeLine_27, rX1_closeLine_30, rX1_closeLine_31, rX1_closeLine_34, rX1_closeLine_35, rX1_closeLine_37, rX1_closeLine_39, rX1_closeLine_42, rX1_closeLine_43, rX1_closeLine_46, rX1_closeLine_49, rX1_closeLine_52, rX1_closeLine_55, rX1_closeLine_56, rX1_closeLine_59, rX1_closeLine_62, rX1_closeLine_63, rX1_closeLine_64, rX1_closeLine_66, rX1_closeLine_67, rX1_closeLine_70, rX1_closeLine_71, rX1_closeLine_74, rX1_closeLine_77, rX1_closeLine_78, rX1_closeLine_79, rX1_closeLine_80, rX1_closeLine_81, rX1_closeLine_84, rX1_closeLine_86, rX1_closeLine_87, rX1_closeLine_88, rX1_closeLine_89, rX1_closeLine_90, rX1_closeLine_93, rX1_closeLine_96, rX1_closeLine_97, rX1_closeLine_98, rX1_closeLine_99, rX1_closeLine_102, rX1_closeLine_105, e_ald0, e_ald1, e_bin, e_dup2, e_get, e_goto, e_iald, e_iast, e_icmp, e_if, e_ild2, e_ild3, e_ild4, e_ild5, e_inc3, e_ist2, e_ist3, e_ist4, e_ist5, e_min, e_nl0, e_nl1, e_nl2, e_push, e_retv, m_b0, m_b01, m_b1, m_em, Classical.not_not, Nat.reduceBEq, Nat.reduceLT, Nat.reduceLeDiff, Nat.reduceAdd, cond_true, cond_false, Bool.or_false, Bool.false_or, Bool.or_true, Bool.true_or, beq_iff_eq, true_and, and_true, true_or, or_true, forall_const, not_true_eq_false, not_false_eq_true, false_implies, implies_true, Nat.reduceEqDiff, List.length_nil, List.length_cons, ob_39, fv_39_0, fv_39_1, fv_39_2, fv_39_3, fv_39_4, fs_39_4, fv_39_5, fs_39_5, fv_39_6, fv_39_7, fs_39_7, fv_39_8, fs_39_8, fv_39_9, fs_39_9, fv_39_10, fs_39_10, kd_40, ln_40, ob_50, fv_50_0, fs_50_0, fv_50_1, fv_50_2, fv_50_3, fv_50_4, fv_50_5, fv_50_6, fv_50_7, kd_51, ln_51, kd_52, ln_52, kd_54, ln_54, obL hcl, fvL0 hcl, fsL0 hcl, fvL1 hcl, fsL1 hcl, fvL2 hcl, fsL2 hcl, fvL3 hcl, fsL3 hcl, fvL4 hcl, fsL4 hcl, fvL5 hcl, fsL5 hcl, fvL6 hcl, fsL6 hcl, fvL7 hcl, fsL7 hcl, fvL8 hcl, fsL8 hcl, fvL9 hcl, fsL9 hcl, fvL10 hcl, fsL10 hcl, fvL11 hcl, fsL11 hcl, Int.toNat_natCast]
      rw [e0]
      simp only [List.length_nil] at hlen2
      refine ⟨fun _ => fin g1 hO (fun t ht => ?_), fun z => absurd z (by omega)⟩
      rw [hT t ht, hE]; rfl
    | cons n r ih =>
      intro i f F g1 x4 x5 hi hlen2 hch hr hO hT hE n4
      have e0 : g1 (44 + l) 0 = ((K l).length : Int) := by rw [hO _ (by omega), a1, hln]
      have hn := hr n List.mem_cons_self
      have hf : f = (n : Int) := hch.1
      subst hf
      simp only [List.length_cons] at hlen2
      refine m_run_ok hJ (fun pc => pc == 7 || pc == 64) 80 _ _ _ _ ?_
      simp only [e_go, rX1_closeLine_0, rX1_closeLine_1, rX1_closeLine_4, rX1_closeLine_5, rX1_closeLine_6, rX1_closeLine_7, rX1_closeLine_8, rX1_closeLine_9, rX1_closeLine_12, rX1_closeLine_15, rX1_closeLine_16, rX1_closeLine_19, rX1_closeLine_20, rX1_closeLine_23, rX1_closeLine_24, rX1_closeLine_27, rX1_closeLine_30, rX1_closeLine_31, rX1_closeLine_34, rX1_closeLine_35, rX1_closeLine_37, rX1_closeLine_39, rX1_closeLine_42, rX1_closeLine_43, rX1_closeLine_46, rX1_closeLine_49, rX1_closeLine_52, rX1_closeLine_55, rX1_closeLine_56, rX1_closeLine_59, rX1_closeLine_62, rX1_closeLine_63, rX1_closeLine_64, rX1_closeLine_66, rX1_closeLine_67, rX1_closeLine_70, rX1_closeLine_71, rX1_closeLine_74, rX1_closeLine_77, rX1_closeLine_78, rX1_closeLine_79, rX1_closeLine_80, rX1_closeLine_81, rX1_closeLine_84, rX1_closeLine_86, rX1_closeLine_87, rX1_closeLine_88, rX1_closeLine_89, rX1_closeLine_90, rX1_closeLine_93, rX1_closeLine_96, rX1_closeLine_97, rX1_closeLine_98, rX1_closeLine_99, rX1_closeLine_102, rX1_closeLine_105, e_ald0, e_ald1, e_bin, e_dup2, e_get, e_goto, e_iald, e_iast, e_icmp, e_if, e_ild2, e_ild3, e_ild4, e_ild5, e_inc3, e_ist2, e_ist3, e_ist4, e_ist5, e_min, e_nl0, e_nl1, e_nl2, e_push, e_retv, m_b0, m_b01, m_b1, m_em, Classical.not_not, Nat.reduceBEq, Nat.reduceLT, Nat.reduceLeDiff, Nat.reduceAdd, cond_true, cond_false, Bool.or_false, Bool.false_or, Bool.or_true, Bool.true_or, beq_iff_eq, true_and, and_true, true_or, or_true, forall_const, not_true_eq_false, not_false_eq_true, false_implies, implies_true, Nat.reduceEqDiff, List.length_nil, List.length_cons, ob_39, fv_39_0, fv_39_1, fv_39_2, fv_39_3, fv_39_4, fs_39_4, fv_39_5, fs_39_5, fv_39_6, fv_39_7, fs_39_7, fv_39_8, fs_39_8, fv_39_9, fs_39_9, fv_39_10, fs_39_10, kd_40, ln_40, ob_50, fv_50_0, fs_50_0, fv_50_1, fv_50_2, fv_50_3, fv_50_4, fv_50_5, fv_50_6, fv_50_7, kd_51, ln_51, kd_52, ln_52, kd_54, ln_54, obL hcl, fvL0 hcl, fsL0 hcl, fvL1 hcl, fsL1 hcl, fvL2 hcl, fsL2 hcl, fvL3 hcl, fsL3 hcl, fvL4 hcl, fsL4 hcl, fvL5 hcl, fsL5 hcl, fvL6 hcl, fsL6 hcl, fvL7 hcl, fsL7 hcl, fvL8 hcl, fsL8 hcl, fvL9 hcl, fsL9 hcl, fvL10 hcl, fsL10 hcl, fvL11 hcl, fsL11 hcl, Int.toNat_natCast]
      rw [e0, hO 52 (by decide)]
      have nx : J 64 [some (.inr (.inr 39)), some (.inr (.inr (44 + l))), some (.inl n), some (.inl i), some (.inl 0), x5] [.inl (g 52 n)] g1 := by
        refine s64 n i _ g1 _ _ (by omega) (by omega) hn.2 hO trivial ?_
        refine ih (i + 1) _ (d_wt F (g 51 n) (7200 - g 52 n)) _ _ _ (by omega) (by omega) hch.2 (fun m hm => hr m (List.mem_cons_of_mem _ hm)) (fun j hj => (m_up_ne hj).trans (hO j hj)) (fun t ht => ?_) (fun t => hE t) trivial
        unfold d_wt
        simp only [m_upv, true_and, reduceIte]
        rw [hT _ (by omega)]
        by_cases e : t = (g 51 n).toNat
        · rw [if_pos e, if_pos e]
        · rw [if_neg e, if_neg e]; exact hT t ht
      refine ⟨fun z => absurd z (by omega), fun _ => ⟨fun z => absurd z (by omega), fun _ => ⟨fun _ => ⟨by omega, nx⟩, fun z => absurd z (by omega)⟩⟩⟩
  cases hk : K l with
  | nil =>
    have hq0 : σ.1 l = [] := by rw [b1, hk]; rfl
    have e0 : g (44 + l) 0 = 0 := by rw [a1, hq0]; rfl
    refine m_run_ok hJ (fun pc => pc == 7 || pc == 64) 80 _ _ _ _ ?_
    simp only [e_go, rX1_closeLine_0, rX1_closeLine_1, rX1_closeLine_4, rX1_closeLine_5, rX1_closeLine_6, rX1_closeLine_7, rX1_closeLine_8, rX1_closeLine_9, rX1_closeLine_12, rX1_closeLine_15, rX1_closeLine_16, rX1_closeLine_19, rX1_closeLine_20, rX1_closeLine_23, rX1_closeLine_24, rX1_closeLine_27, rX1_closeLine_30, rX1_closeLine_31, rX1_closeLine_34, rX1_closeLine_35, rX1_closeLine_37, rX1_closeLine_39, rX1_closeLine_42, rX1_closeLine_43, rX1_closeLine_46, rX1_closeLine_49, rX1_closeLine_52, rX1_closeLine_55, rX1_closeLine_56, rX1_closeLine_59, rX1_closeLine_62, rX1_closeLine_63, rX1_closeLine_64, rX1_closeLine_66, rX1_closeLine_67, rX1_closeLine_70, rX1_closeLine_71, rX1_closeLine_74, rX1_closeLine_77, rX1_closeLine_78, rX1_closeLine_79, rX1_closeLine_80, rX1_closeLine_81, rX1_closeLine_84, rX1_closeLine_86, rX1_closeLine_87, rX1_closeLine_88, rX1_closeLine_89, rX1_closeLine_90, rX1_closeLine_93, rX1_closeLine_96, rX1_closeLine_97, rX1_closeLine_98, rX1_closeLine_99, rX1_closeLine_102, rX1_closeLine_105, e_ald0, e_ald1, e_bin, e_dup2, e_get, e_goto, e_iald, e_iast, e_icmp, e_if, e_ild2, e_ild3, e_ild4, e_ild5, e_inc3, e_ist2, e_ist3, e_ist4, e_ist5, e_min, e_nl0, e_nl1, e_nl2, e_push, e_retv, m_b0, m_b01, m_b1, m_em, Classical.not_not, Nat.reduceBEq, Nat.reduceLT, Nat.reduceLeDiff, Nat.reduceAdd, cond_true, cond_false, Bool.or_false, Bool.false_or, Bool.or_true, Bool.true_or, beq_iff_eq, true_and, and_true, true_or, or_true, forall_const, not_true_eq_false, not_false_eq_true, false_implies, implies_true, Nat.reduceEqDiff, List.length_nil, List.length_cons, ob_39, fv_39_0, fv_39_1, fv_39_2, fv_39_3, fv_39_4, fs_39_4, fv_39_5, fs_39_5, fv_39_6, fv_39_7, fs_39_7, fv_39_8, fs_39_8, fv_39_9, fs_39_9, fv_39_10, fs_39_10, kd_40, ln_40, ob_50, fv_50_0, fs_50_0, fv_50_1, fv_50_2, fv_50_3, fv_50_4, fv_50_5, fv_50_6, fv_50_7, kd_51, ln_51, kd_52, ln_52, kd_54, ln_54, obL hcl, fvL0 hcl, fsL0 hcl, fvL1 hcl, fsL1 hcl, fvL2 hcl, fsL2 hcl, fvL3 hcl, fsL3 hcl, fvL4 hcl, fsL4 hcl, fvL5 hcl, fsL5 hcl, fvL6 hcl, fsL6 hcl, fvL7 hcl, fsL7 hcl, fvL8 hcl, fsL8 hcl, fvL9 hcl, fsL9 hcl, fvL10 hcl, fsL10 hcl, fvL11 hcl, fsL11 hcl, Int.toNat_natCast]
    refine m_run_ok hJ (fun pc => pc == 7 || pc == 64) 80 _ _ _ _ ?_
    simp only [e_go, rX1_closeLine_0, rX1_closeLine_1, rX1_closeLine_4, rX1_closeLine_5, rX1_closeLine_6, rX1_closeLine_7, rX1_closeLine_8, rX1_closeLine_9, rX1_closeLine_12, rX1_closeLine_15, rX1_closeLine_16, rX1_closeLine_19, rX1_closeLine_20, rX1_closeLine_23, rX1_closeLine_24, rX1_closeLine_27, rX1_closeLine_30, rX1_closeLine_31, rX1_closeLine_34, rX1_closeLine_35, rX1_closeLine_37, rX1_closeLine_39, rX1_closeLine_42, rX1_closeLine_43, rX1_closeLine_46, rX1_closeLine_49, rX1_closeLine_52, rX1_closeLine_55, rX1_closeLine_56, rX1_closeLine_59, rX1_closeLine_62, rX1_closeLine_63, rX1_closeLine_64, rX1_closeLine_66, rX1_closeLine_67, rX1_closeLine_70, rX1_closeLine_71, rX1_closeLine_74, rX1_closeLine_77, rX1_closeLine_78, rX1_closeLine_79, rX1_closeLine_80, rX1_closeLine_81, rX1_closeLine_84, rX1_closeLine_86, rX1_closeLine_87, rX1_closeLine_88, rX1_closeLine_89, rX1_closeLine_90, rX1_closeLine_93, rX1_closeLine_96, rX1_closeLine_97, rX1_closeLine_98, rX1_closeLine_99, rX1_closeLine_102, rX1_closeLine_105, e_ald0, e_ald1, e_bin, e_dup2, e_get, e_goto, e_iald, e_iast, e_icmp, e_if, e_ild2, e_ild3, e_ild4, e_ild5, e_inc3, e_ist2, e_ist3, e_ist4, e_ist5, e_min, e_nl0, e_nl1, e_nl2, e_push, e_retv, m_b0, m_b01, m_b1, m_em, Classical.not_not, Nat.reduceBEq, Nat.reduceLT, Nat.reduceLeDiff, Nat.reduceAdd, cond_true, cond_false, Bool.or_false, Bool.false_or, Bool.or_true, Bool.true_or, beq_iff_eq, true_and, and_true, true_or, or_true, forall_const, not_true_eq_false, not_false_eq_true, false_implies, implies_true, Nat.reduceEqDiff, List.length_nil, List.length_cons, ob_39, fv_39_0, fv_39_1, fv_39_2, fv_39_3, fv_39_4, fs_39_4, fv_39_5, fs_39_5, fv_39_6, fv_39_7, fs_39_7, fv_39_8, fs_39_8, fv_39_9, fs_39_9, fv_39_10, fs_39_10, kd_40, ln_40, ob_50, fv_50_0, fs_50_0, fv_50_1, fv_50_2, fv_50_3, fv_50_4, fv_50_5, fv_50_6, fv_50_7, kd_51, ln_51, kd_52, ln_52, kd_54, ln_54, obL hcl, fvL0 hcl, fsL0 hcl, fvL1 hcl, fsL1 hcl, fvL2 hcl, fsL2 hcl, fvL3 hcl, fsL3 hcl, fvL4 hcl, fsL4 hcl, fvL5 hcl, fsL5 hcl, fvL6 hcl, fsL6 hcl, fvL7 hcl, fsL7 hcl, fvL8 hcl, fsL8 hcl, fvL9 hcl, fsL9 hcl, fvL10 hcl, fsL10 hcl, fvL11 hcl, fsL11 hcl, Int.toNat_natCast]
    rw [e0]
    refine ⟨fun _ => fin g (fun _ _ => rfl) (fun t ht => ?_), fun z => absurd z (by decide)⟩
    have : d_endl l σ = σ := by unfold d_endl; rw [hq0]
    rw [this]
    exact (hR.2.2.1 t ht).1
  | cons n r =>
    have hQ : σ.1 l = v_car g n :: r.map (v_car g) := by rw [b1, hk]; rfl
    rw [hk] at b2 b3
    have hf := b2.1
    have hcI : ∀ m ∈ K l, m < z ∧ 0 ≤ g 51 m ∧ g 51 m < 5 := fun m hm => by
      have := ((hI.1 l (by omega)).2.1 (v_car g m) (by rw [b1]; exact List.mem_map_of_mem hm)).1
      have h51 : (v_car g m).1 = g 51 m := rfl
      rw [h51] at this
      exact ⟨hzz m hm, by omega, by omega⟩
    have hcn := hcI n (by rw [hk]; exact List.mem_cons_self)
    have hcr : ∀ m ∈ r, m < z ∧ 0 ≤ g 51 m ∧ g 51 m < 5 := fun m hm => hcI m (by rw [hk]; exact List.mem_cons_of_mem _ hm)
    have hll : 0 + 1 + r.length = (K l).length := by rw [hk, List.length_cons]; omega
    have e0 : g (44 + l) 0 = ((K l).length : Int) := by rw [a1, hln]
    have eE : (d_endl l σ).2 = d_rest (r.map (v_car g)) (if 0 ≤ σ.2 0 l then (if σ.2 0 l < 7200 then d_wt σ.2 (g 51 n) (7200 - σ.2 0 l) else σ.2) else d_wt σ.2 (g 51 n) (7200 - g 52 n)) := by
      unfold d_endl
      rw [hQ]
      rfl
    have go : ∀ (v x4 : Int) (F : m_G), (∀ t, t < 5 → (m_up g 40 (g 51 n).toNat (m_wrap (g 40 (g 51 n).toNat + m_wrap (7200 - v)))) 40 t = F 4 t) → (d_endl l σ).2 = d_rest (r.map (v_car g)) F → J 64 [some (.inr (.inr 39)), some (.inr (.inr (44 + l))), some (.inl n), some (.inl (0 : Nat)), some (.inl x4), none] [.inl v] g := by
      intro v x4 F hT hE
      refine s64 n 0 v g _ _ (by omega) (by omega) hcn.2 (fun _ _ => rfl) trivial ?_
      exact rest r (0 + 1) _ F _ _ _ (by omega) hll b2.2 hcr (fun j hj => m_up_ne hj) hT (fun t => by rw [hE]) trivial
    have wt : ∀ v : Int, ∀ t, t < 5 → (m_up g 40 (g 51 n).toNat (m_wrap (g 40 (g 51 n).toNat + m_wrap (7200 - v)))) 40 t = d_wt σ.2 (g 51 n) (7200 - v) 4 t := by
      intro v t ht
      unfold d_wt
      simp only [m_upv, true_and, reduceIte]
      rw [(hR.2.2.1 (g 51 n).toNat (by omega)).1]
      by_cases e : t = (g 51 n).toNat
      · rw [if_pos e, if_pos e]
      · rw [if_neg e, if_neg e]; exact (hR.2.2.1 t ht).1
    refine m_run_ok hJ (fun pc => pc == 7 || pc == 64) 80 _ _ _ _ ?_
    simp only [e_go, rX1_closeLine_0, rX1_closeLine_1, rX1_closeLine_4, rX1_closeLine_5, rX1_closeLine_6, rX1_closeLine_7, rX1_closeLine_8, rX1_closeLine_9, rX1_closeLine_12, rX1_closeLine_15, rX1_closeLine_16, rX1_closeLine_19, rX1_closeLine_20, rX1_closeLine_23, rX1_closeLine_24, rX1_closeLine_27, rX1_closeLine_30, rX1_closeLine_31, rX1_closeLine_34, rX1_closeLine_35, rX1_closeLine_37, rX1_closeLine_39, rX1_closeLine_42, rX1_closeLine_43, rX1_closeLine_46, rX1_closeLine_49, rX1_closeLine_52, rX1_closeLine_55, rX1_closeLine_56, rX1_closeLine_59, rX1_closeLine_62, rX1_closeLine_63, rX1_closeLine_64, rX1_closeLine_66, rX1_closeLine_67, rX1_closeLine_70, rX1_closeLine_71, rX1_closeLine_74, rX1_closeLine_77, rX1_closeLine_78, rX1_closeLine_79, rX1_closeLine_80, rX1_closeLine_81, rX1_closeLine_84, rX1_closeLine_86, rX1_closeLine_87, rX1_closeLine_88, rX1_closeLine_89, rX1_closeLine_90, rX1_closeLine_93, rX1_closeLine_96, rX1_closeLine_97, rX1_closeLine_98, rX1_closeLine_99, rX1_closeLine_102, rX1_closeLine_105, e_ald0, e_ald1, e_bin, e_dup2, e_get, e_goto, e_iald, e_iast, e_icmp, e_if, e_ild2, e_ild3, e_ild4, e_ild5, e_inc3, e_ist2, e_ist3, e_ist4, e_ist5, e_min, e_nl0, e_nl1, e_nl2, e_push, e_retv, m_b0, m_b01, m_b1, m_em, Classical.not_not, Nat.reduceBEq, Nat.reduceLT, Nat.reduceLeDiff, Nat.reduceAdd, cond_true, cond_false, Bool.or_false, Bool.false_or, Bool.or_true, Bool.true_or, beq_iff_eq, true_and, and_true, true_or, or_true, forall_const, not_true_eq_false, not_false_eq_true, false_implies, implies_true, Nat.reduceEqDiff, List.length_nil, List.length_cons, ob_39, fv_39_0, fv_39_1, fv_39_2, fv_39_3, fv_39_4, fs_39_4, fv_39_5, fs_39_5, fv_39_6, fv_39_7, fs_39_7, fv_39_8, fs_39_8, fv_39_9, fs_39_9, fv_39_10, fs_39_10, kd_40, ln_40, ob_50, fv_50_0, fs_50_0, fv_50_1, fv_50_2, fv_50_3, fv_50_4, fv_50_5, fv_50_6, fv_50_7, kd_51, ln_51, kd_52, ln_52, kd_54, ln_54, obL hcl, fvL0 hcl, fsL0 hcl, fvL1 hcl, fsL1 hcl, fvL2 hcl, fsL2 hcl, fvL3 hcl, fsL3 hcl, fvL4 hcl, fsL4 hcl, fvL5 hcl, fsL5 hcl, fvL6 hcl, fsL6 hcl, fvL7 hcl, fsL7 hcl, fvL8 hcl, fsL8 hcl, fvL9 hcl, fsL9 hcl, fvL10 hcl, fsL10 hcl, fvL11 hcl, fsL11 hcl, Int.toNat_natCast]
    refine m_run_ok hJ (fun pc => pc == 7 || pc == 64) 80 _ _ _ _ ?_
    simp only [e_go, rX1_closeLine_0, rX1_closeLine_1, rX1_closeLine_4, rX1_closeLine_5, rX1_closeLine_6, rX1_closeLine_7, rX1_closeLine_8, rX1_closeLine_9, rX1_closeLine_12, rX1_closeLine_15, rX1_closeLine_16, rX1_closeLine_19, rX1_closeLine_20, rX1_closeLine_23, rX1_closeLine_24, rX1_closeLine_27, rX1_closeLine_30, rX1_closeLine_31, rX1_closeLine_34, rX1_closeLine_35, rX1_closeLine_37, rX1_closeLine_39, rX1_closeLine_42, rX1_closeLine_43, rX1_closeLine_46, rX1_closeLine_49, rX1_closeLine_52, rX1_closeLine_55, rX1_closeLine_56, rX1_closeLine_59, rX1_closeLine_62, rX1_closeLine_63, rX1_closeLine_64, rX1_closeLine_66, rX1_closeLine_67, rX1_closeLine_70, rX1_closeLine_71, rX1_closeLine_74, rX1_closeLine_77, rX1_closeLine_78, rX1_closeLine_79, rX1_closeLine_80, rX1_closeLine_81, rX1_closeLine_84, rX1_closeLine_86, rX1_closeLine_87, rX1_closeLine_88, rX1_closeLine_89, rX1_closeLine_90, rX1_closeLine_93, rX1_closeLine_96, rX1_closeLine_97, rX1_closeLine_98, rX1_closeLine_99, rX1_closeLine_102, rX1_closeLine_105, e_ald0, e_ald1, e_bin, e_dup2, e_get, e_goto, e_iald, e_iast, e_icmp, e_if, e_ild2, e_ild3, e_ild4, e_ild5, e_inc3, e_ist2, e_ist3, e_ist4, e_ist5, e_min, e_nl0, e_nl1, e_nl2, e_push, e_retv, m_b0, m_b01, m_b1, m_em, Classical.not_not, Nat.reduceBEq, Nat.reduceLT, Nat.reduceLeDiff, Nat.reduceAdd, cond_true, cond_false, Bool.or_false, Bool.false_or, Bool.or_true, Bool.true_or, beq_iff_eq, true_and, and_true, true_or, or_true, forall_const, not_true_eq_false, not_false_eq_true, false_implies, implies_true, Nat.reduceEqDiff, List.length_nil, List.length_cons, ob_39, fv_39_0, fv_39_1, fv_39_2, fv_39_3, fv_39_4, fs_39_4, fv_39_5, fs_39_5, fv_39_6, fv_39_7, fs_39_7, fv_39_8, fs_39_8, fv_39_9, fs_39_9, fv_39_10, fs_39_10, kd_40, ln_40, ob_50, fv_50_0, fs_50_0, fv_50_1, fv_50_2, fv_50_3, fv_50_4, fv_50_5, fv_50_6, fv_50_7, kd_51, ln_51, kd_52, ln_52, kd_54, ln_54, obL hcl, fvL0 hcl, fsL0 hcl, fvL1 hcl, fsL1 hcl, fvL2 hcl, fsL2 hcl, fvL3 hcl, fsL3 hcl, fvL4 hcl, fsL4 hcl, fvL5 hcl, fsL5 hcl, fvL6 hcl, fsL6 hcl, fvL7 hcl, fsL7 hcl, fvL8 hcl, fsL8 hcl, fvL9 hcl, fsL9 hcl, fvL10 hcl, fsL10 hcl, fvL11 hcl, fsL11 hcl, Int.toNat_natCast]
    rw [e0, hf, a2]
    by_cases cs : 0 ≤ σ.2 0 l
    · rw [if_pos cs, a3 cs]
      rw [if_pos cs] at eE
      refine ⟨fun z => absurd z (by omega), fun _ => ⟨fun z => absurd z (by omega), fun _ => ⟨fun z => absurd z (by decide), fun _ => ⟨fun z => absurd z (by decide), fun _ => ?_⟩⟩⟩⟩
      by_cases c72 : σ.2 0 l < 7200
      · rw [if_pos c72] at eE
        rw [if_neg (by omega)]
        exact go (σ.2 0 l) 1 _ (wt _) eE
      · rw [if_neg c72] at eE
        have gg : J 64 [some (.inr (.inr 39)), some (.inr (.inr (44 + l))), some (.inl n), some (.inl (0 : Nat)), some (.inl 1), none] [.inl 7200] g := by
          refine go 7200 1 _ (fun t ht => ?_) eE
          simp only [m_upv, true_and]
          have hb4 := hF4 (g 51 n).toNat
          rw [(hR.2.2.1 (g 51 n).toNat (by omega)).1]
          by_cases e : t = (g 51 n).toNat
          · rw [if_pos e, e, m_w2 (x := 7200 - 7200) (by decide) (by decide), m_w2 (by omega) (by omega)]; omega
          · rw [if_neg e]; exact (hR.2.2.1 t ht).1
        by_cases c73 : 7200 < σ.2 0 l
        · rw [if_pos c73]; exact gg
        · rw [if_neg c73, show σ.2 0 l = 7200 by omega]; exact gg
    · rw [if_neg cs]
      rw [if_neg cs] at eE
      refine ⟨fun z => absurd z (by omega), fun _ => ⟨fun z => absurd z (by omega), fun _ => ⟨fun _ => ⟨by omega, ?_⟩, fun z => absurd rfl z⟩⟩⟩
      rw [Int.toNat_natCast]
      exact go (g 52 n) 0 _ (wt _) eE
