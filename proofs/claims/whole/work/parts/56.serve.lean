set_option maxRecDepth 20000
set_option maxHeartbeats 2000000
def v_tK (K : Nat → List Nat) (l : Nat) : Nat → List Nat := fun j => if j = l then (K l).tail else K j
/-- the first of a lane leaves -/
theorem v_R.leave {g g' : m_G} {s : Nat → Int} {n0 l n now z : Nat} {r : List Nat} {σ : d_S} {K : Nat → List Nat} (hW : h_W s) (hR : v_R g σ K z) (hI : d_I s n0 σ) (hl : l < 6) (hq : K l = n :: r) (hs : 0 ≤ σ.2 0 l)
    (h0 : g' (44 + l) 0 = m_wrap (g (44 + l) 0 - 1)) (h4 : g' (44 + l) 4 = m_wrap (g (44 + l) 4 + 1)) (h5 : g' (44 + l) 5 = 0) (h7 : g' (44 + l) 7 = g 54 n)
    (hk : ∀ k, k = 1 ∨ k = 2 ∨ k = 3 ∨ k = 6 ∨ k = 11 → g' (44 + l) k = g (44 + l) k) (ho : ∀ j, 44 ≤ j → j < 56 → j ≠ 44 + l → g' j = g j)
    (hT : ∀ t, t < 5 → g' 40 t = (if (t : Int) = g 51 n then m_wrap (g 40 t + m_wrap (now - σ.2 0 l)) else g 40 t) ∧ g' 41 t = (if (t : Int) = g 51 n then m_wrap (g 41 t + 1) else g 41 t) ∧ g' 42 t = g 42 t) (h8 : g' 39 4 = g 39 4 ∧ g' 39 10 = g 39 10 ∧ g' 39 5 = now) : v_R g' (d_leave l now σ) (v_tK K l) z := by
  obtain ⟨hL, hA, hTT, hS1, hS2, hS3⟩ := hR
  obtain ⟨⟨⟨a1, a2, a3, a4, a5, a6, a7⟩, ⟨b1, b2, b3⟩, c⟩, hz⟩ := hL l hl
  have hlen := d_len hW hI l hl
  have hcar : ∀ m, v_car g' m = v_car g m := fun m => by
    unfold v_car
    rw [ho 51 (by omega) (by omega) (by omega), ho 52 (by omega) (by omega) (by omega), ho 53 (by omega) (by omega) (by omega), ho 55 (by omega) (by omega) (by omega)]
  have h54 : g' 54 = g 54 := ho 54 (by omega) (by omega) (by omega)
  have hQ : σ.1 l = v_car g n :: r.map (v_car g) := by rw [b1, hq]; rfl
  have hct : (0 ≤ g 51 n ∧ g 51 n < s 0) := ((hI.1 l hl).2.1 (v_car g n) (by rw [hQ]; exact List.mem_cons_self)).1
  have hle : d_leave l now σ = (d_uq σ.1 l (r.map (v_car g)), m_up (m_up (m_up (m_up (m_up σ.2 4 (g 51 n).toNat (m_wrap (σ.2 4 (g 51 n).toNat + m_wrap (now - σ.2 0 l)))) 5 (g 51 n).toNat (m_wrap (σ.2 5 (g 51 n).toNat + 1))) 3 l (m_wrap (σ.2 3 l + 1))) 8 2 now) 0 l (-9)) := by
    unfold d_leave
    rw [hQ]
    rfl
  rw [hle]
  have hz0 := hW.1
  rw [hq] at b2 b3 c
  refine ⟨fun l' hl' => ?_, ?_, ?_, ?_, ?_, ?_⟩
  · by_cases e : l' = l
    · subst e
      have eK : v_tK K l' l' = r := by unfold v_tK; rw [if_pos rfl, hq]; rfl
      have eQ : d_uq σ.1 l' (r.map (v_car g)) l' = r.map (v_car g) := by unfold d_uq; rw [if_pos rfl]
      rw [eK]
      refine ⟨?_, fun m hm => hz m (by rw [hq]; exact List.mem_cons_of_mem _ hm)⟩
      unfold v_L
      simp only [m_upv, eQ]
      simp
      rw [hQ] at a1 hlen
      simp only [List.length_cons, List.length_map] at a1 hlen
      refine ⟨⟨?_, h5, ?_, ?_, ?_, ?_⟩, ⟨fun m _ => (hcar m).symm, ?_, ?_⟩, (List.nodup_cons.mp c).2⟩
      · rw [h0, a1, m_w2 (by omega) (by omega)]; omega
      · rw [hk 3 (by omega)]; exact a4
      · rw [h4, a5]
      · rw [hk 6 (by omega)]; exact a6
      · rw [hk 1 (by omega), a7, if_pos hs, hQ]; rfl
      · rw [h7]; exact b2.2.same (fun m _ => by rw [h54])
      · rw [hk 11 (by omega)]; exact v_la_tail b3
    · have eK : v_tK K l l' = K l' := by unfold v_tK; rw [if_neg e]
      rw [eK]
      refine ⟨(hL l' hl').1.same ?_ (fun k _ _ _ _ => by rw [ho _ (by omega) (by omega) (by omega)]) (fun m hm => ⟨hcar m, by rw [h54]⟩), fun m hm => (hL l' hl').2 m hm⟩
      unfold d_uq
      simp only [m_upv]
      simp [e]
  · have key : ∀ a m, m ∈ v_tK K l a → m ∈ K a := by
      intro a m h
      unfold v_tK at h
      by_cases e : a = l
      · subst e
        rw [if_pos rfl] at h
        exact List.mem_of_mem_tail h
      · rw [if_neg e] at h; exact h
    intro a b' m ha hb' h1 h2
    exact hA a b' m ha hb' (key a m h1) (key b' m h2)
  · intro t ht
    obtain ⟨t1, t2, t3⟩ := hT t ht
    obtain ⟨u1, u2, u3⟩ := hTT t ht
    rw [t1, t2, t3, u1, u2, u3]
    simp only [m_upv]
    simp
    by_cases e : t = (g 51 n).toNat
    · rw [if_pos e, if_pos e, if_pos (by omega), if_pos (by omega), ← e]; exact ⟨rfl, rfl⟩
    · rw [if_neg e, if_neg e, if_neg (by omega), if_neg (by omega)]; exact ⟨rfl, rfl⟩
  · simp only [m_upv]; simp; rw [h8.1]; exact hS1
  · simp only [m_upv]; simp; rw [h8.2.1]; exact hS2
  · simp only [m_upv]; simp; rw [h8.2.2]; omega
theorem p1_leaveLine {l now n0 b z : Nat} {g : m_G} {s : Nat → Int} {nd : Nat → Nat → Int} {σ : d_S} {K : Nat → List Nat} {q : m_Post} (hD : v_D g b s nd) (hW : h_W s) (hR : v_R g σ K z) (hI : d_I s n0 σ) (hnn : n0 ≤ now) (hn0 : now < 7200) (hJd : d_J σ) (hl : (l : Int) < s 1) (hz5 : z ≤ 500)
    (h : ∀ g' K', v_R g' (d_lv s l now σ) K' z → v_F g g' → g' 54 = g 54 → g' 55 = g 55 → q none g') : wX1_leaveLine.1 [.inr (.inr 39), .inr (.inr (44 + l)), .inl now] g q := by
  have hb := hD.1
  have hz := hW.1
  have w := hW.2.1
  have hcl : m_lnc (44 + l) := by unfold m_lnc; omega
  have e7 : (g 39 7).toNat = b := by rw [hD.2.1]; rfl
  have e3 : g (b + 6) 1 = s 3 := hD.2.2.1.2.2.1 1 (by decide)
  have h2 := hI.2.2
  have hx5 : g 39 5 = (if σ.2 8 2 < 0 then -1 else σ.2 8 2) := hR.2.2.2.2.2
  have hL := hR.1 l (by omega)
  obtain ⟨⟨⟨a1, a2, a3, a4, a5, a6, a7⟩, ⟨b1, b2, b3⟩, c⟩, hzz⟩ := hL
  refine m_wp_of (by simp [m_fit]) (fun J hJ => ?_)
  simp only [m_ini, Nat.reduceSub, List.replicate]
  have no : ¬ d_due s l now σ → q none g := fun hno => by
    unfold d_lv at h
    rw [if_neg hno] at h
    exact h g K hR v_F.rfl' rfl rfl
  have mid : ∀ road : Int, (¬ road = 0 ↔ (σ.2 8 2 < 0 ∨ s 3 ≤ now - σ.2 8 2)) → J 31 [some (.inr (.inr 39)), some (.inr (.inr (44 + l))), some (.inl now), some (.inl road), none] [] g := by
    intro road hroad
    refine m_run_ok hJ (fun pc => pc == 31) 80 _ _ _ _ ?_
    simp only [e_go, rX1_leaveLine_0, rX1_leaveLine_1, rX1_leaveLine_4, rX1_leaveLine_7, rX1_leaveLine_8, rX1_leaveLine_9, rX1_leaveLine_12, rX1_leaveLine_13, rX1_leaveLine_14, rX1_leaveLine_17, rX1_leaveLine_20, rX1_leaveLine_21, rX1_leaveLine_22, rX1_leaveLine_25, rX1_leaveLine_26, rX1_leaveLine_29, rX1_leaveLine_30, rX1_leaveLine_31, rX1_leaveLine_32, rX1_leaveLine_35, rX1_leaveLine_38, rX1_leaveLine_39, rX1_leaveLine_42, rX1_leaveLine_45, rX1_leaveLine_46, rX1_leaveLine_49, rX1_leaveLine_50, rX1_leaveLine_53, rX1_leaveLine_54, rX1_leaveLine_57, rX1_leaveLine_58, rX1_leaveLine_61, rX1_leaveLine_64, rX1_leaveLine_65, rX1_leaveLine_68, rX1_leaveLine_69, rX1_leaveLine_71, rX1_leaveLine_72, rX1_leaveLine_75, rX1_leaveLine_77, rX1_leaveLine_78, rX1_leaveLine_79, rX1_leaveLine_80, rX1_leaveLine_81, rX1_leaveLine_82, rX1_leaveLine_83, rX1_leaveLine_86, rX1_leaveLine_88, rX1_leaveLine_89, rX1_leaveLine_90, rX1_leaveLine_91, rX1_leaveLine_92, rX1_leaveLine_95, rX1_leaveLine_96, rX1_leaveLine_97, rX1_leaveLine_98, rX1_leaveLine_99, rX1_leaveLine_100, rX1_leaveLine_103, rX1_leaveLine_104, rX1_leaveLine_105, rX1_leaveLine_108, rX1_leaveLine_111, e_ald0, e_ald1, e_bin, e_callV2, e_dup2, e_get, e_goto, e_iald, e_iast, e_icmp, e_if, e_ild2, e_ild3, e_ild4, e_ist3, e_ist4, e_nl0, e_nl1, e_nl2, e_push, e_pushn, e_pushs, e_put, e_retv, m_b0, m_b01, m_b1, m_em, Classical.not_not, Nat.reduceBEq, Nat.reduceLT, Nat.reduceLeDiff, Nat.reduceAdd, cond_true, cond_false, Bool.or_false, Bool.false_or, Bool.or_true, Bool.true_or, beq_iff_eq, true_and, and_true, true_or, or_true, forall_const, not_true_eq_false, not_false_eq_true, false_implies, implies_true, Nat.reduceEqDiff, List.length_nil, List.length_cons, ob_39, fv_39_0, fv_39_1, fv_39_2, fv_39_3, fv_39_4, fs_39_4, fv_39_5, fs_39_5, fv_39_6, fv_39_7, fs_39_7, fv_39_8, fs_39_8, fv_39_9, fs_39_9, fv_39_10, fs_39_10, kd_40, ln_40, kd_41, ln_41, ob_50, fv_50_0, fs_50_0, fv_50_1, fv_50_2, fv_50_3, fv_50_4, fv_50_5, fv_50_6, fv_50_7, kd_51, ln_51, obL hcl, fvL0 hcl, fsL0 hcl, fvL1 hcl, fsL1 hcl, fvL2 hcl, fsL2 hcl, fvL3 hcl, fsL3 hcl, fvL4 hcl, fsL4 hcl, fvL5 hcl, fsL5 hcl, fvL6 hcl, fsL6 hcl, fvL7 hcl, fsL7 hcl, fvL8 hcl, fsL8 hcl, fvL9 hcl, fsL9 hcl, fvL10 hcl, fsL10 hcl, fvL11 hcl, fsL11 hcl, Int.toNat_natCast]
    refine ⟨fun c1 => no (fun d => ?_), fun c1 => ?_⟩
    · rw [a2, if_pos d.1.2.1] at c1; exact absurd c1 (by decide)
    have hs0 : 0 ≤ σ.2 0 l := by
      rw [a2] at c1
      by_cases y : 0 ≤ σ.2 0 l
      · exact y
      · rw [if_neg y] at c1; exact absurd rfl c1
    have hne := hJd l (by omega) hs0
    obtain ⟨n, r, hq⟩ : ∃ n r, K l = n :: r := by
      cases hk : K l with
      | nil => rw [b1, hk] at hne; exact absurd rfl hne
      | cons n r => exact ⟨n, r, rfl⟩
    have hf : g (44 + l) 7 = (n : Int) := by rw [hq] at b2; exact b2.1
    have hnz : n < z := hzz n (by rw [hq]; exact List.mem_cons_self)
    have hQ : σ.1 l = v_car g n :: r.map (v_car g) := by rw [b1, hq]; rfl
    have hct : (0 ≤ g 51 n ∧ g 51 n < s 0) := ((hI.1 l (by omega)).2.1 (v_car g n) (by rw [hQ]; exact List.mem_cons_self)).1
    simp only [hf, a3 hs0, Int.toNat_natCast]
    refine ⟨fun c2 => absurd c2 (by omega), fun _ => ⟨fun c3 => no (fun d => absurd d.1.2.2 (by omega)), fun c3 => ⟨fun c4 => no (fun d => (hroad.2 d.2) c4), fun c4 => ?_⟩⟩⟩
    have hdue : d_due s l now σ := ⟨⟨hne, hs0, by omega⟩, hroad.1 c4⟩
    unfold d_lv at h
    rw [if_pos hdue] at h
    have x41 : ¬ 44 + l = 41 := by omega
    have x40 : ¬ 44 + l = 40 := by omega
    have x39 : ¬ 44 + l = 39 := by omega
    simp only [m_upv, x41, false_and, Nat.reduceEqDiff, reduceIte, a3 hs0]
    refine ⟨by omega, by omega, by omega, by omega, by omega, ?_⟩
    refine p3_leave hcl (n := n) (by simp only [m_upv, x39, x40, x41, false_and, reduceIte]; exact hf) (by omega) ?_
    simp only [e_go, rX1_leaveLine_0, rX1_leaveLine_1, rX1_leaveLine_4, rX1_leaveLine_7, rX1_leaveLine_8, rX1_leaveLine_9, rX1_leaveLine_12, rX1_leaveLine_13, rX1_leaveLine_14, rX1_leaveLine_17, rX1_leaveLine_20, rX1_leaveLine_21, rX1_leaveLine_22, rX1_leaveLine_25, rX1_leaveLine_26, rX1_leaveLine_29, rX1_leaveLine_30, rX1_leaveLine_31, rX1_leaveLine_32, rX1_leaveLine_35, rX1_leaveLine_38, rX1_leaveLine_39, rX1_leaveLine_42, rX1_leaveLine_45, rX1_leaveLine_46, rX1_leaveLine_49, rX1_leaveLine_50, rX1_leaveLine_53, rX1_leaveLine_54, rX1_leaveLine_57, rX1_leaveLine_58, rX1_leaveLine_61, rX1_leaveLine_64, rX1_leaveLine_65, rX1_leaveLine_68, rX1_leaveLine_69, rX1_leaveLine_71, rX1_leaveLine_72, rX1_leaveLine_75, rX1_leaveLine_77, rX1_leaveLine_78, rX1_leaveLine_79, rX1_leaveLine_80, rX1_leaveLine_81, rX1_leaveLine_82, rX1_leaveLine_83, rX1_leaveLine_86, rX1_leaveLine_88, rX1_leaveLine_89, rX1_leaveLine_90, rX1_leaveLine_91, rX1_leaveLine_92, rX1_leaveLine_95, rX1_leaveLine_96, rX1_leaveLine_97, rX1_leaveLine_98, rX1_leaveLine_99, rX1_leaveLine_100, rX1_leaveLine_103, rX1_leaveLine_104, rX1_leaveLine_105, rX1_leaveLine_108, rX1_leaveLine_111, e_ald0, e_ald1, e_bin, e_callV2, e_dup2, e_get, e_goto, e_iald, e_iast, e_icmp, e_if, e_ild2, e_ild3, e_ild4, e_ist3, e_ist4, e_nl0, e_nl1, e_nl2, e_push, e_pushn, e_pushs, e_put, e_retv, m_b0, m_b01, m_b1, m_em, Classical.not_not, Nat.reduceBEq, Nat.reduceLT, Nat.reduceLeDiff, Nat.reduceAdd, cond_true, cond_false, Bool.or_false, Bool.false_or, Bool.or_true, Bool.true_or, beq_iff_eq, true_and, and_true, true_or, or_true, forall_const, not_true_eq_false, not_false_eq_true, false_implies, implies_true, Nat.reduceEqDiff, List.length_nil, List.length_cons, ob_39, fv_39_0, fv_39_1, fv_39_2, fv_39_3, fv_39_4, fs_39_4, fv_39_5, fs_39_5, fv_39_6, fv_39_7, fs_39_7, fv_39_8, fs_39_8, fv_39_9, fs_39_9, fv_39_10, fs_39_10, kd_40, ln_40, kd_41, ln_41, ob_50, fv_50_0, fs_50_0, fv_50_1, fv_50_2, fv_50_3, fv_50_4, fv_50_5, fv_50_6, fv_50_7, kd_51, ln_51, obL hcl, fvL0 hcl, fsL0 hcl, fvL1 hcl, fsL1 hcl, fvL2 hcl, fsL2 hcl, fvL3 hcl, fsL3 hcl, fvL4 hcl, fsL4 hcl, fvL5 hcl, fsL5 hcl, fvL6 hcl, fsL6 hcl, fvL7 hcl, fsL7 hcl, fvL8 hcl, fsL8 hcl, fvL9 hcl, fsL9 hcl, fvL10 hcl, fsL10 hcl, fvL11 hcl, fsL11 hcl, Int.toNat_natCast]
    refine h _ (v_tK K l) (hR.leave hW hI (by omega) hq hs0 ?_ ?_ ?_ ?_ ?_ ?_ ?_ ?_) ?_ ?_ ?_
    · simp only [m_upv]; simp [x39, x40, x41]
    · simp only [m_upv]; simp [x39, x40, x41]
    · simp only [m_upv]; simp [x39, x40, x41]
    · simp only [m_upv]; simp [x39, x40, x41]
    · intro k hk; simp only [m_upv, x41, x40, x39, false_and, reduceIte]; rw [if_neg (by omega), if_neg (by omega), if_neg (by omega), if_neg (by omega)]
    · intro j h1 h2 h3; rw [m_up_ne h3, m_up_ne h3, m_up_ne h3, m_up_ne h3, m_up_ne (by omega), m_up_ne (by omega), m_up_ne (by omega)]
    · intro t ht
      have y40 : ¬ 40 = 44 + l := by omega
      have y41 : ¬ 41 = 44 + l := by omega
      have y42 : ¬ 42 = 44 + l := by omega
      simp only [m_upv, y40, y41, y42, false_and, Nat.reduceEqDiff, reduceIte, true_and]
      by_cases e : t = (g 51 n).toNat
      · rw [if_pos e, if_pos e, if_pos (by omega), if_pos (by omega), ← e]; exact ⟨rfl, rfl, trivial⟩
      · rw [if_neg e, if_neg e, if_neg (by omega), if_neg (by omega)]; exact ⟨rfl, rfl, trivial⟩
    · have y39 : ¬ 39 = 44 + l := by omega
      simp only [m_upv, y39, false_and, Nat.reduceEqDiff, reduceIte, true_and]
    · exact (((((((v_F.put (by omega)).trans (v_F.put (by omega))).trans (v_F.put (by omega))).trans (v_F.put (by omega))).trans (v_F.put (by omega))).trans (v_F.put (by omega))).trans (v_F.put (by omega)))
    · rw [m_up_ne (by omega), m_up_ne (by omega), m_up_ne (by omega), m_up_ne (by omega), m_up_ne (by omega), m_up_ne (by omega), m_up_ne (by omega)]
    · rw [m_up_ne (by omega), m_up_ne (by omega), m_up_ne (by omega), m_up_ne (by omega), m_up_ne (by omega), m_up_ne (by omega), m_up_ne (by omega)]
  refine m_run_ok hJ (fun pc => pc == 31) 80 _ _ _ _ ?_
  simp only [e_go, rX1_leaveLine_0, rX1_leaveLine_1, rX1_leaveLine_4, rX1_leaveLine_7, rX1_leaveLine_8, rX1_leaveLine_9, rX1_leaveLine_12, rX1_leaveLine_13, rX1_leaveLine_14, rX1_leaveLine_17, rX1_leaveLine_20, rX1_leaveLine_21, rX1_leaveLine_22, rX1_leaveLine_25, rX1_leaveLine_26, rX1_leaveLine_29, rX1_leaveLine_30, rX1_leaveLine_31, rX1_leaveLine_32, rX1_leaveLine_35, rX1_leaveLine_38, rX1_leaveLine_39, rX1_leaveLine_42, rX1_leaveLine_45, rX1_leaveLine_46, rX1_leaveLine_49, rX1_leaveLine_50, rX1_leaveLine_53, rX1_leaveLine_54, rX1_leaveLine_57, rX1_leaveLine_58, rX1_leaveLine_61, rX1_leaveLine_64, rX1_leaveLine_65, rX1_leaveLine_68, rX1_leaveLine_69, rX1_leaveLine_71, rX1_leaveLine_72, rX1_leaveLine_75, rX1_leaveLine_77, rX1_leaveLine_78, rX1_leaveLine_79, rX1_leaveLine_80, rX1_leaveLine_81, rX1_leaveLine_82, rX1_leaveLine_83, rX1_leaveLine_86, rX1_leaveLine_88, rX1_leaveLine_89, rX1_leaveLine_90, rX1_leaveLine_91, rX1_leaveLine_92, rX1_leaveLine_95, rX1_leaveLine_96, rX1_leaveLine_97, rX1_leaveLine_98, rX1_leaveLine_99, rX1_leaveLine_100, rX1_leaveLine_103, rX1_leaveLine_104, rX1_leaveLine_105, rX1_leaveLine_108, rX1_leaveLine_111, e_ald0, e_ald1, e_bin, e_callV2, e_dup2, e_get, e_goto, e_iald, e_iast, e_icmp, e_if, e_ild2, e_ild3, e_ild4, e_ist3, e_ist4, e_nl0, e_nl1, e_nl2, e_push, e_pushn, e_pushs, e_put, e_retv, m_b0, m_b01, m_b1, m_em, Classical.not_not, Nat.reduceBEq, Nat.reduceLT, Nat.reduceLeDiff, Nat.reduceAdd, cond_true, cond_false, Bool.or_false, Bool.false_or, Bool.or_true, Bool.true_or, beq_iff_eq, true_and, and_true, true_or, or_true, forall_const, not_true_eq_false, not_false_eq_true, false_implies, implies_true, Nat.reduceEqDiff, List.length_nil, List.length_cons, ob_39, fv_39_0, fv_39_1, fv_39_2, fv_39_3, fv_39_4, fs_39_4, fv_39_5, fs_39_5, fv_39_6, fv_39_7, fs_39_7, fv_39_8, fs_39_8, fv_39_9, fs_39_9, fv_39_10, fs_39_10, kd_40, ln_40, kd_41, ln_41, ob_50, fv_50_0, fs_50_0, fv_50_1, fv_50_2, fv_50_3, fv_50_4, fv_50_5, fv_50_6, fv_50_7, kd_51, ln_51, obL hcl, fvL0 hcl, fsL0 hcl, fvL1 hcl, fsL1 hcl, fvL2 hcl, fsL2 hcl, fvL3 hcl, fsL3 hcl, fvL4 hcl, fsL4 hcl, fvL5 hcl, fsL5 hcl, fvL6 hcl, fsL6 hcl, fvL7 hcl, fsL7 hcl, fvL8 hcl, fsL8 hcl, fvL9 hcl, fsL9 hcl, fvL10 hcl, fsL10 hcl, fvL11 hcl, fsL11 hcl, e7, obH hb, fvH0 hb, fsH0 hb, fvH1 hb, fsH1 hb, fvH2 hb, fvH3 hb, fvH4 hb, fvH5 hb, fvH6 hb, fvH7 hb, kdH1 hb, lnH1 hb, ltH1 hb, kdH2 hb, lnH2 hb, ltH2 hb, kdH3 hb, lnH3 hb, ltH3 hb, kdH4 hb, lnH4 hb, ltH4 hb, kdH5 hb, lnH5 hb, ltH5 hb, kdH6 hb, lnH6 hb, ltH6 hb, Int.toNat_natCast]
  simp only [show (1 : Int).toNat = 1 from rfl, e3]
  rw [hx5]
  by_cases c5 : σ.2 8 2 < 0
  · rw [if_pos c5]
    exact ⟨fun _ => mid 1 ⟨fun _ => Or.inl c5, fun _ => by decide⟩, fun z => absurd z (by decide)⟩
  · rw [if_neg c5, m_w1 (by omega) (by omega)]
    exact ⟨fun z => absurd z c5, fun _ => ⟨by decide, fun c6 => mid 0 ⟨fun z => absurd rfl z, fun z => by omega⟩, fun c6 => mid 1 ⟨fun _ => Or.inr (by omega), fun _ => by decide⟩⟩⟩
theorem p1_timeFor {l n now b : Nat} {g : m_G} {s : Nat → Int} {nd : Nat → Nat → Int} {σ : d_S} {q : m_Post} (hD : v_D g b s nd) (hW : h_W s) (h6e : g (44 + l) 6 = (if σ.2 1 l < 0 then -1 else σ.2 1 l)) (hQ : v_Q g s (d_q now)) (hl : (l : Int) < s 1) (hn : n < 500) (hct : 0 ≤ g 51 n ∧ g 51 n < s 0) (hnb : 1 ≤ g 53 n ∧ g 53 n ≤ 99) (h55 : g 55 n = 0 ∨ g 55 n = 1)
    (h : q (some (.inl (d_time s l now (v_car g n) σ))) g) : wX1_timeFor.1 [.inr (.inr 39), .inr (.inr (44 + l)), .inl n] g q := by
  have hb := hD.1
  have hz := hW.1
  have w := hW.2.1
  have hcl : m_lnc (44 + l) := by unfold m_lnc; omega
  have e7 : (g 39 7).toNat = b := by rw [hD.2.1]; rfl
  have e0 : g (b + 6) 0 = s 2 := hD.2.2.1.2.2.1 0 (by decide)
  have e3 : g (b + 6) 3 = s 5 := hD.2.2.1.2.2.1 3 (by decide)
  have q1 := (hQ.2 l hl).1
  have wb := d_wd_b hW hl now
  unfold d_wd at wb
  have hb01 := m_bit01 (w := wd s l (d_q now)) (t := g 51 n) wb.1 wb.2 hct.1 (by omega)
  refine m_wp_of (by simp [m_fit]) (fun J hJ => ?_)
  simp only [m_ini, Nat.reduceSub, List.replicate]
  unfold d_time v_car d_wd at h
  simp only at h
  have h6 : (0 ≤ g (44 + l) 6 ∧ ¬ g (44 + l) 6 = g 51 n) ↔ (0 ≤ σ.2 1 l ∧ ¬ σ.2 1 l = g 51 n) := by
    rw [h6e]
    split <;> omega
  have mid : ∀ v : Int, v = g 53 n + (if 0 ≤ σ.2 1 l ∧ ¬ σ.2 1 l = g 51 n then s 2 else 0) → J 50 [some (.inr (.inr 39)), some (.inr (.inr (44 + l))), some (.inl n), some (.inl (g 51 n)), some (.inl v)] [] g := by
    intro v hv
    rw [← hv] at h
    have hvb : 1 ≤ v ∧ v ≤ 159 := by rw [hv]; split <;> omega
    refine m_run_ok hJ (fun pc => pc == 50) 80 _ _ _ _ ?_
    simp only [e_go, rX1_timeFor_0, rX1_timeFor_1, rX1_timeFor_4, rX1_timeFor_7, rX1_timeFor_8, rX1_timeFor_9, rX1_timeFor_10, rX1_timeFor_11, rX1_timeFor_14, rX1_timeFor_17, rX1_timeFor_18, rX1_timeFor_19, rX1_timeFor_21, rX1_timeFor_22, rX1_timeFor_25, rX1_timeFor_28, rX1_timeFor_29, rX1_timeFor_32, rX1_timeFor_33, rX1_timeFor_36, rX1_timeFor_38, rX1_timeFor_39, rX1_timeFor_42, rX1_timeFor_45, rX1_timeFor_46, rX1_timeFor_47, rX1_timeFor_48, rX1_timeFor_50, rX1_timeFor_51, rX1_timeFor_54, rX1_timeFor_57, rX1_timeFor_58, rX1_timeFor_59, rX1_timeFor_62, rX1_timeFor_63, rX1_timeFor_66, rX1_timeFor_67, rX1_timeFor_70, rX1_timeFor_73, rX1_timeFor_75, rX1_timeFor_76, rX1_timeFor_79, rX1_timeFor_82, rX1_timeFor_83, rX1_timeFor_84, rX1_timeFor_85, rX1_timeFor_87, rX1_timeFor_89, e_ald0, e_ald1, e_bin, e_callS2, e_get, e_iald, e_icmp, e_if, e_ild2, e_ild3, e_ild4, e_ist3, e_ist4, e_nl0, e_nl1, e_nl2, e_push, e_pushn, e_pushs, e_ret, e_zald, m_b0, m_b01, m_b1, m_em, Classical.not_not, Nat.reduceBEq, Nat.reduceLT, Nat.reduceLeDiff, Nat.reduceAdd, cond_true, cond_false, Bool.or_false, Bool.false_or, Bool.or_true, Bool.true_or, beq_iff_eq, true_and, and_true, true_or, or_true, forall_const, not_true_eq_false, not_false_eq_true, false_implies, implies_true, Nat.reduceEqDiff, List.length_nil, List.length_cons, ob_39, fv_39_0, fv_39_1, fv_39_2, fv_39_3, fv_39_4, fs_39_4, fv_39_5, fs_39_5, fv_39_6, fv_39_7, fs_39_7, fv_39_8, fs_39_8, fv_39_9, fs_39_9, fv_39_10, fs_39_10, ob_50, fv_50_0, fs_50_0, fv_50_1, fv_50_2, fv_50_3, fv_50_4, fv_50_5, fv_50_6, fv_50_7, kd_51, ln_51, kd_53, ln_53, kd_55, ln_55, obL hcl, fvL0 hcl, fsL0 hcl, fvL1 hcl, fsL1 hcl, fvL2 hcl, fsL2 hcl, fvL3 hcl, fsL3 hcl, fvL4 hcl, fsL4 hcl, fvL5 hcl, fsL5 hcl, fvL6 hcl, fsL6 hcl, fvL7 hcl, fsL7 hcl, fvL8 hcl, fsL8 hcl, fvL9 hcl, fsL9 hcl, fvL10 hcl, fsL10 hcl, fvL11 hcl, fsL11 hcl, e7, obH hb, fvH0 hb, fsH0 hb, fvH1 hb, fsH1 hb, fvH2 hb, fvH3 hb, fvH4 hb, fvH5 hb, fvH6 hb, fvH7 hb, kdH1 hb, lnH1 hb, ltH1 hb, kdH2 hb, lnH2 hb, ltH2 hb, kdH3 hb, lnH3 hb, ltH3 hb, kdH4 hb, lnH4 hb, ltH4 hb, kdH5 hb, lnH5 hb, ltH5 hb, kdH6 hb, lnH6 hb, ltH6 hb, Int.toNat_natCast]
    simp only [show (3 : Int).toNat = 3 from rfl, e3, q1]
    refine ⟨by omega, fun c => ?_, fun c => ?_⟩
    · rw [if_neg (fun z => by omega)] at h
      rw [Int.add_zero] at h; exact h
    · refine p_hasBit ?_
      simp only [e_go, rX1_timeFor_0, rX1_timeFor_1, rX1_timeFor_4, rX1_timeFor_7, rX1_timeFor_8, rX1_timeFor_9, rX1_timeFor_10, rX1_timeFor_11, rX1_timeFor_14, rX1_timeFor_17, rX1_timeFor_18, rX1_timeFor_19, rX1_timeFor_21, rX1_timeFor_22, rX1_timeFor_25, rX1_timeFor_28, rX1_timeFor_29, rX1_timeFor_32, rX1_timeFor_33, rX1_timeFor_36, rX1_timeFor_38, rX1_timeFor_39, rX1_timeFor_42, rX1_timeFor_45, rX1_timeFor_46, rX1_timeFor_47, rX1_timeFor_48, rX1_timeFor_50, rX1_timeFor_51, rX1_timeFor_54, rX1_timeFor_57, rX1_timeFor_58, rX1_timeFor_59, rX1_timeFor_62, rX1_timeFor_63, rX1_timeFor_66, rX1_timeFor_67, rX1_timeFor_70, rX1_timeFor_73, rX1_timeFor_75, rX1_timeFor_76, rX1_timeFor_79, rX1_timeFor_82, rX1_timeFor_83, rX1_timeFor_84, rX1_timeFor_85, rX1_timeFor_87, rX1_timeFor_89, e_ald0, e_ald1, e_bin, e_callS2, e_get, e_iald, e_icmp, e_if, e_ild2, e_ild3, e_ild4, e_ist3, e_ist4, e_nl0, e_nl1, e_nl2, e_push, e_pushn, e_pushs, e_ret, e_zald, m_b0, m_b01, m_b1, m_em, Classical.not_not, Nat.reduceBEq, Nat.reduceLT, Nat.reduceLeDiff, Nat.reduceAdd, cond_true, cond_false, Bool.or_false, Bool.false_or, Bool.or_true, Bool.true_or, beq_iff_eq, true_and, and_true, true_or, or_true, forall_const, not_true_eq_false, not_false_eq_true, false_implies, implies_true, Nat.reduceEqDiff, List.length_nil, List.length_cons, ob_39, fv_39_0, fv_39_1, fv_39_2, fv_39_3, fv_39_4, fs_39_4, fv_39_5, fs_39_5, fv_39_6, fv_39_7, fs_39_7, fv_39_8, fs_39_8, fv_39_9, fs_39_9, fv_39_10, fs_39_10, ob_50, fv_50_0, fs_50_0, fv_50_1, fv_50_2, fv_50_3, fv_50_4, fv_50_5, fv_50_6, fv_50_7, kd_51, ln_51, kd_53, ln_53, kd_55, ln_55, obL hcl, fvL0 hcl, fsL0 hcl, fvL1 hcl, fsL1 hcl, fvL2 hcl, fsL2 hcl, fvL3 hcl, fsL3 hcl, fvL4 hcl, fsL4 hcl, fvL5 hcl, fsL5 hcl, fvL6 hcl, fsL6 hcl, fvL7 hcl, fsL7 hcl, fvL8 hcl, fsL8 hcl, fvL9 hcl, fsL9 hcl, fvL10 hcl, fsL10 hcl, fvL11 hcl, fsL11 hcl, e7, obH hb, fvH0 hb, fsH0 hb, fvH1 hb, fsH1 hb, fvH2 hb, fvH3 hb, fvH4 hb, fvH5 hb, fvH6 hb, fvH7 hb, kdH1 hb, lnH1 hb, ltH1 hb, kdH2 hb, lnH2 hb, ltH2 hb, kdH3 hb, lnH3 hb, ltH3 hb, kdH4 hb, lnH4 hb, ltH4 hb, kdH5 hb, lnH5 hb, ltH5 hb, kdH6 hb, lnH6 hb, ltH6 hb, Int.toNat_natCast]
      simp only [show (3 : Int).toNat = 3 from rfl, e3]
      refine ⟨fun c2 => ?_, fun c2 => ⟨by omega, ?_⟩⟩
      · rw [if_neg (fun z => z.2 (by simpa using c2)), Int.add_zero] at h; exact h
      · rw [if_pos ⟨by omega, by simpa using c2⟩] at h
        rw [m_w2 (by omega) (by omega)]; exact h
  refine m_run_ok hJ (fun pc => pc == 50) 80 _ _ _ _ ?_
  simp only [e_go, rX1_timeFor_0, rX1_timeFor_1, rX1_timeFor_4, rX1_timeFor_7, rX1_timeFor_8, rX1_timeFor_9, rX1_timeFor_10, rX1_timeFor_11, rX1_timeFor_14, rX1_timeFor_17, rX1_timeFor_18, rX1_timeFor_19, rX1_timeFor_21, rX1_timeFor_22, rX1_timeFor_25, rX1_timeFor_28, rX1_timeFor_29, rX1_timeFor_32, rX1_timeFor_33, rX1_timeFor_36, rX1_timeFor_38, rX1_timeFor_39, rX1_timeFor_42, rX1_timeFor_45, rX1_timeFor_46, rX1_timeFor_47, rX1_timeFor_48, rX1_timeFor_50, rX1_timeFor_51, rX1_timeFor_54, rX1_timeFor_57, rX1_timeFor_58, rX1_timeFor_59, rX1_timeFor_62, rX1_timeFor_63, rX1_timeFor_66, rX1_timeFor_67, rX1_timeFor_70, rX1_timeFor_73, rX1_timeFor_75, rX1_timeFor_76, rX1_timeFor_79, rX1_timeFor_82, rX1_timeFor_83, rX1_timeFor_84, rX1_timeFor_85, rX1_timeFor_87, rX1_timeFor_89, e_ald0, e_ald1, e_bin, e_callS2, e_get, e_iald, e_icmp, e_if, e_ild2, e_ild3, e_ild4, e_ist3, e_ist4, e_nl0, e_nl1, e_nl2, e_push, e_pushn, e_pushs, e_ret, e_zald, m_b0, m_b01, m_b1, m_em, Classical.not_not, Nat.reduceBEq, Nat.reduceLT, Nat.reduceLeDiff, Nat.reduceAdd, cond_true, cond_false, Bool.or_false, Bool.false_or, Bool.or_true, Bool.true_or, beq_iff_eq, true_and, and_true, true_or, or_true, forall_const, not_true_eq_false, not_false_eq_true, false_implies, implies_true, Nat.reduceEqDiff, List.length_nil, List.length_cons, ob_39, fv_39_0, fv_39_1, fv_39_2, fv_39_3, fv_39_4, fs_39_4, fv_39_5, fs_39_5, fv_39_6, fv_39_7, fs_39_7, fv_39_8, fs_39_8, fv_39_9, fs_39_9, fv_39_10, fs_39_10, ob_50, fv_50_0, fs_50_0, fv_50_1, fv_50_2, fv_50_3, fv_50_4, fv_50_5, fv_50_6, fv_50_7, kd_51, ln_51, kd_53, ln_53, kd_55, ln_55, obL hcl, fvL0 hcl, fsL0 hcl, fvL1 hcl, fsL1 hcl, fvL2 hcl, fsL2 hcl, fvL3 hcl, fsL3 hcl, fvL4 hcl, fsL4 hcl, fvL5 hcl, fsL5 hcl, fvL6 hcl, fsL6 hcl, fvL7 hcl, fsL7 hcl, fvL8 hcl, fsL8 hcl, fvL9 hcl, fsL9 hcl, fvL10 hcl, fsL10 hcl, fvL11 hcl, fsL11 hcl, e7, obH hb, fvH0 hb, fsH0 hb, fvH1 hb, fsH1 hb, fvH2 hb, fvH3 hb, fvH4 hb, fvH5 hb, fvH6 hb, fvH7 hb, kdH1 hb, lnH1 hb, ltH1 hb, kdH2 hb, lnH2 hb, ltH2 hb, kdH3 hb, lnH3 hb, ltH3 hb, kdH4 hb, lnH4 hb, ltH4 hb, kdH5 hb, lnH5 hb, ltH5 hb, kdH6 hb, lnH6 hb, ltH6 hb, Int.toNat_natCast]
  simp only [show (0 : Int).toNat = 0 from rfl, e0]
  refine ⟨by omega, by omega, fun c => ?_, fun c => ⟨fun c2 => ?_, fun c2 => ⟨by omega, ?_⟩⟩⟩
  · exact mid _ (by rw [if_neg (fun z => by have := h6.2 z; omega), Int.add_zero])
  · exact mid _ (by rw [if_neg (fun z => by have := h6.2 z; omega), Int.add_zero])
  · exact mid _ (by rw [if_pos (h6.1 ⟨by omega, c2⟩)]; exact m_w2 (by omega) (by omega))
/-- the first of a lane is served -/
theorem v_R.serve {g g' : m_G} {s : Nat → Int} {n0 l n now z : Nat} {r : List Nat} {σ : d_S} {K : Nat → List Nat} (hW : h_W s) (hR : v_R g σ K z) (hI : d_I s n0 σ) (hl : l < 6) (hq : K l = n :: r) (hs : σ.2 0 l < 0) (ht : 0 ≤ d_time s l now (v_car g n) σ)
    (h1 : g' (44 + l) 1 = m_wrap (g (44 + l) 1 - g 53 n)) (h6 : g' (44 + l) 6 = g 51 n) (h2 : g' (44 + l) 2 = now + d_time s l now (v_car g n) σ) (h5 : g' (44 + l) 5 = 1)
    (hk : ∀ k, k = 0 ∨ k = 3 ∨ k = 4 ∨ k = 7 ∨ k = 11 → g' (44 + l) k = g (44 + l) k) (ho : ∀ j, 44 ≤ j → j < 56 → j ≠ 44 + l → g' j = g j)
    (hT : ∀ t, t < 5 → g' 40 t = (if (t : Int) = g 51 n then m_wrap (g 40 t + m_wrap (now - g 52 n)) else g 40 t) ∧ g' 41 t = g 41 t ∧ g' 42 t = g 42 t) (h8 : g' 39 4 = g 39 4 ∧ g' 39 10 = g 39 10 ∧ g' 39 5 = g 39 5) : v_R g' (d_serve s l now σ) K z := by
  obtain ⟨hL, hA, hTT, hS1, hS2, hS3⟩ := hR
  obtain ⟨⟨⟨a1, a2, a3, a4, a5, a6, a7⟩, ⟨b1, b2, b3⟩, c⟩, hz⟩ := hL l hl
  have hlen := d_len hW hI l hl
  have hnt := d_need_t hI hl hlen
  have hcar : ∀ m, v_car g' m = v_car g m := fun m => by
    unfold v_car
    rw [ho 51 (by omega) (by omega) (by omega), ho 52 (by omega) (by omega) (by omega), ho 53 (by omega) (by omega) (by omega), ho 55 (by omega) (by omega) (by omega)]
  have h54 : g' 54 = g 54 := ho 54 (by omega) (by omega) (by omega)
  have hQ : σ.1 l = v_car g n :: r.map (v_car g) := by rw [b1, hq]; rfl
  have hct : (0 ≤ g 51 n ∧ g 51 n < s 0) := ((hI.1 l hl).2.1 (v_car g n) (by rw [hQ]; exact List.mem_cons_self)).1
  have hle : d_serve s l now σ = (σ.1, m_up (m_up (m_up σ.2 4 (g 51 n).toNat (m_wrap (σ.2 4 (g 51 n).toNat + m_wrap (now - g 52 n)))) 0 l (now + d_time s l now (v_car g n) σ)) 1 l (g 51 n)) := by
    unfold d_serve
    rw [hQ]
    rfl
  rw [hle]
  have hz0 := hW.1
  refine ⟨fun l' hl' => ⟨?_, fun m hm => (hL l' hl').2 m hm⟩, hA, ?_, ?_, ?_, ?_⟩
  · by_cases e : l' = l
    · subst e
      unfold v_L
      simp only [m_upv]
      simp
      have hnn : 0 ≤ (now : Int) + d_time s l' now (v_car g n) σ := by omega
      rw [if_pos hnn, if_pos hnn]
      refine ⟨⟨?_, h5, fun _ => h2, ?_, ?_, ?_, ?_⟩, ⟨?_, ?_, ?_⟩, c⟩
      · rw [hk 0 (by omega)]; exact a1
      · rw [hk 3 (by omega)]; exact a4
      · rw [hk 4 (by omega)]; exact a5
      · rw [h6, if_neg (by omega)]
      · rw [h1, a7, if_neg (by omega), hQ]
        rw [hQ] at hnt
        simp only [List.tail_cons, d_need] at hnt ⊢
        have e3 : (v_car g n).2.2.1 = g 53 n := rfl
        rw [e3] at hnt ⊢
        rw [m_w1 (by omega) (by omega)]; omega
      · rw [b1]; exact List.map_congr_left (fun m _ => (hcar m).symm)
      · rw [hk 7 (by omega)]; exact b2.same (fun m _ => by rw [h54])
      · rw [hk 11 (by omega)]; exact b3
    · refine (hL l' hl').1.same ?_ (fun k _ _ _ _ => by rw [ho _ (by omega) (by omega) (by omega)]) (fun m hm => ⟨hcar m, by rw [h54]⟩)
      simp only [m_upv]
      simp [e]
  · intro t ht
    obtain ⟨t1, t2, t3⟩ := hT t ht
    obtain ⟨u1, u2, u3⟩ := hTT t ht
    rw [t1, t2, t3, u1, u2, u3]
    simp only [m_upv]
    simp
    by_cases e : t = (g 51 n).toNat
    · rw [if_pos e, if_pos (by omega), ← e]
    · rw [if_neg e, if_neg (by omega)]
  · simp only [m_upv]; simp; rw [h8.1]; exact hS1
  · simp only [m_upv]; simp; rw [h8.2.1]; exact hS2
  · simp only [m_upv]; simp; rw [h8.2.2]; exact hS3
theorem v_R.lg {g : m_G} {l z : Nat} {σ : d_S} {K : Nat → List Nat} {v : Int} (hR : v_R g σ K z) (hl : l < 6) (hv : v = if σ.2 2 l < (σ.1 l).length then ((σ.1 l).length : Int) else σ.2 2 l) : v_R (m_up g (44 + l) 3 v) (d_lg l σ) K z := by
  obtain ⟨hL, hA, hTT, hS1, hS2, hS3⟩ := hR
  have x40 : ¬ 40 = 44 + l := by omega
  have x41 : ¬ 41 = 44 + l := by omega
  have x42 : ¬ 42 = 44 + l := by omega
  have x39 : ¬ 39 = 44 + l := by omega
  have hcar : ∀ m, v_car (m_up g (44 + l) 3 v) m = v_car g m := fun m => by
    unfold v_car
    rw [m_up_ne (by omega), m_up_ne (by omega), m_up_ne (by omega), m_up_ne (by omega)]
  unfold d_lg
  refine ⟨fun l' hl' => ⟨?_, fun m hm => (hL l' hl').2 m hm⟩, hA, ?_, ?_, ?_, ?_⟩
  · obtain ⟨⟨a1, a2, a3, a4, a5, a6, a7⟩, ⟨b1, b2, b3⟩, c⟩ := (hL l' hl').1
    by_cases e : l' = l
    · subst e
      unfold v_L
      simp only [m_upv]
      simp
      refine ⟨⟨a1, a2, a3, hv, a5, a6, a7⟩, ⟨?_, ?_, b3⟩, c⟩
      · rw [b1]; exact List.map_congr_left (fun m _ => (hcar m).symm)
      · exact b2.same (fun m _ => by rw [m_up_ne (by omega)])
    · refine (hL l' hl').1.same ?_ (fun k _ _ _ _ => by rw [m_up_ne (by omega)]) (fun m hm => ⟨hcar m, by rw [m_up_ne (by omega)]⟩)
      simp only [m_upv]
      simp [e]
  · intro t ht
    simp only [m_upv, x40, x41, x42, false_and, Nat.reduceEqDiff, reduceIte]
    exact hTT t ht
  · simp only [m_upv, x39, false_and, Nat.reduceEqDiff, reduceIte]; exact hS1
  · simp only [m_upv, x39, false_and, Nat.reduceEqDiff, reduceIte]; exact hS2
  · simp only [m_upv, x39, false_and, Nat.reduceEqDiff, reduceIte]; exact hS3
theorem p1_serveLine {l now n0 b z : Nat} {g : m_G} {s : Nat → Int} {nd : Nat → Nat → Int} {σ : d_S} {K : Nat → List Nat} {q : m_Post} (hD : v_D g b s nd) (hW : h_W s) (hR : v_R g σ K z) (hI : d_I s n0 σ) (hnn : n0 ≤ now) (hn0 : now < 7200) (hJd : d_J σ) (hQ : v_Q g s (d_q now)) (hl : (l : Int) < s 1) (hz5 : z ≤ 500)
    (h : ∀ g', v_R g' (d_lg l (d_sv s l now σ)) K z → v_F g g' → g' 54 = g 54 → g' 55 = g 55 → q none g') : wX1_serveLine.1 [.inr (.inr 39), .inr (.inr (44 + l)), .inl now] g q := by
  have hb := hD.1
  have hz := hW.1
  have w := hW.2.1
  have hcl : m_lnc (44 + l) := by unfold m_lnc; omega
  have x41 : ¬ 44 + l = 41 := by omega
  have x40 : ¬ 44 + l = 40 := by omega
  have x39 : ¬ 44 + l = 39 := by omega
  have x50 : ¬ 44 + l = 50 := by omega
  have hL := hR.1 l (by omega)
  obtain ⟨⟨⟨a1, a2, a3, a4, a5, a6, a7⟩, ⟨b1, b2, b3⟩, c⟩, hzz⟩ := hL
  refine m_wp_of (by simp [m_fit]) (fun J hJ => ?_)
  simp only [m_ini, Nat.reduceSub, List.replicate]
  have fin : ∀ g1 : m_G, v_R g1 (d_sv s l now σ) K z → v_F g g1 → g1 54 = g 54 → g1 55 = g 55 → J 67 [some (.inr (.inr 39)), some (.inr (.inr (44 + l))), some (.inl now)] [] g1 := by
    intro g1 r1 r2 r3 r4
    have aL := (r1.1 l (by omega)).1.1
    refine m_run_ok hJ (fun pc => pc == 67) 80 _ _ _ _ ?_
    simp only [e_go, rX1_serveLine_0, rX1_serveLine_1, rX1_serveLine_4, rX1_serveLine_7, rX1_serveLine_8, rX1_serveLine_11, rX1_serveLine_14, rX1_serveLine_15, rX1_serveLine_18, rX1_serveLine_19, rX1_serveLine_22, rX1_serveLine_25, rX1_serveLine_26, rX1_serveLine_29, rX1_serveLine_30, rX1_serveLine_31, rX1_serveLine_32, rX1_serveLine_33, rX1_serveLine_34, rX1_serveLine_37, rX1_serveLine_40, rX1_serveLine_41, rX1_serveLine_44, rX1_serveLine_45, rX1_serveLine_46, rX1_serveLine_47, rX1_serveLine_48, rX1_serveLine_49, rX1_serveLine_50, rX1_serveLine_53, rX1_serveLine_54, rX1_serveLine_55, rX1_serveLine_56, rX1_serveLine_57, rX1_serveLine_60, rX1_serveLine_63, rX1_serveLine_64, rX1_serveLine_67, rX1_serveLine_68, rX1_serveLine_69, rX1_serveLine_72, rX1_serveLine_73, rX1_serveLine_76, rX1_serveLine_79, rX1_serveLine_82, e_ald0, e_ald1, e_bin, e_callV3, e_dup2, e_get, e_iald, e_iast, e_if, e_ild2, e_max, e_pushn, e_pushs, e_put, e_retv, m_b0, m_b01, m_b1, m_em, Classical.not_not, Nat.reduceBEq, Nat.reduceLT, Nat.reduceLeDiff, Nat.reduceAdd, cond_true, cond_false, Bool.or_false, Bool.false_or, Bool.or_true, Bool.true_or, beq_iff_eq, true_and, and_true, true_or, or_true, forall_const, not_true_eq_false, not_false_eq_true, false_implies, implies_true, Nat.reduceEqDiff, List.length_nil, List.length_cons, ob_39, fv_39_0, fv_39_1, fv_39_2, fv_39_3, fv_39_4, fs_39_4, fv_39_5, fs_39_5, fv_39_6, fv_39_7, fs_39_7, fv_39_8, fs_39_8, fv_39_9, fs_39_9, fv_39_10, fs_39_10, kd_40, ln_40, ob_50, fv_50_0, fs_50_0, fv_50_1, fv_50_2, fv_50_3, fv_50_4, fv_50_5, fv_50_6, fv_50_7, kd_51, ln_51, kd_52, ln_52, obL hcl, fvL0 hcl, fsL0 hcl, fvL1 hcl, fsL1 hcl, fvL2 hcl, fsL2 hcl, fvL3 hcl, fsL3 hcl, fvL4 hcl, fsL4 hcl, fvL5 hcl, fsL5 hcl, fvL6 hcl, fsL6 hcl, fvL7 hcl, fsL7 hcl, fvL8 hcl, fsL8 hcl, fvL9 hcl, fsL9 hcl, fvL10 hcl, fsL10 hcl, fvL11 hcl, fsL11 hcl, Int.toNat_natCast]
    refine h _ (r1.lg (by omega) ?_) (r2.trans (v_F.put (by omega))) (by rw [m_up_ne (by omega)]; exact r3) (by rw [m_up_ne (by omega)]; exact r4)
    rw [aL.1, aL.2.2.2.1]
  refine m_run_ok hJ (fun pc => pc == 67) 80 _ _ _ _ ?_
  simp only [e_go, rX1_serveLine_0, rX1_serveLine_1, rX1_serveLine_4, rX1_serveLine_7, rX1_serveLine_8, rX1_serveLine_11, rX1_serveLine_14, rX1_serveLine_15, rX1_serveLine_18, rX1_serveLine_19, rX1_serveLine_22, rX1_serveLine_25, rX1_serveLine_26, rX1_serveLine_29, rX1_serveLine_30, rX1_serveLine_31, rX1_serveLine_32, rX1_serveLine_33, rX1_serveLine_34, rX1_serveLine_37, rX1_serveLine_40, rX1_serveLine_41, rX1_serveLine_44, rX1_serveLine_45, rX1_serveLine_46, rX1_serveLine_47, rX1_serveLine_48, rX1_serveLine_49, rX1_serveLine_50, rX1_serveLine_53, rX1_serveLine_54, rX1_serveLine_55, rX1_serveLine_56, rX1_serveLine_57, rX1_serveLine_60, rX1_serveLine_63, rX1_serveLine_64, rX1_serveLine_67, rX1_serveLine_68, rX1_serveLine_69, rX1_serveLine_72, rX1_serveLine_73, rX1_serveLine_76, rX1_serveLine_79, rX1_serveLine_82, e_ald0, e_ald1, e_bin, e_callV3, e_dup2, e_get, e_iald, e_iast, e_if, e_ild2, e_max, e_pushn, e_pushs, e_put, e_retv, m_b0, m_b01, m_b1, m_em, Classical.not_not, Nat.reduceBEq, Nat.reduceLT, Nat.reduceLeDiff, Nat.reduceAdd, cond_true, cond_false, Bool.or_false, Bool.false_or, Bool.or_true, Bool.true_or, beq_iff_eq, true_and, and_true, true_or, or_true, forall_const, not_true_eq_false, not_false_eq_true, false_implies, implies_true, Nat.reduceEqDiff, List.length_nil, List.length_cons, ob_39, fv_39_0, fv_39_1, fv_39_2, fv_39_3, fv_39_4, fs_39_4, fv_39_5, fs_39_5, fv_39_6, fv_39_7, fs_39_7, fv_39_8, fs_39_8, fv_39_9, fs_39_9, fv_39_10, fs_39_10, kd_40, ln_40, ob_50, fv_50_0, fs_50_0, fv_50_1, fv_50_2, fv_50_3, fv_50_4, fv_50_5, fv_50_6, fv_50_7, kd_51, ln_51, kd_52, ln_52, obL hcl, fvL0 hcl, fsL0 hcl, fvL1 hcl, fsL1 hcl, fvL2 hcl, fsL2 hcl, fvL3 hcl, fsL3 hcl, fvL4 hcl, fsL4 hcl, fvL5 hcl, fsL5 hcl, fvL6 hcl, fsL6 hcl, fvL7 hcl, fsL7 hcl, fvL8 hcl, fsL8 hcl, fvL9 hcl, fsL9 hcl, fvL10 hcl, fsL10 hcl, fvL11 hcl, fsL11 hcl, Int.toNat_natCast]
  refine ⟨fun c1 => fin g ?_ v_F.rfl' rfl rfl, fun c1 => ⟨fun c2 => fin g ?_ v_F.rfl' rfl rfl, fun c2 => ?_⟩⟩
  · unfold d_sv
    rw [if_neg (fun y => by rw [a2, if_neg (by omega)] at c1; exact c1 rfl)]; exact hR
  · unfold d_sv
    rw [if_neg]
    · exact hR
    · rintro ⟨y, -⟩
      cases hk : K l with
      | nil => rw [b1, hk] at y; exact y rfl
      | cons n r => rw [hk] at b2; have := b2.1; omega
  obtain ⟨n, r, hq⟩ : ∃ n r, K l = n :: r := by
    cases hk : K l with
    | nil => rw [hk] at b2; have : g (44 + l) 7 = -1 := b2; omega
    | cons n r => exact ⟨n, r, rfl⟩
  have hf : g (44 + l) 7 = (n : Int) := by rw [hq] at b2; exact b2.1
  have hnz : n < z := hzz n (by rw [hq]; exact List.mem_cons_self)
  have hQl : σ.1 l = v_car g n :: r.map (v_car g) := by rw [b1, hq]; rfl
  have hcI := (hI.1 l (by omega)).2.1 (v_car g n) (by rw [hQl]; exact List.mem_cons_self)
  have hct : (0 ≤ g 51 n ∧ g 51 n < s 0) := hcI.1
  have hs0 : σ.2 0 l < 0 := by
    by_cases y : 0 ≤ σ.2 0 l
    · rw [a2, if_pos y] at c1; omega
    · omega
  have hF1 : v_F g (m_up g 40 (g 51 n).toNat (m_wrap (g 40 (g 51 n).toNat + m_wrap (now - g 52 n)))) := v_F.put (by omega)
  have htb := d_time_b (l := l) (now := now) (σ := σ) hW hcI
  simp only [hf, Int.toNat_natCast, m_upv, x39, x40, x41, false_and, Nat.reduceEqDiff, reduceIte]
  refine ⟨by omega, by omega, by omega, by omega, ?_⟩
  have y40 : ¬ 40 = 44 + l := by omega
  have y41 : ¬ 41 = 44 + l := by omega
  have y42 : ¬ 42 = 44 + l := by omega
  have y39 : ¬ 39 = 44 + l := by omega
  refine p1_timeFor (hD.keep hF1) hW (σ := σ) ?_ (hQ.keep hW hF1) hl (by omega) ?_ ?_ ?_ ?_
  · simp only [m_upv, x40, false_and, reduceIte]; exact a6
  · rw [m_up_ne (by decide)]; exact hct
  · rw [m_up_ne (by decide)]; exact hcI.2.2.1
  · rw [m_up_ne (by decide)]; exact hcI.2.2.2
  have ec : v_car (m_up g 40 (g 51 n).toNat (m_wrap (g 40 (g 51 n).toNat + m_wrap (now - g 52 n)))) n = v_car g n := by
    unfold v_car
    rw [m_up_ne (by decide), m_up_ne (by decide), m_up_ne (by decide), m_up_ne (by decide)]
  rw [ec]
  simp only [e_go, rX1_serveLine_0, rX1_serveLine_1, rX1_serveLine_4, rX1_serveLine_7, rX1_serveLine_8, rX1_serveLine_11, rX1_serveLine_14, rX1_serveLine_15, rX1_serveLine_18, rX1_serveLine_19, rX1_serveLine_22, rX1_serveLine_25, rX1_serveLine_26, rX1_serveLine_29, rX1_serveLine_30, rX1_serveLine_31, rX1_serveLine_32, rX1_serveLine_33, rX1_serveLine_34, rX1_serveLine_37, rX1_serveLine_40, rX1_serveLine_41, rX1_serveLine_44, rX1_serveLine_45, rX1_serveLine_46, rX1_serveLine_47, rX1_serveLine_48, rX1_serveLine_49, rX1_serveLine_50, rX1_serveLine_53, rX1_serveLine_54, rX1_serveLine_55, rX1_serveLine_56, rX1_serveLine_57, rX1_serveLine_60, rX1_serveLine_63, rX1_serveLine_64, rX1_serveLine_67, rX1_serveLine_68, rX1_serveLine_69, rX1_serveLine_72, rX1_serveLine_73, rX1_serveLine_76, rX1_serveLine_79, rX1_serveLine_82, e_ald0, e_ald1, e_bin, e_callV3, e_dup2, e_get, e_iald, e_iast, e_if, e_ild2, e_max, e_pushn, e_pushs, e_put, e_retv, m_b0, m_b01, m_b1, m_em, Classical.not_not, Nat.reduceBEq, Nat.reduceLT, Nat.reduceLeDiff, Nat.reduceAdd, cond_true, cond_false, Bool.or_false, Bool.false_or, Bool.or_true, Bool.true_or, beq_iff_eq, true_and, and_true, true_or, or_true, forall_const, not_true_eq_false, not_false_eq_true, false_implies, implies_true, Nat.reduceEqDiff, List.length_nil, List.length_cons, ob_39, fv_39_0, fv_39_1, fv_39_2, fv_39_3, fv_39_4, fs_39_4, fv_39_5, fs_39_5, fv_39_6, fv_39_7, fs_39_7, fv_39_8, fs_39_8, fv_39_9, fs_39_9, fv_39_10, fs_39_10, kd_40, ln_40, ob_50, fv_50_0, fs_50_0, fv_50_1, fv_50_2, fv_50_3, fv_50_4, fv_50_5, fv_50_6, fv_50_7, kd_51, ln_51, kd_52, ln_52, obL hcl, fvL0 hcl, fsL0 hcl, fvL1 hcl, fsL1 hcl, fvL2 hcl, fsL2 hcl, fvL3 hcl, fsL3 hcl, fvL4 hcl, fsL4 hcl, fvL5 hcl, fsL5 hcl, fvL6 hcl, fsL6 hcl, fvL7 hcl, fsL7 hcl, fvL8 hcl, fsL8 hcl, fvL9 hcl, fsL9 hcl, fvL10 hcl, fsL10 hcl, fvL11 hcl, fsL11 hcl, Int.toNat_natCast]
  rw [m_w2 (x := (now : Int) + d_time s l now (v_car g n) σ) (by omega) (by omega)]
  refine p3_serve hcl (n := n) (by simp only [m_upv, x40, false_and, reduceIte]; exact hf) (by omega) ?_
  simp only [e_go, rX1_serveLine_0, rX1_serveLine_1, rX1_serveLine_4, rX1_serveLine_7, rX1_serveLine_8, rX1_serveLine_11, rX1_serveLine_14, rX1_serveLine_15, rX1_serveLine_18, rX1_serveLine_19, rX1_serveLine_22, rX1_serveLine_25, rX1_serveLine_26, rX1_serveLine_29, rX1_serveLine_30, rX1_serveLine_31, rX1_serveLine_32, rX1_serveLine_33, rX1_serveLine_34, rX1_serveLine_37, rX1_serveLine_40, rX1_serveLine_41, rX1_serveLine_44, rX1_serveLine_45, rX1_serveLine_46, rX1_serveLine_47, rX1_serveLine_48, rX1_serveLine_49, rX1_serveLine_50, rX1_serveLine_53, rX1_serveLine_54, rX1_serveLine_55, rX1_serveLine_56, rX1_serveLine_57, rX1_serveLine_60, rX1_serveLine_63, rX1_serveLine_64, rX1_serveLine_67, rX1_serveLine_68, rX1_serveLine_69, rX1_serveLine_72, rX1_serveLine_73, rX1_serveLine_76, rX1_serveLine_79, rX1_serveLine_82, e_ald0, e_ald1, e_bin, e_callV3, e_dup2, e_get, e_iald, e_iast, e_if, e_ild2, e_max, e_pushn, e_pushs, e_put, e_retv, m_b0, m_b01, m_b1, m_em, Classical.not_not, Nat.reduceBEq, Nat.reduceLT, Nat.reduceLeDiff, Nat.reduceAdd, cond_true, cond_false, Bool.or_false, Bool.false_or, Bool.or_true, Bool.true_or, beq_iff_eq, true_and, and_true, true_or, or_true, forall_const, not_true_eq_false, not_false_eq_true, false_implies, implies_true, Nat.reduceEqDiff, List.length_nil, List.length_cons, ob_39, fv_39_0, fv_39_1, fv_39_2, fv_39_3, fv_39_4, fs_39_4, fv_39_5, fs_39_5, fv_39_6, fv_39_7, fs_39_7, fv_39_8, fs_39_8, fv_39_9, fs_39_9, fv_39_10, fs_39_10, kd_40, ln_40, ob_50, fv_50_0, fs_50_0, fv_50_1, fv_50_2, fv_50_3, fv_50_4, fv_50_5, fv_50_6, fv_50_7, kd_51, ln_51, kd_52, ln_52, obL hcl, fvL0 hcl, fsL0 hcl, fvL1 hcl, fsL1 hcl, fvL2 hcl, fsL2 hcl, fvL3 hcl, fsL3 hcl, fvL4 hcl, fsL4 hcl, fvL5 hcl, fsL5 hcl, fvL6 hcl, fsL6 hcl, fvL7 hcl, fsL7 hcl, fvL8 hcl, fsL8 hcl, fvL9 hcl, fsL9 hcl, fvL10 hcl, fsL10 hcl, fvL11 hcl, fsL11 hcl, Int.toNat_natCast]
  refine fin _ ?_ ?_ ?_ ?_
  · unfold d_sv
    rw [if_pos ⟨by rw [hQl]; simp, hs0⟩]
    refine hR.serve hW hI (by omega) hq hs0 (by omega) ?_ ?_ ?_ ?_ ?_ ?_ ?_ ?_
    · simp only [m_upv]; simp [x39, x40, x41]
    · simp only [m_upv]; simp [x39, x40, x41]
    · simp only [m_upv]; simp [x39, x40, x41]
    · simp only [m_upv]; simp [x39, x40, x41]
    · intro k hk; simp only [m_upv, x41, x40, x39, false_and, reduceIte]; rw [if_neg (by omega), if_neg (by omega), if_neg (by omega), if_neg (by omega)]
    · intro j h1 h2 h3; rw [m_up_ne h3, m_up_ne h3, m_up_ne h3, m_up_ne h3, m_up_ne (by omega)]
    · intro t ht
      simp only [m_upv, y40, y41, y42, false_and, Nat.reduceEqDiff, reduceIte, true_and]
      by_cases e : t = (g 51 n).toNat
      · rw [if_pos e, if_pos (by omega), ← e]; exact ⟨rfl, trivial⟩
      · rw [if_neg e, if_neg (by omega)]; exact ⟨rfl, trivial⟩
    · simp only [m_upv, y39, false_and, Nat.reduceEqDiff, reduceIte, true_and]
  · exact ((((hF1.trans (v_F.put (by omega))).trans (v_F.put (by omega))).trans (v_F.put (by omega))).trans (v_F.put (by omega)))
  · rw [m_up_ne (by omega), m_up_ne (by omega), m_up_ne (by omega), m_up_ne (by omega), m_up_ne (by omega)]
  · rw [m_up_ne (by omega), m_up_ne (by omega), m_up_ne (by omega), m_up_ne (by omega), m_up_ne (by omega)]
