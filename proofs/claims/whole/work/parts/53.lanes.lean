set_option maxRecDepth 20000
set_option maxHeartbeats 2000000
def v_car (g : m_G) (n : Nat) : d_C := (g 51 n, g 52 n, g 53 n, g 55 n)
/-- a chain of those who stand behind each other -/
def v_ch (g : m_G) : List Nat → Int → Prop
  | [], f => f = -1
  | n :: r, f => f = (n : Int) ∧ v_ch g r (g 54 n)
def v_la : List Nat → Int → Prop
  | [], _ => True
  | [a], e => e = (a : Int)
  | _ :: b :: r, e => v_la (b :: r) e
theorem v_la_mem : ∀ {K : List Nat} {e : Int}, v_la K e → K ≠ [] → ∃ m, m ∈ K ∧ e = (m : Int)
  | [], _, _, h => absurd rfl h
  | [a], _, h, _ => ⟨a, List.mem_cons_self, h⟩
  | _ :: b :: r, e, h, _ => by
    obtain ⟨m, h1, h2⟩ := v_la_mem (K := b :: r) (e := e) h (by simp)
    exact ⟨m, List.mem_cons_of_mem _ h1, h2⟩
theorem v_la_snoc : ∀ (K : List Nat) (n : Nat), v_la (K ++ [n]) (n : Int)
  | [], _ => rfl
  | [_], _ => rfl
  | _ :: b :: r, n => v_la_snoc (b :: r) n
theorem v_la_tail {n : Nat} : ∀ {K : List Nat} {e : Int}, v_la (n :: K) e → v_la K e
  | [], _, _ => trivial
  | _ :: _, _, h => h
theorem v_ch.same {g g' : m_G} : ∀ {K : List Nat} {f : Int}, v_ch g K f → (∀ n ∈ K, g' 54 n = g 54 n) → v_ch g' K f
  | [], _, h, _ => h
  | n :: r, f, h, hs => ⟨h.1, by rw [hs n List.mem_cons_self]; exact v_ch.same h.2 (fun m hm => hs m (List.mem_cons_of_mem _ hm))⟩
theorem v_ch.snoc {g g' : m_G} {n e : Nat} (hg : ∀ m, m ≠ e → g' 54 m = g 54 m) (he : g' 54 e = (n : Int)) (hn : g' 54 n = -1) : ∀ {K : List Nat} {f : Int}, v_ch g K f → v_la K (e : Int) → K ≠ [] → K.Nodup → v_ch g' (K ++ [n]) f
  | [], _, _, _, h, _ => absurd rfl h
  | [a], f, h, hl, _, _ => by
    have e1 : e = a := by have : (e : Int) = (a : Int) := hl; omega
    subst e1
    exact ⟨h.1, he, hn⟩
  | a :: b :: r, f, h, hl, _, hd => by
    have hne : a ≠ e := fun z => by
      obtain ⟨m, h1, h2⟩ := v_la_mem (K := b :: r) (e := e) hl (by simp)
      have : m = a := by omega
      subst this
      exact (List.nodup_cons.mp hd).1 h1
    exact ⟨h.1, by rw [hg a hne]; exact v_ch.snoc (K := b :: r) hg he hn h.2 hl (by simp) (List.nodup_cons.mp hd).2⟩
/-- a lane's cell, and the places of those who stand there -/
def v_L (g : m_G) (σ : d_S) (l : Nat) (K : List Nat) : Prop :=
  (g (44 + l) 0 = ((σ.1 l).length : Int) ∧ g (44 + l) 5 = (if 0 ≤ σ.2 0 l then 1 else 0) ∧ (0 ≤ σ.2 0 l → g (44 + l) 2 = σ.2 0 l) ∧ g (44 + l) 3 = σ.2 2 l ∧ g (44 + l) 4 = σ.2 3 l ∧ g (44 + l) 6 = (if σ.2 1 l < 0 then -1 else σ.2 1 l) ∧ g (44 + l) 1 = d_need (if 0 ≤ σ.2 0 l then (σ.1 l).tail else σ.1 l)) ∧
  (σ.1 l = K.map (v_car g) ∧ v_ch g K (g (44 + l) 7) ∧ v_la K (g (44 + l) 11)) ∧ K.Nodup
theorem v_L.same {g g' : m_G} {σ σ' : d_S} {l : Nat} {K : List Nat} (h : v_L g σ l K) (h0 : σ'.1 l = σ.1 l ∧ σ'.2 0 l = σ.2 0 l ∧ σ'.2 1 l = σ.2 1 l ∧ σ'.2 2 l = σ.2 2 l ∧ σ'.2 3 l = σ.2 3 l)
    (h1 : ∀ k, k < 12 → k ≠ 8 → k ≠ 9 → k ≠ 10 → g' (44 + l) k = g (44 + l) k) (h2 : ∀ n ∈ K, v_car g' n = v_car g n ∧ g' 54 n = g 54 n) : v_L g' σ' l K := by
  obtain ⟨e0, e1, e2, e3, e4⟩ := h0
  obtain ⟨⟨a1, a2, a3, a4, a5, a6, a7⟩, ⟨b1, b2, b3⟩, c⟩ := h
  unfold v_L
  rw [e0, e1, e2, e3, e4, h1 0 (by omega) (by omega) (by omega) (by omega), h1 5 (by omega) (by omega) (by omega) (by omega), h1 2 (by omega) (by omega) (by omega) (by omega), h1 3 (by omega) (by omega) (by omega) (by omega), h1 4 (by omega) (by omega) (by omega) (by omega), h1 6 (by omega) (by omega) (by omega) (by omega), h1 1 (by omega) (by omega) (by omega) (by omega), h1 7 (by omega) (by omega) (by omega) (by omega), h1 11 (by omega) (by omega) (by omega) (by omega)]
  refine ⟨⟨a1, a2, a3, a4, a5, a6, a7⟩, ⟨?_, b2.same (fun n hn => (h2 n hn).2), b3⟩, c⟩
  rw [b1]
  exact (List.map_congr_left (fun n hn => (h2 n hn).1)).symm
/-- the class's cells hold a state of the day; z: how many have come -/
def v_R (g : m_G) (σ : d_S) (K : Nat → List Nat) (z : Nat) : Prop :=
  (∀ l, l < 6 → v_L g σ l (K l) ∧ ∀ n ∈ K l, n < z) ∧ (∀ l l' n, l < 6 → l' < 6 → n ∈ K l → n ∈ K l' → l = l') ∧
  (∀ t, t < 5 → g 40 t = σ.2 4 t ∧ g 41 t = σ.2 5 t ∧ g 42 t = σ.2 6 t) ∧ g 39 4 = σ.2 8 0 ∧ g 39 10 = σ.2 8 1 ∧ g 39 5 = (if σ.2 8 2 < 0 then -1 else σ.2 8 2)
def v_U (g : m_G) (s : Nat → Int) (z : Nat) : Prop := ∀ n : Nat, z ≤ n → (n : Int) < sumC s (s 0).toNat → g 54 n = -1 ∧ g 55 n = 0
def c_sh (s : Nat → Int) (l q : Nat) : Int := if 0 < q ∧ ¬ wd s l q = wd s l (q - 1) then 900 * (q : Int) + s 8 else 0
def v_Q (g : m_G) (s : Nat → Int) (q : Nat) : Prop := g 39 8 = (q : Int) ∧ ∀ l : Nat, (l : Int) < s 1 → g (44 + l) 8 = wd s l q ∧ g (44 + l) 9 = d_bits (wd s l q) ∧ g (44 + l) 10 = c_sh s l q
theorem v_Q.keep {g g' : m_G} {s : Nat → Int} {q : Nat} (hW : h_W s) (h : v_Q g s q) (hF : v_F g g') : v_Q g' s q := by
  have hz := hW.1
  refine ⟨hF.2.1.2.1.trans h.1, fun l hl => ?_⟩
  obtain ⟨a, b, c⟩ := hF.2.2 l (by omega)
  rw [a, b, c]
  exact h.2 l hl
theorem c_sh_iff {s : Nat → Int} (hW : h_W s) {l now : Nat} (hn : now < 3600) : ¬ (now : Int) < c_sh s l (d_q now) ↔ ¬ d_shut s l now := by
  have w := hW.2.1
  have e : d_q now = now / 900 := by unfold d_q; rw [if_pos (by omega)]
  rw [e]
  unfold c_sh d_shut
  by_cases c : 0 < now / 900 ∧ ¬ wd s l (now / 900) = wd s l (now / 900 - 1)
  · rw [if_pos c]
    constructor
    · intro h1 h2; have := h2.2.1; omega
    · intro h1 h2; exact h1 ⟨⟨c.1, by omega⟩, by omega, c.2⟩
  · rw [if_neg c]
    constructor
    · intro _ h2; exact c ⟨h2.1.1, h2.2.2⟩
    · intro _; omega
theorem d_need_app (c : d_C) : ∀ L : List d_C, d_need (L ++ [c]) = d_need L + c.2.2.1
  | [] => by simp [d_need]
  | a :: r => by
    have := d_need_app c r
    simp only [List.cons_append, d_need]
    rw [this]; omega
theorem d_need_t {s : Nat → Int} {n : Nat} {σ : d_S} (hI : d_I s n σ) {l : Nat} (hl : l < 6) (hln : (σ.1 l).length ≤ 60) : (0 ≤ d_need (σ.1 l) ∧ d_need (σ.1 l) ≤ 5940) ∧ 0 ≤ d_need (σ.1 l).tail ∧ d_need (σ.1 l).tail ≤ 5940 := by
  have h := (hI.1 l hl).2.1
  have h1 := d_need_b (σ.1 l) (fun c hc => (h c hc).2.2.1)
  have h2 := d_need_b (σ.1 l).tail (fun c hc => (h c (List.mem_of_mem_tail hc)).2.2.1)
  have h3 : (σ.1 l).tail.length ≤ 60 := by rw [List.length_tail]; omega
  omega
theorem v_L.load {g : m_G} {s : Nat → Int} {n0 now : Nat} {σ : d_S} {l : Nat} {K : List Nat} (h : v_L g σ l K) (hW : h_W s) (hI : d_I s n0 σ) (hn0 : n0 ≤ 7200) (hJ : d_J σ) (hl : l < 6) (hn : now ≤ 7200) :
    (if ¬ g (44 + l) 5 = 0 ∧ (now : Int) < g (44 + l) 2 then m_wrap (m_wrap (g (44 + l) 1 + g (44 + l) 2) - now) else g (44 + l) 1) = d_load σ l now := by
  obtain ⟨⟨a1, a2, a3, a4, a5, a6, a7⟩, -, -⟩ := h
  have hb := d_need_t hI hl (d_len hW hI l hl)
  have h0 := (hI.1 l hl).2.2.1
  rw [a2, a7]
  by_cases c : 0 ≤ σ.2 0 l
  · rw [if_pos c, if_pos c, a3 c]
    have hne := hJ l hl c
    unfold d_load
    cases hq : σ.1 l with
    | nil => exact absurd hq hne
    | cons x r =>
      rw [hq] at hb
      simp only [List.tail_cons] at hb ⊢
      rw [if_pos c]
      by_cases c2 : (now : Int) < σ.2 0 l
      · rw [if_pos ⟨by decide, c2⟩, if_pos c2, m_w2 (x := d_need r + σ.2 0 l) (by omega) (by omega), m_w2 (by omega) (by omega)]; omega
      · rw [if_neg (fun z => c2 z.2), if_neg c2]; omega
  · rw [if_neg c, if_neg c, if_neg (fun z => z.1 rfl)]
    unfold d_load
    cases hq : σ.1 l with
    | nil => rfl
    | cons x r => simp only [d_need]; rw [if_neg c]
theorem p1_isBetter {l k now n0 b z : Nat} {g : m_G} {s : Nat → Int} {nd : Nat → Nat → Int} {σ : d_S} {K : Nat → List Nat} {q : m_Post} (hD : v_D g b s nd) (hW : h_W s) (hR : v_R g σ K z) (hI : d_I s n0 σ) (hn0 : n0 ≤ 7200) (hJd : d_J σ) (hQ : v_Q g s (d_q now)) (hn : now < 3600) (hl : (l : Int) < s 1) (hkl : k < l)
    (h : q (some (.inl (if d_rank s σ l now < d_rank s σ k now then 1 else 0))) g) : wX1_isBetter.1 [.inr (.inr 39), .inr (.inr (44 + l)), .inr (.inr (44 + k)), .inl now] g q := by
  have hb := hD.1
  have w := hW.2.1
  have hz := hW.1
  have hcl : m_lnc (44 + l) := by unfold m_lnc; omega
  have hck : m_lnc (44 + k) := by unfold m_lnc; omega
  have e7 : (g 39 7).toNat = b := by rw [hD.2.1]; rfl
  have e4 : g (b + 6) 4 = s 6 := hD.2.2.1.2.2.1 4 (by decide)
  have hL := (hR.1 l (by omega)).1
  have hK := (hR.1 k (by omega)).1
  have ll := d_len hW hI l (by omega)
  have lk := d_len hW hI k (by omega)
  have q1 := hQ.2 l hl
  have q2 := hQ.2 k (by omega)
  refine m_wp_of (by simp [m_fit]) (fun J hJ => ?_)
  simp only [m_ini, Nat.reduceSub, List.replicate]
  refine m_run_ok hJ (fun _ => false) 60 _ _ _ _ ?_
  simp only [e_go, rX1_isBetter_0, rX1_isBetter_1, rX1_isBetter_4, rX1_isBetter_7, rX1_isBetter_8, rX1_isBetter_9, rX1_isBetter_40, rX1_isBetter_41, rX1_isBetter_42, rX1_isBetter_45, rX1_isBetter_46, rX1_isBetter_47, rX1_isBetter_48, rX1_isBetter_51, rX1_isBetter_52, rX1_isBetter_53, rX1_isBetter_56, rX1_isBetter_59, rX1_isBetter_60, rX1_isBetter_63, rX1_isBetter_64, rX1_isBetter_65, rX1_isBetter_66, rX1_isBetter_67, rX1_isBetter_68, rX1_isBetter_69, rX1_isBetter_70, rX1_isBetter_73, rX1_isBetter_74, rX1_isBetter_77, rX1_isBetter_80, rX1_isBetter_81, rX1_isBetter_84, rX1_isBetter_85, e_ald0, e_ald1, e_ald2, e_callS2, e_callV2, e_get, e_goto, e_iald, e_icmp, e_ild3, e_push, e_pushn, e_pushs, e_retz, e_sw, e_swc, e_swn, m_b0, m_b01, m_b1, m_em, Classical.not_not, Nat.reduceBEq, Nat.reduceLT, Nat.reduceLeDiff, Nat.reduceAdd, cond_true, cond_false, Bool.or_false, Bool.false_or, Bool.or_true, Bool.true_or, beq_iff_eq, true_and, and_true, true_or, or_true, forall_const, not_true_eq_false, not_false_eq_true, false_implies, implies_true, Nat.reduceEqDiff, List.length_nil, List.length_cons, obL hcl, fvL0 hcl, fsL0 hcl, fvL1 hcl, fsL1 hcl, fvL2 hcl, fsL2 hcl, fvL3 hcl, fsL3 hcl, fvL4 hcl, fsL4 hcl, fvL5 hcl, fsL5 hcl, fvL6 hcl, fsL6 hcl, fvL7 hcl, fsL7 hcl, fvL8 hcl, fsL8 hcl, fvL9 hcl, fsL9 hcl, fvL10 hcl, fsL10 hcl, fvL11 hcl, fsL11 hcl, obL hck, fvL0 hck, fsL0 hck, fvL1 hck, fsL1 hck, fvL2 hck, fsL2 hck, fvL3 hck, fsL3 hck, fvL4 hck, fsL4 hck, fvL5 hck, fsL5 hck, fvL6 hck, fsL6 hck, fvL7 hck, fsL7 hck, fvL8 hck, fsL8 hck, fvL9 hck, fsL9 hck, fvL10 hck, fsL10 hck, fvL11 hck, fsL11 hck, ob_39, fv_39_0, fv_39_1, fv_39_2, fv_39_3, fv_39_4, fs_39_4, fv_39_5, fs_39_5, fv_39_6, fv_39_7, fs_39_7, fv_39_8, fs_39_8, fv_39_9, fs_39_9, fv_39_10, fs_39_10, e7, obH hb, fvH0 hb, fsH0 hb, fvH1 hb, fsH1 hb, fvH2 hb, fvH3 hb, fvH4 hb, fvH5 hb, fvH6 hb, fvH7 hb, kdH1 hb, lnH1 hb, ltH1 hb, kdH2 hb, lnH2 hb, ltH2 hb, kdH3 hb, lnH3 hb, ltH3 hb, kdH4 hb, lnH4 hb, ltH4 hb, kdH5 hb, lnH5 hb, ltH5 hb, kdH6 hb, lnH6 hb, ltH6 hb, Int.toNat_natCast]
  simp only [show (4 : Int).toNat = 4 from rfl, e4]
  refine ⟨by omega, fun c => ?_, fun c1 => ⟨fun c => ?_, fun c2 => ⟨fun c => ?_, fun c3 => ⟨fun c => ?_, fun c4 => ?_⟩⟩⟩⟩
  · refine p1_isMoreApart hcl hck ?_
    simp only [e_go, rX1_isBetter_0, rX1_isBetter_1, rX1_isBetter_4, rX1_isBetter_7, rX1_isBetter_8, rX1_isBetter_9, rX1_isBetter_40, rX1_isBetter_41, rX1_isBetter_42, rX1_isBetter_45, rX1_isBetter_46, rX1_isBetter_47, rX1_isBetter_48, rX1_isBetter_51, rX1_isBetter_52, rX1_isBetter_53, rX1_isBetter_56, rX1_isBetter_59, rX1_isBetter_60, rX1_isBetter_63, rX1_isBetter_64, rX1_isBetter_65, rX1_isBetter_66, rX1_isBetter_67, rX1_isBetter_68, rX1_isBetter_69, rX1_isBetter_70, rX1_isBetter_73, rX1_isBetter_74, rX1_isBetter_77, rX1_isBetter_80, rX1_isBetter_81, rX1_isBetter_84, rX1_isBetter_85, e_ald0, e_ald1, e_ald2, e_callS2, e_callV2, e_get, e_goto, e_iald, e_icmp, e_ild3, e_push, e_pushn, e_pushs, e_retz, e_sw, e_swc, e_swn, m_b0, m_b01, m_b1, m_em, Classical.not_not, Nat.reduceBEq, Nat.reduceLT, Nat.reduceLeDiff, Nat.reduceAdd, cond_true, cond_false, Bool.or_false, Bool.false_or, Bool.or_true, Bool.true_or, beq_iff_eq, true_and, and_true, true_or, or_true, forall_const, not_true_eq_false, not_false_eq_true, false_implies, implies_true, Nat.reduceEqDiff, List.length_nil, List.length_cons, obL hcl, fvL0 hcl, fsL0 hcl, fvL1 hcl, fsL1 hcl, fvL2 hcl, fsL2 hcl, fvL3 hcl, fsL3 hcl, fvL4 hcl, fsL4 hcl, fvL5 hcl, fsL5 hcl, fvL6 hcl, fsL6 hcl, fvL7 hcl, fsL7 hcl, fvL8 hcl, fsL8 hcl, fvL9 hcl, fsL9 hcl, fvL10 hcl, fsL10 hcl, fvL11 hcl, fsL11 hcl, obL hck, fvL0 hck, fsL0 hck, fvL1 hck, fsL1 hck, fvL2 hck, fsL2 hck, fvL3 hck, fsL3 hck, fvL4 hck, fsL4 hck, fvL5 hck, fsL5 hck, fvL6 hck, fsL6 hck, fvL7 hck, fsL7 hck, fvL8 hck, fsL8 hck, fvL9 hck, fsL9 hck, fvL10 hck, fsL10 hck, fvL11 hck, fsL11 hck, ob_39, fv_39_0, fv_39_1, fv_39_2, fv_39_3, fv_39_4, fs_39_4, fv_39_5, fs_39_5, fv_39_6, fv_39_7, fs_39_7, fv_39_8, fs_39_8, fv_39_9, fs_39_9, fv_39_10, fs_39_10, e7, obH hb, fvH0 hb, fsH0 hb, fvH1 hb, fsH1 hb, fvH2 hb, fvH3 hb, fvH4 hb, fvH5 hb, fvH6 hb, fvH7 hb, kdH1 hb, lnH1 hb, ltH1 hb, kdH2 hb, lnH2 hb, ltH2 hb, kdH3 hb, lnH3 hb, ltH3 hb, kdH4 hb, lnH4 hb, ltH4 hb, kdH5 hb, lnH5 hb, ltH5 hb, kdH6 hb, lnH6 hb, ltH6 hb, Int.toNat_natCast]
    unfold d_rank d_wd at h
    rw [if_pos c, if_pos c] at h
    rw [q1.2.1, q2.2.1, hL.1.1, hK.1.1]
    refine cast (congrArg (fun v => q (some (.inl v)) g) ?_) h
    by_cases d : 100 * d_bits (wd s l (d_q now)) + ((σ.1 l).length : Int) < 100 * d_bits (wd s k (d_q now)) + ((σ.1 k).length : Int)
    · rw [if_pos d, if_pos (by omega)]
    · rw [if_neg d, if_neg (by omega)]
  · refine p3_loadAt hcl ?_
    simp only [e_go, rX1_isBetter_0, rX1_isBetter_1, rX1_isBetter_4, rX1_isBetter_7, rX1_isBetter_8, rX1_isBetter_9, rX1_isBetter_40, rX1_isBetter_41, rX1_isBetter_42, rX1_isBetter_45, rX1_isBetter_46, rX1_isBetter_47, rX1_isBetter_48, rX1_isBetter_51, rX1_isBetter_52, rX1_isBetter_53, rX1_isBetter_56, rX1_isBetter_59, rX1_isBetter_60, rX1_isBetter_63, rX1_isBetter_64, rX1_isBetter_65, rX1_isBetter_66, rX1_isBetter_67, rX1_isBetter_68, rX1_isBetter_69, rX1_isBetter_70, rX1_isBetter_73, rX1_isBetter_74, rX1_isBetter_77, rX1_isBetter_80, rX1_isBetter_81, rX1_isBetter_84, rX1_isBetter_85, e_ald0, e_ald1, e_ald2, e_callS2, e_callV2, e_get, e_goto, e_iald, e_icmp, e_ild3, e_push, e_pushn, e_pushs, e_retz, e_sw, e_swc, e_swn, m_b0, m_b01, m_b1, m_em, Classical.not_not, Nat.reduceBEq, Nat.reduceLT, Nat.reduceLeDiff, Nat.reduceAdd, cond_true, cond_false, Bool.or_false, Bool.false_or, Bool.or_true, Bool.true_or, beq_iff_eq, true_and, and_true, true_or, or_true, forall_const, not_true_eq_false, not_false_eq_true, false_implies, implies_true, Nat.reduceEqDiff, List.length_nil, List.length_cons, obL hcl, fvL0 hcl, fsL0 hcl, fvL1 hcl, fsL1 hcl, fvL2 hcl, fsL2 hcl, fvL3 hcl, fsL3 hcl, fvL4 hcl, fsL4 hcl, fvL5 hcl, fsL5 hcl, fvL6 hcl, fsL6 hcl, fvL7 hcl, fsL7 hcl, fvL8 hcl, fsL8 hcl, fvL9 hcl, fsL9 hcl, fvL10 hcl, fsL10 hcl, fvL11 hcl, fsL11 hcl, obL hck, fvL0 hck, fsL0 hck, fvL1 hck, fsL1 hck, fvL2 hck, fsL2 hck, fvL3 hck, fsL3 hck, fvL4 hck, fsL4 hck, fvL5 hck, fsL5 hck, fvL6 hck, fsL6 hck, fvL7 hck, fsL7 hck, fvL8 hck, fsL8 hck, fvL9 hck, fsL9 hck, fvL10 hck, fsL10 hck, fvL11 hck, fsL11 hck, ob_39, fv_39_0, fv_39_1, fv_39_2, fv_39_3, fv_39_4, fs_39_4, fv_39_5, fs_39_5, fv_39_6, fv_39_7, fs_39_7, fv_39_8, fs_39_8, fv_39_9, fs_39_9, fv_39_10, fs_39_10, e7, obH hb, fvH0 hb, fsH0 hb, fvH1 hb, fsH1 hb, fvH2 hb, fvH3 hb, fvH4 hb, fvH5 hb, fvH6 hb, fvH7 hb, kdH1 hb, lnH1 hb, ltH1 hb, kdH2 hb, lnH2 hb, ltH2 hb, kdH3 hb, lnH3 hb, ltH3 hb, kdH4 hb, lnH4 hb, ltH4 hb, kdH5 hb, lnH5 hb, ltH5 hb, kdH6 hb, lnH6 hb, ltH6 hb, Int.toNat_natCast]
    refine p3_loadAt hck ?_
    simp only [e_go, rX1_isBetter_0, rX1_isBetter_1, rX1_isBetter_4, rX1_isBetter_7, rX1_isBetter_8, rX1_isBetter_9, rX1_isBetter_40, rX1_isBetter_41, rX1_isBetter_42, rX1_isBetter_45, rX1_isBetter_46, rX1_isBetter_47, rX1_isBetter_48, rX1_isBetter_51, rX1_isBetter_52, rX1_isBetter_53, rX1_isBetter_56, rX1_isBetter_59, rX1_isBetter_60, rX1_isBetter_63, rX1_isBetter_64, rX1_isBetter_65, rX1_isBetter_66, rX1_isBetter_67, rX1_isBetter_68, rX1_isBetter_69, rX1_isBetter_70, rX1_isBetter_73, rX1_isBetter_74, rX1_isBetter_77, rX1_isBetter_80, rX1_isBetter_81, rX1_isBetter_84, rX1_isBetter_85, e_ald0, e_ald1, e_ald2, e_callS2, e_callV2, e_get, e_goto, e_iald, e_icmp, e_ild3, e_push, e_pushn, e_pushs, e_retz, e_sw, e_swc, e_swn, m_b0, m_b01, m_b1, m_em, Classical.not_not, Nat.reduceBEq, Nat.reduceLT, Nat.reduceLeDiff, Nat.reduceAdd, cond_true, cond_false, Bool.or_false, Bool.false_or, Bool.or_true, Bool.true_or, beq_iff_eq, true_and, and_true, true_or, or_true, forall_const, not_true_eq_false, not_false_eq_true, false_implies, implies_true, Nat.reduceEqDiff, List.length_nil, List.length_cons, obL hcl, fvL0 hcl, fsL0 hcl, fvL1 hcl, fsL1 hcl, fvL2 hcl, fsL2 hcl, fvL3 hcl, fsL3 hcl, fvL4 hcl, fsL4 hcl, fvL5 hcl, fsL5 hcl, fvL6 hcl, fsL6 hcl, fvL7 hcl, fsL7 hcl, fvL8 hcl, fsL8 hcl, fvL9 hcl, fsL9 hcl, fvL10 hcl, fsL10 hcl, fvL11 hcl, fsL11 hcl, obL hck, fvL0 hck, fsL0 hck, fvL1 hck, fsL1 hck, fvL2 hck, fsL2 hck, fvL3 hck, fsL3 hck, fvL4 hck, fsL4 hck, fvL5 hck, fsL5 hck, fvL6 hck, fsL6 hck, fvL7 hck, fsL7 hck, fvL8 hck, fsL8 hck, fvL9 hck, fsL9 hck, fvL10 hck, fsL10 hck, fvL11 hck, fsL11 hck, ob_39, fv_39_0, fv_39_1, fv_39_2, fv_39_3, fv_39_4, fs_39_4, fv_39_5, fs_39_5, fv_39_6, fv_39_7, fs_39_7, fv_39_8, fs_39_8, fv_39_9, fs_39_9, fv_39_10, fs_39_10, e7, obH hb, fvH0 hb, fsH0 hb, fvH1 hb, fsH1 hb, fvH2 hb, fvH3 hb, fvH4 hb, fvH5 hb, fvH6 hb, fvH7 hb, kdH1 hb, lnH1 hb, ltH1 hb, kdH2 hb, lnH2 hb, ltH2 hb, kdH3 hb, lnH3 hb, ltH3 hb, kdH4 hb, lnH4 hb, ltH4 hb, kdH5 hb, lnH5 hb, ltH5 hb, kdH6 hb, lnH6 hb, ltH6 hb, Int.toNat_natCast]
    rw [hL.load hW hI hn0 hJd (by omega) (by omega), hK.load hW hI hn0 hJd (by omega) (by omega)]
    unfold d_rank at h
    rw [if_neg c1, if_pos c, if_neg c1, if_pos c] at h
    refine ⟨fun d => ?_, fun d => ?_⟩
    · rw [if_neg (by omega)] at h; exact h
    · rw [if_pos (by omega)] at h; exact h
  · unfold d_rank at h
    rw [if_neg c1, if_neg c2, if_pos c, if_neg c1, if_neg c2, if_pos c, if_neg (by omega)] at h; exact h
  · unfold d_rank at h
    rw [if_neg c1, if_neg c2, if_neg c3, if_pos c, if_neg c1, if_neg c2, if_neg c3, if_pos c, if_pos (by omega)] at h; exact h
  · unfold d_rank at h
    rw [if_neg c1, if_neg c2, if_neg c3, if_neg c4, if_neg c1, if_neg c2, if_neg c3, if_neg c4] at h
    rw [hL.1.1, hK.1.1]
    refine ⟨fun d => ?_, fun d => ?_⟩
    · rw [if_neg (by omega)] at h; exact h
    · rw [if_pos (by omega)] at h; exact h
theorem d_ch_rank (s : Nat → Int) (σ : d_S) (t : Int) (now : Nat) : ∀ n : Nat, 0 ≤ (d_ch s σ t now n).1 → (d_ch s σ t now n).2 = d_rank s σ (d_ch s σ t now n).1.toNat now
  | 0, h => absurd h (by simp [d_ch])
  | n + 1, h => by
    simp only [d_ch] at h ⊢
    split
    · simp only [Int.toNat_natCast]
    · rename_i c
      rw [if_neg c] at h
      exact d_ch_rank s σ t now n h
def v_b (x : Int) : Int := if x < 0 then -1 else x
theorem p1_choose {T now n0 b z : Nat} {g : m_G} {s : Nat → Int} {nd : Nat → Nat → Int} {σ : d_S} {K : Nat → List Nat} {q : m_Post} (hD : v_D g b s nd) (hW : h_W s) (hR : v_R g σ K z) (hI : d_I s n0 σ) (hn0 : n0 ≤ 7200) (hJd : d_J σ) (hQ : v_Q g s (d_q now)) (hn : now < 3600)
    (h : q (some (.inl (v_b (d_ch s σ T now (s 1).toNat).1))) g) : wX1_choose.1 [.inr (.inr 39), .inl T, .inl now] g q := by
  have hb := hD.1
  have hz := hW.1
  have e7 : (g 39 7).toNat = b := by rw [hD.2.1]; rfl
  have e1 : g b 1 = s 1 := hD.2.2.1.1.2
  refine m_wp_of (by simp [m_fit]) (fun J hJ => ?_)
  simp only [m_ini, Nat.reduceSub, List.replicate]
  have loop : ∀ (m l : Nat) (x5 x6 : Option m_V), m_nl x5 → m_nl x6 → l + m = (s 1).toNat → J 5 [some (.inr (.inr 39)), some (.inl T), some (.inl now), some (.inl (v_b (d_ch s σ T now l).1)), some (.inl l), x5, x6] [] g := by
    intro m
    induction m with
    | zero =>
      intro l x5 x6 n5 n6 hl
      refine m_run_ok hJ (fun pc => pc == 5) 60 _ _ _ _ ?_
      simp only [e_go, rX1_choose_0, rX1_choose_1, rX1_choose_2, rX1_choose_3, rX1_choose_5, rX1_choose_7, rX1_choose_8, rX1_choose_11, rX1_choose_14, rX1_choose_17, rX1_choose_18, rX1_choose_21, rX1_choose_23, rX1_choose_24, rX1_choose_26, rX1_choose_28, rX1_choose_31, rX1_choose_32, rX1_choose_35, rX1_choose_38, rX1_choose_39, rX1_choose_41, rX1_choose_44, rX1_choose_47, rX1_choose_48, rX1_choose_50, rX1_choose_53, rX1_choose_56, rX1_choose_57, rX1_choose_60, rX1_choose_61, rX1_choose_63, rX1_choose_65, rX1_choose_68, rX1_choose_69, rX1_choose_72, rX1_choose_73, rX1_choose_75, rX1_choose_76, rX1_choose_79, rX1_choose_80, rX1_choose_81, rX1_choose_82, rX1_choose_85, rX1_choose_88, rX1_choose_90, rX1_choose_91, rX1_choose_94, rX1_choose_97, rX1_choose_98, e_aald, e_ald0, e_ald5, e_ast5, e_callS2, e_callV2, e_callV4, e_get, e_goto, e_icmp, e_if, e_ild1, e_ild2, e_ild3, e_ild4, e_ild6, e_inc4, e_ist3, e_ist4, e_ist6, e_nl0, e_nl1, e_nl2, e_push, e_pushn, e_pushs, e_ret, m_b0, m_b01, m_b1, m_em, Classical.not_not, Nat.reduceBEq, Nat.reduceLT, Nat.reduceLeDiff, Nat.reduceAdd, cond_true, cond_false, Bool.or_false, Bool.false_or, Bool.or_true, Bool.true_or, beq_iff_eq, true_and, and_true, true_or, or_true, forall_const, not_true_eq_false, not_false_eq_true, false_implies, implies_true, Nat.reduceEqDiff, List.length_nil, List.length_cons, ob_39, fv_39_0, fv_39_1, fv_39_2, fv_39_3, fv_39_4, fs_39_4, fv_39_5, fs_39_5, fv_39_6, fv_39_7, fs_39_7, fv_39_8, fs_39_8, fv_39_9, fs_39_9, fv_39_10, fs_39_10, kd_43, ln_43, e7, obH hb, fvH0 hb, fsH0 hb, fvH1 hb, fsH1 hb, fvH2 hb, fvH3 hb, fvH4 hb, fvH5 hb, fvH6 hb, fvH7 hb, kdH1 hb, lnH1 hb, ltH1 hb, kdH2 hb, lnH2 hb, ltH2 hb, kdH3 hb, lnH3 hb, ltH3 hb, kdH4 hb, lnH4 hb, ltH4 hb, kdH5 hb, lnH5 hb, ltH5 hb, kdH6 hb, lnH6 hb, ltH6 hb, Int.toNat_natCast, e1]
      refine ⟨fun _ => ?_, fun z => absurd z (by omega)⟩
      rw [show l = (s 1).toNat by omega]
      exact h
    | succ m ih =>
      intro l x5 x6 n5 n6 hl
      have hcl : m_lnc (44 + l) := by unfold m_lnc; omega
      have hL := (hR.1 l (by omega)).1
      have q1 := hQ.2 l (by omega)
      have hcb := d_ch_b s σ T now l
      have hcr := d_ch_rank s σ T now l
      have shf := c_sh_iff hW (l := l) hn
      have nx : ∀ (v x6 : Int), v = v_b (d_ch s σ T now (l + 1)).1 → J 5 [some (.inr (.inr 39)), some (.inl T), some (.inl now), some (.inl v), some (.inl (l + 1 : Nat)), some (.inr (.inr (44 + l))), some (.inl x6)] [] g := fun v x6 hv => by rw [hv]; exact ih (l + 1) _ _ trivial trivial (by omega)
      simp only [d_ch] at nx
      unfold d_open d_wd at nx
      have e1' : m_wrap ((l : Int) + 1) = ((l + 1 : Nat) : Int) := by rw [m_w2 (by omega) (by omega)]; omega
      have hvb : v_b (d_ch s σ T now l).1 < 0 ↔ (d_ch s σ T now l).1 < 0 := by unfold v_b; split <;> omega
      generalize hp : d_ch s σ T now l = pp at nx hcb hcr hvb
      refine m_run_ok hJ (fun pc => pc == 5) 60 _ _ _ _ ?_
      simp only [e_go, rX1_choose_0, rX1_choose_1, rX1_choose_2, rX1_choose_3, rX1_choose_5, rX1_choose_7, rX1_choose_8, rX1_choose_11, rX1_choose_14, rX1_choose_17, rX1_choose_18, rX1_choose_21, rX1_choose_23, rX1_choose_24, rX1_choose_26, rX1_choose_28, rX1_choose_31, rX1_choose_32, rX1_choose_35, rX1_choose_38, rX1_choose_39, rX1_choose_41, rX1_choose_44, rX1_choose_47, rX1_choose_48, rX1_choose_50, rX1_choose_53, rX1_choose_56, rX1_choose_57, rX1_choose_60, rX1_choose_61, rX1_choose_63, rX1_choose_65, rX1_choose_68, rX1_choose_69, rX1_choose_72, rX1_choose_73, rX1_choose_75, rX1_choose_76, rX1_choose_79, rX1_choose_80, rX1_choose_81, rX1_choose_82, rX1_choose_85, rX1_choose_88, rX1_choose_90, rX1_choose_91, rX1_choose_94, rX1_choose_97, rX1_choose_98, e_aald, e_ald0, e_ald5, e_ast5, e_callS2, e_callV2, e_callV4, e_get, e_goto, e_icmp, e_if, e_ild1, e_ild2, e_ild3, e_ild4, e_ild6, e_inc4, e_ist3, e_ist4, e_ist6, e_nl0, e_nl1, e_nl2, e_push, e_pushn, e_pushs, e_ret, m_b0, m_b01, m_b1, m_em, Classical.not_not, Nat.reduceBEq, Nat.reduceLT, Nat.reduceLeDiff, Nat.reduceAdd, cond_true, cond_false, Bool.or_false, Bool.false_or, Bool.or_true, Bool.true_or, beq_iff_eq, true_and, and_true, true_or, or_true, forall_const, not_true_eq_false, not_false_eq_true, false_implies, implies_true, Nat.reduceEqDiff, List.length_nil, List.length_cons, ob_39, fv_39_0, fv_39_1, fv_39_2, fv_39_3, fv_39_4, fs_39_4, fv_39_5, fs_39_5, fv_39_6, fv_39_7, fs_39_7, fv_39_8, fs_39_8, fv_39_9, fs_39_9, fv_39_10, fs_39_10, kd_43, ln_43, e7, obH hb, fvH0 hb, fsH0 hb, fvH1 hb, fsH1 hb, fvH2 hb, fvH3 hb, fvH4 hb, fvH5 hb, fvH6 hb, fvH7 hb, kdH1 hb, lnH1 hb, ltH1 hb, kdH2 hb, lnH2 hb, ltH2 hb, kdH3 hb, lnH3 hb, ltH3 hb, kdH4 hb, lnH4 hb, ltH4 hb, kdH5 hb, lnH5 hb, ltH5 hb, kdH6 hb, lnH6 hb, ltH6 hb, obL hcl, fvL0 hcl, fsL0 hcl, fvL1 hcl, fsL1 hcl, fvL2 hcl, fsL2 hcl, fvL3 hcl, fsL3 hcl, fvL4 hcl, fsL4 hcl, fvL5 hcl, fsL5 hcl, fvL6 hcl, fsL6 hcl, fvL7 hcl, fsL7 hcl, fvL8 hcl, fsL8 hcl, fvL9 hcl, fsL9 hcl, fvL10 hcl, fsL10 hcl, fvL11 hcl, fsL11 hcl, Int.toNat_natCast, e1]
      rw [q1.1]
      refine ⟨fun z => absurd z (by omega), fun _ => ⟨by omega, ?_⟩⟩
      refine p_hasBit ?_
      simp only [e_go, rX1_choose_0, rX1_choose_1, rX1_choose_2, rX1_choose_3, rX1_choose_5, rX1_choose_7, rX1_choose_8, rX1_choose_11, rX1_choose_14, rX1_choose_17, rX1_choose_18, rX1_choose_21, rX1_choose_23, rX1_choose_24, rX1_choose_26, rX1_choose_28, rX1_choose_31, rX1_choose_32, rX1_choose_35, rX1_choose_38, rX1_choose_39, rX1_choose_41, rX1_choose_44, rX1_choose_47, rX1_choose_48, rX1_choose_50, rX1_choose_53, rX1_choose_56, rX1_choose_57, rX1_choose_60, rX1_choose_61, rX1_choose_63, rX1_choose_65, rX1_choose_68, rX1_choose_69, rX1_choose_72, rX1_choose_73, rX1_choose_75, rX1_choose_76, rX1_choose_79, rX1_choose_80, rX1_choose_81, rX1_choose_82, rX1_choose_85, rX1_choose_88, rX1_choose_90, rX1_choose_91, rX1_choose_94, rX1_choose_97, rX1_choose_98, e_aald, e_ald0, e_ald5, e_ast5, e_callS2, e_callV2, e_callV4, e_get, e_goto, e_icmp, e_if, e_ild1, e_ild2, e_ild3, e_ild4, e_ild6, e_inc4, e_ist3, e_ist4, e_ist6, e_nl0, e_nl1, e_nl2, e_push, e_pushn, e_pushs, e_ret, m_b0, m_b01, m_b1, m_em, Classical.not_not, Nat.reduceBEq, Nat.reduceLT, Nat.reduceLeDiff, Nat.reduceAdd, cond_true, cond_false, Bool.or_false, Bool.false_or, Bool.or_true, Bool.true_or, beq_iff_eq, true_and, and_true, true_or, or_true, forall_const, not_true_eq_false, not_false_eq_true, false_implies, implies_true, Nat.reduceEqDiff, List.length_nil, List.length_cons, ob_39, fv_39_0, fv_39_1, fv_39_2, fv_39_3, fv_39_4, fs_39_4, fv_39_5, fs_39_5, fv_39_6, fv_39_7, fs_39_7, fv_39_8, fs_39_8, fv_39_9, fs_39_9, fv_39_10, fs_39_10, kd_43, ln_43, e7, obH hb, fvH0 hb, fsH0 hb, fvH1 hb, fsH1 hb, fvH2 hb, fvH3 hb, fvH4 hb, fvH5 hb, fvH6 hb, fvH7 hb, kdH1 hb, lnH1 hb, ltH1 hb, kdH2 hb, lnH2 hb, ltH2 hb, kdH3 hb, lnH3 hb, ltH3 hb, kdH4 hb, lnH4 hb, ltH4 hb, kdH5 hb, lnH5 hb, ltH5 hb, kdH6 hb, lnH6 hb, ltH6 hb, obL hcl, fvL0 hcl, fsL0 hcl, fvL1 hcl, fsL1 hcl, fvL2 hcl, fsL2 hcl, fvL3 hcl, fsL3 hcl, fvL4 hcl, fsL4 hcl, fvL5 hcl, fsL5 hcl, fvL6 hcl, fsL6 hcl, fvL7 hcl, fsL7 hcl, fvL8 hcl, fsL8 hcl, fvL9 hcl, fsL9 hcl, fvL10 hcl, fsL10 hcl, fvL11 hcl, fsL11 hcl, Int.toNat_natCast, e1]
      refine ⟨fun c => ?_, fun c => ?_⟩
      · rw [e1']
        refine nx _ _ ?_
        rw [if_neg (fun z => c z.1.1)]
      refine p1_hasPlace hcl hD ?_
      simp only [e_go, rX1_choose_0, rX1_choose_1, rX1_choose_2, rX1_choose_3, rX1_choose_5, rX1_choose_7, rX1_choose_8, rX1_choose_11, rX1_choose_14, rX1_choose_17, rX1_choose_18, rX1_choose_21, rX1_choose_23, rX1_choose_24, rX1_choose_26, rX1_choose_28, rX1_choose_31, rX1_choose_32, rX1_choose_35, rX1_choose_38, rX1_choose_39, rX1_choose_41, rX1_choose_44, rX1_choose_47, rX1_choose_48, rX1_choose_50, rX1_choose_53, rX1_choose_56, rX1_choose_57, rX1_choose_60, rX1_choose_61, rX1_choose_63, rX1_choose_65, rX1_choose_68, rX1_choose_69, rX1_choose_72, rX1_choose_73, rX1_choose_75, rX1_choose_76, rX1_choose_79, rX1_choose_80, rX1_choose_81, rX1_choose_82, rX1_choose_85, rX1_choose_88, rX1_choose_90, rX1_choose_91, rX1_choose_94, rX1_choose_97, rX1_choose_98, e_aald, e_ald0, e_ald5, e_ast5, e_callS2, e_callV2, e_callV4, e_get, e_goto, e_icmp, e_if, e_ild1, e_ild2, e_ild3, e_ild4, e_ild6, e_inc4, e_ist3, e_ist4, e_ist6, e_nl0, e_nl1, e_nl2, e_push, e_pushn, e_pushs, e_ret, m_b0, m_b01, m_b1, m_em, Classical.not_not, Nat.reduceBEq, Nat.reduceLT, Nat.reduceLeDiff, Nat.reduceAdd, cond_true, cond_false, Bool.or_false, Bool.false_or, Bool.or_true, Bool.true_or, beq_iff_eq, true_and, and_true, true_or, or_true, forall_const, not_true_eq_false, not_false_eq_true, false_implies, implies_true, Nat.reduceEqDiff, List.length_nil, List.length_cons, ob_39, fv_39_0, fv_39_1, fv_39_2, fv_39_3, fv_39_4, fs_39_4, fv_39_5, fs_39_5, fv_39_6, fv_39_7, fs_39_7, fv_39_8, fs_39_8, fv_39_9, fs_39_9, fv_39_10, fs_39_10, kd_43, ln_43, e7, obH hb, fvH0 hb, fsH0 hb, fvH1 hb, fsH1 hb, fvH2 hb, fvH3 hb, fvH4 hb, fvH5 hb, fvH6 hb, fvH7 hb, kdH1 hb, lnH1 hb, ltH1 hb, kdH2 hb, lnH2 hb, ltH2 hb, kdH3 hb, lnH3 hb, ltH3 hb, kdH4 hb, lnH4 hb, ltH4 hb, kdH5 hb, lnH5 hb, ltH5 hb, kdH6 hb, lnH6 hb, ltH6 hb, obL hcl, fvL0 hcl, fsL0 hcl, fvL1 hcl, fsL1 hcl, fvL2 hcl, fsL2 hcl, fvL3 hcl, fsL3 hcl, fvL4 hcl, fsL4 hcl, fvL5 hcl, fsL5 hcl, fvL6 hcl, fsL6 hcl, fvL7 hcl, fsL7 hcl, fvL8 hcl, fsL8 hcl, fvL9 hcl, fsL9 hcl, fvL10 hcl, fsL10 hcl, fvL11 hcl, fsL11 hcl, Int.toNat_natCast, e1]
      rw [e1', q1.2.2, hL.1.1]
      refine ⟨fun c2 => ?_, fun c2 => ⟨fun c3 => ?_, fun c3 => ⟨fun z => absurd z (by decide), fun _ => ⟨fun c4 => ?_, fun c4 => ?_⟩⟩⟩⟩
      · refine nx _ _ ?_
        rw [if_neg (fun z => c2 z.1.2.1)]
      · refine nx _ _ ?_
        rw [if_neg (fun z => shf.2 z.1.2.2 c3)]
      · refine nx _ _ ?_
        rw [if_pos ⟨⟨c, c2, shf.1 c3⟩, fun z => by have := hvb.1 c4; omega⟩]
        unfold v_b
        simp only
        rw [if_neg (by omega)]
      · have c5 : ¬ pp.1 < 0 := fun z => c4 (hvb.2 z)
        obtain ⟨k, hk⟩ : ∃ k : Nat, pp.1 = (k : Int) := ⟨pp.1.toNat, by omega⟩
        have hvk : v_b pp.1 = (k : Int) := by unfold v_b; rw [if_neg c5, hk]
        have hr := hcr (by omega)
        rw [hk, Int.toNat_natCast] at hr
        rw [hvk, Int.toNat_natCast]
        refine ⟨by omega, ?_⟩
        refine p1_isBetter hD hW hR hI hn0 hJd hQ hn (by omega) (by omega) ?_
        simp only [e_go, rX1_choose_0, rX1_choose_1, rX1_choose_2, rX1_choose_3, rX1_choose_5, rX1_choose_7, rX1_choose_8, rX1_choose_11, rX1_choose_14, rX1_choose_17, rX1_choose_18, rX1_choose_21, rX1_choose_23, rX1_choose_24, rX1_choose_26, rX1_choose_28, rX1_choose_31, rX1_choose_32, rX1_choose_35, rX1_choose_38, rX1_choose_39, rX1_choose_41, rX1_choose_44, rX1_choose_47, rX1_choose_48, rX1_choose_50, rX1_choose_53, rX1_choose_56, rX1_choose_57, rX1_choose_60, rX1_choose_61, rX1_choose_63, rX1_choose_65, rX1_choose_68, rX1_choose_69, rX1_choose_72, rX1_choose_73, rX1_choose_75, rX1_choose_76, rX1_choose_79, rX1_choose_80, rX1_choose_81, rX1_choose_82, rX1_choose_85, rX1_choose_88, rX1_choose_90, rX1_choose_91, rX1_choose_94, rX1_choose_97, rX1_choose_98, e_aald, e_ald0, e_ald5, e_ast5, e_callS2, e_callV2, e_callV4, e_get, e_goto, e_icmp, e_if, e_ild1, e_ild2, e_ild3, e_ild4, e_ild6, e_inc4, e_ist3, e_ist4, e_ist6, e_nl0, e_nl1, e_nl2, e_push, e_pushn, e_pushs, e_ret, m_b0, m_b01, m_b1, m_em, Classical.not_not, Nat.reduceBEq, Nat.reduceLT, Nat.reduceLeDiff, Nat.reduceAdd, cond_true, cond_false, Bool.or_false, Bool.false_or, Bool.or_true, Bool.true_or, beq_iff_eq, true_and, and_true, true_or, or_true, forall_const, not_true_eq_false, not_false_eq_true, false_implies, implies_true, Nat.reduceEqDiff, List.length_nil, List.length_cons, ob_39, fv_39_0, fv_39_1, fv_39_2, fv_39_3, fv_39_4, fs_39_4, fv_39_5, fs_39_5, fv_39_6, fv_39_7, fs_39_7, fv_39_8, fs_39_8, fv_39_9, fs_39_9, fv_39_10, fs_39_10, kd_43, ln_43, e7, obH hb, fvH0 hb, fsH0 hb, fvH1 hb, fsH1 hb, fvH2 hb, fvH3 hb, fvH4 hb, fvH5 hb, fvH6 hb, fvH7 hb, kdH1 hb, lnH1 hb, ltH1 hb, kdH2 hb, lnH2 hb, ltH2 hb, kdH3 hb, lnH3 hb, ltH3 hb, kdH4 hb, lnH4 hb, ltH4 hb, kdH5 hb, lnH5 hb, ltH5 hb, kdH6 hb, lnH6 hb, ltH6 hb, obL hcl, fvL0 hcl, fsL0 hcl, fvL1 hcl, fsL1 hcl, fvL2 hcl, fsL2 hcl, fvL3 hcl, fsL3 hcl, fvL4 hcl, fsL4 hcl, fvL5 hcl, fsL5 hcl, fvL6 hcl, fsL6 hcl, fvL7 hcl, fsL7 hcl, fvL8 hcl, fsL8 hcl, fvL9 hcl, fsL9 hcl, fvL10 hcl, fsL10 hcl, fvL11 hcl, fsL11 hcl, Int.toNat_natCast, e1]
        rw [e1']
        refine ⟨fun c6 => ?_, fun c6 => ?_⟩
        · refine nx _ _ ?_
          rw [if_neg (fun z => z.2 ⟨by omega, by omega⟩), hvk]
        · refine nx _ _ ?_
          rw [if_pos ⟨⟨c, c2, shf.1 c3⟩, fun z => by omega⟩]
          unfold v_b
          simp only
          rw [if_neg (by omega)]
  refine m_run_ok hJ (fun pc => pc == 5) 60 _ _ _ _ ?_
  simp only [e_go, rX1_choose_0, rX1_choose_1, rX1_choose_2, rX1_choose_3, rX1_choose_5, rX1_choose_7, rX1_choose_8, rX1_choose_11, rX1_choose_14, rX1_choose_17, rX1_choose_18, rX1_choose_21, rX1_choose_23, rX1_choose_24, rX1_choose_26, rX1_choose_28, rX1_choose_31, rX1_choose_32, rX1_choose_35, rX1_choose_38, rX1_choose_39, rX1_choose_41, rX1_choose_44, rX1_choose_47, rX1_choose_48, rX1_choose_50, rX1_choose_53, rX1_choose_56, rX1_choose_57, rX1_choose_60, rX1_choose_61, rX1_choose_63, rX1_choose_65, rX1_choose_68, rX1_choose_69, rX1_choose_72, rX1_choose_73, rX1_choose_75, rX1_choose_76, rX1_choose_79, rX1_choose_80, rX1_choose_81, rX1_choose_82, rX1_choose_85, rX1_choose_88, rX1_choose_90, rX1_choose_91, rX1_choose_94, rX1_choose_97, rX1_choose_98, e_aald, e_ald0, e_ald5, e_ast5, e_callS2, e_callV2, e_callV4, e_get, e_goto, e_icmp, e_if, e_ild1, e_ild2, e_ild3, e_ild4, e_ild6, e_inc4, e_ist3, e_ist4, e_ist6, e_nl0, e_nl1, e_nl2, e_push, e_pushn, e_pushs, e_ret, m_b0, m_b01, m_b1, m_em, Classical.not_not, Nat.reduceBEq, Nat.reduceLT, Nat.reduceLeDiff, Nat.reduceAdd, cond_true, cond_false, Bool.or_false, Bool.false_or, Bool.or_true, Bool.true_or, beq_iff_eq, true_and, and_true, true_or, or_true, forall_const, not_true_eq_false, not_false_eq_true, false_implies, implies_true, Nat.reduceEqDiff, List.length_nil, List.length_cons, ob_39, fv_39_0, fv_39_1, fv_39_2, fv_39_3, fv_39_4, fs_39_4, fv_39_5, fs_39_5, fv_39_6, fv_39_7, fs_39_7, fv_39_8, fs_39_8, fv_39_9, fs_39_9, fv_39_10, fs_39_10, kd_43, ln_43, e7, obH hb, fvH0 hb, fsH0 hb, fvH1 hb, fsH1 hb, fvH2 hb, fvH3 hb, fvH4 hb, fvH5 hb, fvH6 hb, fvH7 hb, kdH1 hb, lnH1 hb, ltH1 hb, kdH2 hb, lnH2 hb, ltH2 hb, kdH3 hb, lnH3 hb, ltH3 hb, kdH4 hb, lnH4 hb, ltH4 hb, kdH5 hb, lnH5 hb, ltH5 hb, kdH6 hb, lnH6 hb, ltH6 hb, Int.toNat_natCast, e1]
  have := loop (s 1).toNat 0 none none trivial trivial (by omega)
  simp only [d_ch] at this
  exact this
