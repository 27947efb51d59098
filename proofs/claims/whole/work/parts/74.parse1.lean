set_option maxRecDepth 20000
set_option maxHeartbeats 2000000
/-! STATEMENTS read: the sign at a place, numbers, forms -/
def ps_s (T : Nat → Int) (n i : Nat) : Int := if i < n then T i else -1
abbrev ps_d (x : Int) : Prop := 48 ≤ x ∧ x ≤ 57
def ps_l (T : Nat → Int) (n : Nat) : Nat → Int → Nat → Int × Nat
  | 0, v, p => (v, p)
  | m + 1, v, p => if ps_d (ps_s T n p) then ps_l T n m (10 * v + ps_s T n p - 48) (p + 1) else (v, p)
def ps_form (c : Int) : List Int := if c = 115 then [110, 44, 110, 59] else if c = 108 then [110, 59] else if c = 97 ∨ c = 113 then [100, 100, 44, 110, 59] else []
/-- parts of a form: whether all are there, the place, the numbers -/
def ps_f (T : Nat → Int) (n : Nat) : List Int → List Int → Nat → Bool × Nat × List Int
  | [], vs, p => (true, p, vs)
  | x :: xs, vs, p =>
    if x = 100 then (if ps_d (ps_s T n p) then ps_f T n xs (vs ++ [(ps_l T n 1 0 p).1]) (ps_l T n 1 0 p).2 else (false, p, vs))
    else if x = 110 then (if ps_d (ps_s T n p) then ps_f T n xs (vs ++ [(ps_l T n 2 0 p).1]) (ps_l T n 2 0 p).2 else (false, p, vs))
    else if ps_s T n p = x then ps_f T n xs vs (p + 1) else (false, p, vs)
def ps_st (T : Nat → Int) (n p : Nat) : Bool × Nat × List Int := if ps_form (ps_s T n p) = [] then (false, p, []) else ps_f T n (ps_form (ps_s T n p)) [] (p + 1)
theorem ps_l_b {T : Nat → Int} {n : Nat} : ∀ (m : Nat) (v : Int) (p : Nat), m ≤ 2 → p ≤ n → 0 ≤ v → (m = 2 → v = 0) → (m = 1 → v ≤ 9) → (m = 0 → v ≤ 99) → (0 ≤ (ps_l T n m v p).1 ∧ (ps_l T n m v p).1 ≤ 99) ∧ p ≤ (ps_l T n m v p).2 ∧ (ps_l T n m v p).2 ≤ n
  | 0, v, p, _, hp, h0, _, _, h => by simp only [ps_l]; exact ⟨⟨h0, h rfl⟩, Nat.le_refl p, hp⟩
  | m + 1, v, p, hm, hp, h0, h2, h1, _ => by
    simp only [ps_l]
    by_cases c : ps_d (ps_s T n p)
    · rw [if_pos c]
      have hlt : p < n := by
        by_cases y : p < n
        · exact y
        · exfalso; unfold ps_s at c; rw [if_neg y] at c; omega
      have ih := ps_l_b (T := T) (n := n) m (10 * v + ps_s T n p - 48) (p + 1) (by omega) (by omega) (by have := c.1; omega) (by omega) (fun e => by have := h2 (by omega); have := c.2; omega) (fun e => by have := h1 (by omega); have := c.2; omega)
      exact ⟨ih.1, by omega, ih.2.2⟩
    · rw [if_neg c]
      refine ⟨⟨h0, ?_⟩, Nat.le_refl p, hp⟩
      rcases Nat.lt_or_ge m 1 with y | y
      · have := h1 (by omega); omega
      · have := h2 (by omega); omega
/-- the numbers, when one digit is there -/
theorem ps_l_1 {T : Nat → Int} {n p : Nat} (h : ps_d (ps_s T n p)) : (0 ≤ (ps_l T n 1 0 p).1 ∧ (ps_l T n 1 0 p).1 ≤ 9) ∧ (ps_l T n 1 0 p).2 = p + 1 := by
  simp only [ps_l]; rw [if_pos h]; have := h.1; have := h.2; omega
theorem ps_s_lt {T : Nat → Int} {n p : Nat} (h : 0 ≤ ps_s T n p) : p < n := by
  by_cases y : p < n
  · exact y
  · unfold ps_s at h; rw [if_neg y] at h; omega
noncomputable section
/-- what a statement does to what is told -/
def ps_ap (c : Int) (vs : List Int) (s : Nat → Int) : Option (Nat → Int) :=
  if c = 115 then (if vs.getD 0 0 < 1 ∨ 60 < vs.getD 0 0 ∨ vs.getD 1 0 < 1 ∨ s 0 = 5 then none else some (s_sort s (vs.getD 0 0) (vs.getD 1 0)))
  else if c = 108 then (if 31 < vs.getD 0 0 ∨ s 1 = 6 then none else some (s_lane s (vs.getD 0 0)))
  else if c = 97 then (if 3 < vs.getD 0 0 ∨ s 0 ≤ vs.getD 1 0 ∨ 25 < vs.getD 2 0 then none else some (m_u s (12 + 6 * (vs.getD 1 0).toNat + (vs.getD 0 0).toNat) (vs.getD 2 0)))
  else (if vs.getD 0 0 < 1 ∨ 3 < vs.getD 0 0 ∨ s 1 ≤ vs.getD 1 0 ∨ 31 < vs.getD 2 0 then none else some (m_u s (40 + 4 * (vs.getD 1 0).toNat + (vs.getD 0 0).toNat) (vs.getD 2 0)))
/-- all of a tape's statements are well formed: how many; else where it goes wrong -/
def ps_w (T : Nat → Int) (n : Nat) : Nat → Nat → Nat → Bool × Nat
  | 0, p, _ => (false, p)
  | f + 1, p, k => if (ps_st T n p).1 = true then (if n ≤ (ps_st T n p).2.1 then (true, k + 1) else ps_w T n f (ps_st T n p).2.1 (k + 1)) else (false, (ps_st T n p).2.1)
def ps_r (T : Nat → Int) (n : Nat) : Nat → Nat → (Nat → Int) → (Nat → Int) ⊕ Nat
  | 0, _, s => .inl s
  | f + 1, p, s => if p < n then (match ps_ap (ps_s T n p) (ps_st T n p).2.2 s with
    | none => .inr p
    | some s' => ps_r T n f (ps_st T n p).2.1 s') else .inl s
def x_house (A : m_G) : Int × m_G :=
  if (ps_w (A 72) (A 66 8).toNat 64 0 0).1 = true then (match ps_r (A 72) (A 66 8).toNat 64 0 (A 68) with
    | .inr p => (-2000 - (p : Int), m_up A 66 8 0)
    | .inl s => (((ps_w (A 72) (A 66 8).toNat 64 0 0).2 : Int), m_up (m_ce A 68 s) 66 8 0))
  else (-1000 - ((ps_w (A 72) (A 66 8).toNat 64 0 0).2 : Int), m_up A 66 8 0)
end
theorem ps_f_p {T : Nat → Int} {n : Nat} : ∀ (xs vs : List Int) (p : Nat), (∀ x ∈ xs, 0 ≤ x) → p ≤ n → p ≤ (ps_f T n xs vs p).2.1 ∧ (ps_f T n xs vs p).2.1 ≤ n
  | [], vs, p, _, hp => ⟨Nat.le_refl p, hp⟩
  | x :: xs, vs, p, hx, hp => by
    have hx0 := hx x List.mem_cons_self
    have hxs : ∀ y ∈ xs, 0 ≤ y := fun y hy => hx y (List.mem_cons_of_mem _ hy)
    simp only [ps_f]
    split
    · split
      · have h1 := ps_l_b (T := T) (n := n) 1 0 p (by decide) hp (by decide) (by decide) (by decide) (by decide)
        have ih := ps_f_p (T := T) (n := n) xs (vs ++ [(ps_l T n 1 0 p).1]) (ps_l T n 1 0 p).2 hxs h1.2.2
        exact ⟨by omega, ih.2⟩
      · exact ⟨Nat.le_refl p, hp⟩
    · split
      · split
        · have h1 := ps_l_b (T := T) (n := n) 2 0 p (by decide) hp (by decide) (by decide) (by decide) (by decide)
          have ih := ps_f_p (T := T) (n := n) xs (vs ++ [(ps_l T n 2 0 p).1]) (ps_l T n 2 0 p).2 hxs h1.2.2
          exact ⟨by omega, ih.2⟩
        · exact ⟨Nat.le_refl p, hp⟩
      · split
        · rename_i c
          have hlt := ps_s_lt (T := T) (n := n) (p := p) (by omega)
          have ih := ps_f_p (T := T) (n := n) xs vs (p + 1) hxs (by omega)
          exact ⟨by omega, ih.2⟩
        · exact ⟨Nat.le_refl p, hp⟩
theorem ps_form_0 (c : Int) : ∀ x ∈ ps_form c, 0 ≤ x := by
  unfold ps_form
  intro x hx
  split at hx
  · simp at hx; omega
  · split at hx
    · simp at hx; omega
    · split at hx
      · simp at hx; omega
      · cases hx
theorem ps_form_ne {T : Nat → Int} {n p : Nat} (h : ps_form (ps_s T n p) ≠ []) : p < n := by
  refine ps_s_lt (T := T) ?_
  unfold ps_form at h
  split at h
  · omega
  · split at h
    · omega
    · split at h
      · omega
      · exact absurd rfl h
/-- a statement goes on, and no farther than the tape -/
theorem ps_st_p {T : Nat → Int} {n p : Nat} (hp : p ≤ n) : p ≤ (ps_st T n p).2.1 ∧ (ps_st T n p).2.1 ≤ n ∧ ((ps_st T n p).1 = true → p < (ps_st T n p).2.1) := by
  unfold ps_st
  split
  · exact ⟨Nat.le_refl p, hp, fun z => by cases z⟩
  · rename_i c
    have hlt := ps_form_ne c
    have h := ps_f_p (T := T) (n := n) (ps_form (ps_s T n p)) [] (p + 1) (ps_form_0 _) (by omega)
    exact ⟨by omega, h.2, fun _ => by omega⟩
theorem ps_f_v {T : Nat → Int} {n : Nat} : ∀ (xs vs : List Int) (p : Nat), (∀ x ∈ xs, 0 ≤ x) → p ≤ n → (∀ v ∈ vs, 0 ≤ v ∧ v ≤ 99) → ∀ v ∈ (ps_f T n xs vs p).2.2, 0 ≤ v ∧ v ≤ 99
  | [], vs, p, _, _, hv => hv
  | x :: xs, vs, p, hx, hp, hv => by
    have hx0 := hx x List.mem_cons_self
    have hxs : ∀ y ∈ xs, 0 ≤ y := fun y hy => hx y (List.mem_cons_of_mem _ hy)
    simp only [ps_f]
    split
    · split
      · have h1 := ps_l_b (T := T) (n := n) 1 0 p (by decide) hp (by decide) (by decide) (by decide) (by decide)
        exact ps_f_v xs _ _ hxs h1.2.2 (fun v hm => (List.mem_append.mp hm).elim (hv v) (fun y => by rw [List.mem_singleton.mp y]; exact h1.1))
      · exact hv
    · split
      · split
        · have h1 := ps_l_b (T := T) (n := n) 2 0 p (by decide) hp (by decide) (by decide) (by decide) (by decide)
          exact ps_f_v xs _ _ hxs h1.2.2 (fun v hm => (List.mem_append.mp hm).elim (hv v) (fun y => by rw [List.mem_singleton.mp y]; exact h1.1))
        · exact hv
      · split
        · rename_i c
          have hlt := ps_s_lt (T := T) (n := n) (p := p) (by omega)
          exact ps_f_v xs _ _ hxs (by omega) hv
        · exact hv
theorem ps_st_v {T : Nat → Int} {n p : Nat} (hp : p ≤ n) (i : Nat) : 0 ≤ (ps_st T n p).2.2.getD i 0 ∧ (ps_st T n p).2.2.getD i 0 ≤ 99 := by
  have h : ∀ v ∈ (ps_st T n p).2.2, 0 ≤ v ∧ v ≤ 99 := by
    unfold ps_st
    split
    · intro v hv; cases hv
    · rename_i c
      have hlt := ps_form_ne c
      exact ps_f_v _ _ _ (ps_form_0 _) (by omega) (fun v hv => by cases hv)
  rw [List.getD_eq_getElem?_getD]
  cases hi : (ps_st T n p).2.2[i]? with
  | none => simp
  | some v => exact h v (List.mem_of_getElem? hi)
/-! the reference reads -/
theorem p9_sign {g : m_G} {T : Nat → Int} {n p : Nat} {q : m_Post} (hT : g 72 = T) (hn : g 66 8 = (n : Int)) (hn64 : n ≤ 64) (hp : g 66 9 = (p : Int)) (h : q (some (.inl (ps_s T n p))) g) : wX9_sign.1 [.inr (.inr 66)] g q := by
  refine m_wp_of (by simp [m_fit]) (fun J hJ => ?_)
  simp only [m_ini, Nat.reduceSub, List.replicate]
  refine m_run_ok hJ (fun _ => false) 40 _ _ _ _ ?_
  simp only [e_go, rX9_sign_0, rX9_sign_1, rX9_sign_4, rX9_sign_5, rX9_sign_8, rX9_sign_11, rX9_sign_12, rX9_sign_15, rX9_sign_16, rX9_sign_19, rX9_sign_20, rX9_sign_23, rX9_sign_24, e_ald0, e_get, e_goto, e_iald, e_icmp, e_push, e_ret, m_b0, m_b01, m_b1, m_em, Classical.not_not, Nat.reduceBEq, Nat.reduceLT, Nat.reduceLeDiff, Nat.reduceAdd, cond_true, cond_false, Bool.or_false, Bool.false_or, Bool.or_true, Bool.true_or, beq_iff_eq, true_and, and_true, true_or, or_true, forall_const, not_true_eq_false, not_false_eq_true, false_implies, implies_true, Nat.reduceEqDiff, List.length_nil, List.length_cons, ob_66, fv_66_0, fv_66_1, fv_66_2, fv_66_3, fv_66_4, fv_66_5, fs_66_5, fv_66_6, fv_66_7, fv_66_8, fs_66_8, fv_66_9, fs_66_9, fv_66_10, fv_66_11, fv_66_12, fv_66_13, fv_66_14, fv_66_15, fv_66_16, fv_66_17, fv_66_18, fv_66_19, fv_66_20, fv_66_21, fv_66_22, fv_66_23, fs_66_23, fv_66_24, fs_66_24, fv_66_25, fs_66_25, fv_66_26, fs_66_26, fv_66_27, fs_66_27, fv_66_28, fs_66_28, fv_66_29, fv_66_30, fv_66_31, fs_66_31, fv_66_32, fv_66_33, fv_66_34, fs_66_34, kd_72, ln_72]
  rw [hT, hn, hp]
  unfold ps_s at h
  refine ⟨fun c => ?_, fun c => ?_⟩
  · rw [if_pos (by omega)] at h
    rw [Int.toNat_natCast]
    exact ⟨by omega, h⟩
  · rw [if_neg (by omega)] at h; exact h
theorem p9_isDigit {g : m_G} {T : Nat → Int} {n p : Nat} {q : m_Post} (hT : g 72 = T) (hn : g 66 8 = (n : Int)) (hn64 : n ≤ 64) (hp : g 66 9 = (p : Int)) (h : q (some (.inl (if ps_d (ps_s T n p) then 1 else 0))) g) : wX9_isDigit.1 [.inr (.inr 66)] g q := by
  refine m_wp_of (by simp [m_fit]) (fun J hJ => ?_)
  simp only [m_ini, Nat.reduceSub, List.replicate]
  refine m_run_ok hJ (fun _ => false) 40 _ _ _ _ ?_
  simp only [e_go, rX9_isDigit_0, rX9_isDigit_1, rX9_isDigit_4, rX9_isDigit_6, rX9_isDigit_9, rX9_isDigit_10, rX9_isDigit_13, rX9_isDigit_15, rX9_isDigit_18, rX9_isDigit_19, rX9_isDigit_22, rX9_isDigit_23, e_ald0, e_callV1, e_goto, e_icmp, e_push, e_pushn, e_pushs, e_retz, m_b0, m_b01, m_b1, m_em, Classical.not_not, Nat.reduceBEq, Nat.reduceLT, Nat.reduceLeDiff, Nat.reduceAdd, cond_true, cond_false, Bool.or_false, Bool.false_or, Bool.or_true, Bool.true_or, beq_iff_eq, true_and, and_true, true_or, or_true, forall_const, not_true_eq_false, not_false_eq_true, false_implies, implies_true, Nat.reduceEqDiff, List.length_nil, List.length_cons, ob_66, fv_66_0, fv_66_1, fv_66_2, fv_66_3, fv_66_4, fv_66_5, fs_66_5, fv_66_6, fv_66_7, fv_66_8, fs_66_8, fv_66_9, fs_66_9, fv_66_10, fv_66_11, fv_66_12, fv_66_13, fv_66_14, fv_66_15, fv_66_16, fv_66_17, fv_66_18, fv_66_19, fv_66_20, fv_66_21, fv_66_22, fv_66_23, fs_66_23, fv_66_24, fs_66_24, fv_66_25, fs_66_25, fv_66_26, fs_66_26, fv_66_27, fs_66_27, fv_66_28, fs_66_28, fv_66_29, fv_66_30, fv_66_31, fs_66_31, fv_66_32, fv_66_33, fv_66_34, fs_66_34]
  refine p9_sign hT hn hn64 hp ?_
  simp only [e_go, rX9_isDigit_0, rX9_isDigit_1, rX9_isDigit_4, rX9_isDigit_6, rX9_isDigit_9, rX9_isDigit_10, rX9_isDigit_13, rX9_isDigit_15, rX9_isDigit_18, rX9_isDigit_19, rX9_isDigit_22, rX9_isDigit_23, e_ald0, e_callV1, e_goto, e_icmp, e_push, e_pushn, e_pushs, e_retz, m_b0, m_b01, m_b1, m_em, Classical.not_not, Nat.reduceBEq, Nat.reduceLT, Nat.reduceLeDiff, Nat.reduceAdd, cond_true, cond_false, Bool.or_false, Bool.false_or, Bool.or_true, Bool.true_or, beq_iff_eq, true_and, and_true, true_or, or_true, forall_const, not_true_eq_false, not_false_eq_true, false_implies, implies_true, Nat.reduceEqDiff, List.length_nil, List.length_cons, ob_66, fv_66_0, fv_66_1, fv_66_2, fv_66_3, fv_66_4, fv_66_5, fs_66_5, fv_66_6, fv_66_7, fv_66_8, fs_66_8, fv_66_9, fs_66_9, fv_66_10, fv_66_11, fv_66_12, fv_66_13, fv_66_14, fv_66_15, fv_66_16, fv_66_17, fv_66_18, fv_66_19, fv_66_20, fv_66_21, fv_66_22, fv_66_23, fs_66_23, fv_66_24, fs_66_24, fv_66_25, fs_66_25, fv_66_26, fs_66_26, fv_66_27, fs_66_27, fv_66_28, fs_66_28, fv_66_29, fv_66_30, fv_66_31, fs_66_31, fv_66_32, fv_66_33, fv_66_34, fs_66_34]
  refine ⟨fun c => ?_, fun c => ?_⟩
  · rw [if_neg (fun z => by have := z.1; omega)] at h; exact h
  · refine p9_sign hT hn hn64 hp ?_
    simp only [e_go, rX9_isDigit_0, rX9_isDigit_1, rX9_isDigit_4, rX9_isDigit_6, rX9_isDigit_9, rX9_isDigit_10, rX9_isDigit_13, rX9_isDigit_15, rX9_isDigit_18, rX9_isDigit_19, rX9_isDigit_22, rX9_isDigit_23, e_ald0, e_callV1, e_goto, e_icmp, e_push, e_pushn, e_pushs, e_retz, m_b0, m_b01, m_b1, m_em, Classical.not_not, Nat.reduceBEq, Nat.reduceLT, Nat.reduceLeDiff, Nat.reduceAdd, cond_true, cond_false, Bool.or_false, Bool.false_or, Bool.or_true, Bool.true_or, beq_iff_eq, true_and, and_true, true_or, or_true, forall_const, not_true_eq_false, not_false_eq_true, false_implies, implies_true, Nat.reduceEqDiff, List.length_nil, List.length_cons, ob_66, fv_66_0, fv_66_1, fv_66_2, fv_66_3, fv_66_4, fv_66_5, fs_66_5, fv_66_6, fv_66_7, fv_66_8, fs_66_8, fv_66_9, fs_66_9, fv_66_10, fv_66_11, fv_66_12, fv_66_13, fv_66_14, fv_66_15, fv_66_16, fv_66_17, fv_66_18, fv_66_19, fv_66_20, fv_66_21, fv_66_22, fv_66_23, fs_66_23, fv_66_24, fs_66_24, fv_66_25, fs_66_25, fv_66_26, fs_66_26, fv_66_27, fs_66_27, fv_66_28, fs_66_28, fv_66_29, fv_66_30, fv_66_31, fs_66_31, fv_66_32, fv_66_33, fv_66_34, fs_66_34]
    refine ⟨fun c2 => ?_, fun c2 => ?_⟩
    · rw [if_neg (fun z => by have := z.2; omega)] at h; exact h
    · rw [if_pos ⟨by omega, by omega⟩] at h; exact h
/-- the place moves, numbers are told -/
def pr_F (g g' : m_G) : Prop := (∀ j, j ≠ 66 → j ≠ 73 → g' j = g j) ∧ ∀ k, k ≠ 9 → g' 66 k = g 66 k
theorem pr_F.rfl' {g : m_G} : pr_F g g := ⟨fun _ _ _ => rfl, fun _ _ => rfl⟩
theorem pr_F.trans {a b c : m_G} (h : pr_F a b) (h2 : pr_F b c) : pr_F a c := ⟨fun j h3 h4 => (h2.1 j h3 h4).trans (h.1 j h3 h4), fun k hk => (h2.2 k hk).trans (h.2 k hk)⟩
theorem p9_takes {g : m_G} {T : Nat → Int} {n p : Nat} {c : Int} {q : m_Post} (hT : g 72 = T) (hn : g 66 8 = (n : Int)) (hn64 : n ≤ 64) (hp : g 66 9 = (p : Int)) (hp64 : p ≤ 64) (h0 : ¬ ps_s T n p = c → q (some (.inl 0)) g) (h1 : ps_s T n p = c → q (some (.inl 1)) (m_up g 66 9 ((p + 1 : Nat) : Int))) : wX9_takes.1 [.inr (.inr 66), .inl c] g q := by
  refine m_wp_of (by simp [m_fit]) (fun J hJ => ?_)
  simp only [m_ini, Nat.reduceSub, List.replicate]
  refine m_run_ok hJ (fun _ => false) 40 _ _ _ _ ?_
  simp only [e_go, rX9_takes_0, rX9_takes_1, rX9_takes_4, rX9_takes_5, rX9_takes_8, rX9_takes_9, rX9_takes_10, rX9_takes_11, rX9_takes_12, rX9_takes_15, rX9_takes_16, rX9_takes_17, rX9_takes_20, rX9_takes_21, e_ald0, e_bin, e_callV1, e_dupi, e_dupr, e_get, e_icmp, e_ild1, e_push, e_pushn, e_pushs, e_put, e_retz, m_b0, m_b01, m_b1, m_em, Classical.not_not, Nat.reduceBEq, Nat.reduceLT, Nat.reduceLeDiff, Nat.reduceAdd, cond_true, cond_false, Bool.or_false, Bool.false_or, Bool.or_true, Bool.true_or, beq_iff_eq, true_and, and_true, true_or, or_true, forall_const, not_true_eq_false, not_false_eq_true, false_implies, implies_true, Nat.reduceEqDiff, List.length_nil, List.length_cons, ob_66, fv_66_0, fv_66_1, fv_66_2, fv_66_3, fv_66_4, fv_66_5, fs_66_5, fv_66_6, fv_66_7, fv_66_8, fs_66_8, fv_66_9, fs_66_9, fv_66_10, fv_66_11, fv_66_12, fv_66_13, fv_66_14, fv_66_15, fv_66_16, fv_66_17, fv_66_18, fv_66_19, fv_66_20, fv_66_21, fv_66_22, fv_66_23, fs_66_23, fv_66_24, fs_66_24, fv_66_25, fs_66_25, fv_66_26, fs_66_26, fv_66_27, fs_66_27, fv_66_28, fs_66_28, fv_66_29, fv_66_30, fv_66_31, fs_66_31, fv_66_32, fv_66_33, fv_66_34, fs_66_34]
  refine p9_sign hT hn hn64 hp ?_
  simp only [e_go, rX9_takes_0, rX9_takes_1, rX9_takes_4, rX9_takes_5, rX9_takes_8, rX9_takes_9, rX9_takes_10, rX9_takes_11, rX9_takes_12, rX9_takes_15, rX9_takes_16, rX9_takes_17, rX9_takes_20, rX9_takes_21, e_ald0, e_bin, e_callV1, e_dupi, e_dupr, e_get, e_icmp, e_ild1, e_push, e_pushn, e_pushs, e_put, e_retz, m_b0, m_b01, m_b1, m_em, Classical.not_not, Nat.reduceBEq, Nat.reduceLT, Nat.reduceLeDiff, Nat.reduceAdd, cond_true, cond_false, Bool.or_false, Bool.false_or, Bool.or_true, Bool.true_or, beq_iff_eq, true_and, and_true, true_or, or_true, forall_const, not_true_eq_false, not_false_eq_true, false_implies, implies_true, Nat.reduceEqDiff, List.length_nil, List.length_cons, ob_66, fv_66_0, fv_66_1, fv_66_2, fv_66_3, fv_66_4, fv_66_5, fs_66_5, fv_66_6, fv_66_7, fv_66_8, fs_66_8, fv_66_9, fs_66_9, fv_66_10, fv_66_11, fv_66_12, fv_66_13, fv_66_14, fv_66_15, fv_66_16, fv_66_17, fv_66_18, fv_66_19, fv_66_20, fv_66_21, fv_66_22, fv_66_23, fs_66_23, fv_66_24, fs_66_24, fv_66_25, fs_66_25, fv_66_26, fs_66_26, fv_66_27, fs_66_27, fv_66_28, fs_66_28, fv_66_29, fv_66_30, fv_66_31, fs_66_31, fv_66_32, fv_66_33, fv_66_34, fs_66_34]
  rw [hp, m_w2 (x := (p : Int) + 1) (by omega) (by omega), show (p : Int) + 1 = ((p + 1 : Nat) : Int) by omega]
  exact ⟨h1, h0⟩
theorem p9_readsNumber {g : m_G} {T : Nat → Int} {n p k m : Nat} {q : m_Post} (hT : g 72 = T) (hn : g 66 8 = (n : Int)) (hn64 : n ≤ 64) (hp : g 66 9 = (p : Int)) (hpn : p ≤ n) (hk : k < 3) (hm : m = 1 ∨ m = 2) (h0 : ¬ ps_d (ps_s T n p) → q (some (.inl 0)) g)
    (h1 : ∀ g', ps_d (ps_s T n p) → pr_F g g' → g' 66 9 = ((ps_l T n m 0 p).2 : Int) → g' 73 k = (ps_l T n m 0 p).1 → (∀ i, i ≠ k → g' 73 i = g 73 i) → q (some (.inl 1)) g') : wX9_readsNumber.1 [.inr (.inr 66), .inl k, .inl m] g q := by
  refine m_wp_of (by simp [m_fit]) (fun J hJ => ?_)
  simp only [m_ini, Nat.reduceSub, List.replicate]
  have loop : ∀ (r i : Nat) (v : Int) (x : Nat) (g1 : m_G), i + r = m → x ≤ n → 0 ≤ v → (r = 2 → v = 0) → (r = 1 → v ≤ 9) → (r = 0 → v ≤ 99) → ps_d (ps_s T n p) → pr_F g g1 → g1 66 9 = (x : Int) → g1 73 k = v → (∀ i, i ≠ k → g1 73 i = g 73 i) → ps_l T n r v x = ps_l T n m 0 p → J 18 [some (.inr (.inr 66)), some (.inl k), some (.inl m), some (.inl i)] [] g1 := by
    intro r
    induction r with
    | zero =>
      intro i v x g1 hi hx hv a2 a1 a0 hd hF h9 h73 ho he
      simp only [ps_l] at he
      refine m_run_ok hJ (fun pc => pc == 18) 60 _ _ _ _ ?_
      simp only [e_go, rX9_readsNumber_0, rX9_readsNumber_1, rX9_readsNumber_4, rX9_readsNumber_7, rX9_readsNumber_8, rX9_readsNumber_9, rX9_readsNumber_10, rX9_readsNumber_13, rX9_readsNumber_14, rX9_readsNumber_15, rX9_readsNumber_16, rX9_readsNumber_17, rX9_readsNumber_18, rX9_readsNumber_19, rX9_readsNumber_20, rX9_readsNumber_23, rX9_readsNumber_24, rX9_readsNumber_27, rX9_readsNumber_30, rX9_readsNumber_31, rX9_readsNumber_34, rX9_readsNumber_35, rX9_readsNumber_37, rX9_readsNumber_38, rX9_readsNumber_41, rX9_readsNumber_42, rX9_readsNumber_43, rX9_readsNumber_44, rX9_readsNumber_45, rX9_readsNumber_48, rX9_readsNumber_49, rX9_readsNumber_51, rX9_readsNumber_52, rX9_readsNumber_53, rX9_readsNumber_54, rX9_readsNumber_55, rX9_readsNumber_58, rX9_readsNumber_59, rX9_readsNumber_60, rX9_readsNumber_63, rX9_readsNumber_66, rX9_readsNumber_69, rX9_readsNumber_70, e_ald0, e_bin, e_callV1, e_dupi, e_dupr, e_get, e_goto, e_iald, e_iast, e_icmp, e_if, e_ild1, e_ild2, e_ild3, e_inc3, e_ist3, e_nl0, e_nl1, e_nl2, e_push, e_pushn, e_pushs, e_put, e_retz, m_b0, m_b01, m_b1, m_em, Classical.not_not, Nat.reduceBEq, Nat.reduceLT, Nat.reduceLeDiff, Nat.reduceAdd, cond_true, cond_false, Bool.or_false, Bool.false_or, Bool.or_true, Bool.true_or, beq_iff_eq, true_and, and_true, true_or, or_true, forall_const, not_true_eq_false, not_false_eq_true, false_implies, implies_true, Nat.reduceEqDiff, List.length_nil, List.length_cons, ob_66, fv_66_0, fv_66_1, fv_66_2, fv_66_3, fv_66_4, fv_66_5, fs_66_5, fv_66_6, fv_66_7, fv_66_8, fs_66_8, fv_66_9, fs_66_9, fv_66_10, fv_66_11, fv_66_12, fv_66_13, fv_66_14, fv_66_15, fv_66_16, fv_66_17, fv_66_18, fv_66_19, fv_66_20, fv_66_21, fv_66_22, fv_66_23, fs_66_23, fv_66_24, fs_66_24, fv_66_25, fs_66_25, fv_66_26, fs_66_26, fv_66_27, fs_66_27, fv_66_28, fs_66_28, fv_66_29, fv_66_30, fv_66_31, fs_66_31, fv_66_32, fv_66_33, fv_66_34, fs_66_34, kd_73, ln_73, Int.toNat_natCast]
      refine ⟨fun _ => ?_, fun z => absurd z (by omega)⟩
      exact h1 g1 hd hF (by rw [h9, ← he]) (by rw [h73, ← he]) ho
    | succ r ih =>
      intro i v x g1 hi hx hv a2 a1 a0 hd hF h9 h73 ho he
      have hT1 : g1 72 = T := (hF.1 72 (by decide) (by decide)).trans hT
      have hn1 : g1 66 8 = (n : Int) := (hF.2 8 (by decide)).trans hn
      simp only [ps_l] at he
      refine m_run_ok hJ (fun pc => pc == 18) 60 _ _ _ _ ?_
      simp only [e_go, rX9_readsNumber_0, rX9_readsNumber_1, rX9_readsNumber_4, rX9_readsNumber_7, rX9_readsNumber_8, rX9_readsNumber_9, rX9_readsNumber_10, rX9_readsNumber_13, rX9_readsNumber_14, rX9_readsNumber_15, rX9_readsNumber_16, rX9_readsNumber_17, rX9_readsNumber_18, rX9_readsNumber_19, rX9_readsNumber_20, rX9_readsNumber_23, rX9_readsNumber_24, rX9_readsNumber_27, rX9_readsNumber_30, rX9_readsNumber_31, rX9_readsNumber_34, rX9_readsNumber_35, rX9_readsNumber_37, rX9_readsNumber_38, rX9_readsNumber_41, rX9_readsNumber_42, rX9_readsNumber_43, rX9_readsNumber_44, rX9_readsNumber_45, rX9_readsNumber_48, rX9_readsNumber_49, rX9_readsNumber_51, rX9_readsNumber_52, rX9_readsNumber_53, rX9_readsNumber_54, rX9_readsNumber_55, rX9_readsNumber_58, rX9_readsNumber_59, rX9_readsNumber_60, rX9_readsNumber_63, rX9_readsNumber_66, rX9_readsNumber_69, rX9_readsNumber_70, e_ald0, e_bin, e_callV1, e_dupi, e_dupr, e_get, e_goto, e_iald, e_iast, e_icmp, e_if, e_ild1, e_ild2, e_ild3, e_inc3, e_ist3, e_nl0, e_nl1, e_nl2, e_push, e_pushn, e_pushs, e_put, e_retz, m_b0, m_b01, m_b1, m_em, Classical.not_not, Nat.reduceBEq, Nat.reduceLT, Nat.reduceLeDiff, Nat.reduceAdd, cond_true, cond_false, Bool.or_false, Bool.false_or, Bool.or_true, Bool.true_or, beq_iff_eq, true_and, and_true, true_or, or_true, forall_const, not_true_eq_false, not_false_eq_true, false_implies, implies_true, Nat.reduceEqDiff, List.length_nil, List.length_cons, ob_66, fv_66_0, fv_66_1, fv_66_2, fv_66_3, fv_66_4, fv_66_5, fs_66_5, fv_66_6, fv_66_7, fv_66_8, fs_66_8, fv_66_9, fs_66_9, fv_66_10, fv_66_11, fv_66_12, fv_66_13, fv_66_14, fv_66_15, fv_66_16, fv_66_17, fv_66_18, fv_66_19, fv_66_20, fv_66_21, fv_66_22, fv_66_23, fs_66_23, fv_66_24, fs_66_24, fv_66_25, fs_66_25, fv_66_26, fs_66_26, fv_66_27, fs_66_27, fv_66_28, fs_66_28, fv_66_29, fv_66_30, fv_66_31, fs_66_31, fv_66_32, fv_66_33, fv_66_34, fs_66_34, kd_73, ln_73, Int.toNat_natCast]
      refine ⟨fun z => absurd z (by omega), fun _ => ?_⟩
      refine p9_isDigit hT1 hn1 hn64 h9 ?_
      simp only [e_go, rX9_readsNumber_0, rX9_readsNumber_1, rX9_readsNumber_4, rX9_readsNumber_7, rX9_readsNumber_8, rX9_readsNumber_9, rX9_readsNumber_10, rX9_readsNumber_13, rX9_readsNumber_14, rX9_readsNumber_15, rX9_readsNumber_16, rX9_readsNumber_17, rX9_readsNumber_18, rX9_readsNumber_19, rX9_readsNumber_20, rX9_readsNumber_23, rX9_readsNumber_24, rX9_readsNumber_27, rX9_readsNumber_30, rX9_readsNumber_31, rX9_readsNumber_34, rX9_readsNumber_35, rX9_readsNumber_37, rX9_readsNumber_38, rX9_readsNumber_41, rX9_readsNumber_42, rX9_readsNumber_43, rX9_readsNumber_44, rX9_readsNumber_45, rX9_readsNumber_48, rX9_readsNumber_49, rX9_readsNumber_51, rX9_readsNumber_52, rX9_readsNumber_53, rX9_readsNumber_54, rX9_readsNumber_55, rX9_readsNumber_58, rX9_readsNumber_59, rX9_readsNumber_60, rX9_readsNumber_63, rX9_readsNumber_66, rX9_readsNumber_69, rX9_readsNumber_70, e_ald0, e_bin, e_callV1, e_dupi, e_dupr, e_get, e_goto, e_iald, e_iast, e_icmp, e_if, e_ild1, e_ild2, e_ild3, e_inc3, e_ist3, e_nl0, e_nl1, e_nl2, e_push, e_pushn, e_pushs, e_put, e_retz, m_b0, m_b01, m_b1, m_em, Classical.not_not, Nat.reduceBEq, Nat.reduceLT, Nat.reduceLeDiff, Nat.reduceAdd, cond_true, cond_false, Bool.or_false, Bool.false_or, Bool.or_true, Bool.true_or, beq_iff_eq, true_and, and_true, true_or, or_true, forall_const, not_true_eq_false, not_false_eq_true, false_implies, implies_true, Nat.reduceEqDiff, List.length_nil, List.length_cons, ob_66, fv_66_0, fv_66_1, fv_66_2, fv_66_3, fv_66_4, fv_66_5, fs_66_5, fv_66_6, fv_66_7, fv_66_8, fs_66_8, fv_66_9, fs_66_9, fv_66_10, fv_66_11, fv_66_12, fv_66_13, fv_66_14, fv_66_15, fv_66_16, fv_66_17, fv_66_18, fv_66_19, fv_66_20, fv_66_21, fv_66_22, fv_66_23, fs_66_23, fv_66_24, fs_66_24, fv_66_25, fs_66_25, fv_66_26, fs_66_26, fv_66_27, fs_66_27, fv_66_28, fs_66_28, fv_66_29, fv_66_30, fv_66_31, fs_66_31, fv_66_32, fv_66_33, fv_66_34, fs_66_34, kd_73, ln_73, Int.toNat_natCast]
      refine ⟨fun c => ?_, fun c => ⟨by omega, ?_⟩⟩
      · rw [if_neg c] at he
        exact h1 g1 hd hF (by rw [h9, ← he]) (by rw [h73, ← he]) ho
      · rw [if_pos c] at he
        have hlt := ps_s_lt (T := T) (n := n) (p := x) (by have := c.1; omega)
        refine p9_sign hT1 hn1 hn64 h9 ?_
        simp only [e_go, rX9_readsNumber_0, rX9_readsNumber_1, rX9_readsNumber_4, rX9_readsNumber_7, rX9_readsNumber_8, rX9_readsNumber_9, rX9_readsNumber_10, rX9_readsNumber_13, rX9_readsNumber_14, rX9_readsNumber_15, rX9_readsNumber_16, rX9_readsNumber_17, rX9_readsNumber_18, rX9_readsNumber_19, rX9_readsNumber_20, rX9_readsNumber_23, rX9_readsNumber_24, rX9_readsNumber_27, rX9_readsNumber_30, rX9_readsNumber_31, rX9_readsNumber_34, rX9_readsNumber_35, rX9_readsNumber_37, rX9_readsNumber_38, rX9_readsNumber_41, rX9_readsNumber_42, rX9_readsNumber_43, rX9_readsNumber_44, rX9_readsNumber_45, rX9_readsNumber_48, rX9_readsNumber_49, rX9_readsNumber_51, rX9_readsNumber_52, rX9_readsNumber_53, rX9_readsNumber_54, rX9_readsNumber_55, rX9_readsNumber_58, rX9_readsNumber_59, rX9_readsNumber_60, rX9_readsNumber_63, rX9_readsNumber_66, rX9_readsNumber_69, rX9_readsNumber_70, e_ald0, e_bin, e_callV1, e_dupi, e_dupr, e_get, e_goto, e_iald, e_iast, e_icmp, e_if, e_ild1, e_ild2, e_ild3, e_inc3, e_ist3, e_nl0, e_nl1, e_nl2, e_push, e_pushn, e_pushs, e_put, e_retz, m_b0, m_b01, m_b1, m_em, Classical.not_not, Nat.reduceBEq, Nat.reduceLT, Nat.reduceLeDiff, Nat.reduceAdd, cond_true, cond_false, Bool.or_false, Bool.false_or, Bool.or_true, Bool.true_or, beq_iff_eq, true_and, and_true, true_or, or_true, forall_const, not_true_eq_false, not_false_eq_true, false_implies, implies_true, Nat.reduceEqDiff, List.length_nil, List.length_cons, ob_66, fv_66_0, fv_66_1, fv_66_2, fv_66_3, fv_66_4, fv_66_5, fs_66_5, fv_66_6, fv_66_7, fv_66_8, fs_66_8, fv_66_9, fs_66_9, fv_66_10, fv_66_11, fv_66_12, fv_66_13, fv_66_14, fv_66_15, fv_66_16, fv_66_17, fv_66_18, fv_66_19, fv_66_20, fv_66_21, fv_66_22, fv_66_23, fs_66_23, fv_66_24, fs_66_24, fv_66_25, fs_66_25, fv_66_26, fs_66_26, fv_66_27, fs_66_27, fv_66_28, fs_66_28, fv_66_29, fv_66_30, fv_66_31, fs_66_31, fv_66_32, fv_66_33, fv_66_34, fs_66_34, kd_73, ln_73, Int.toNat_natCast]
        have hvb : v ≤ 9 := by
          rcases hm with e | e
          · have := a1; have := a2; omega
          · have := a1; have := a2; omega
        rw [h73]
        have c1 := c.1
        have c2 := c.2
        rw [m_w2 (x := 10 * v) (by omega) (by omega), m_w2 (x := 10 * v + ps_s T n x) (by omega) (by omega), m_w2 (x := 10 * v + ps_s T n x - 48) (by omega) (by omega), m_up_ne (by decide), h9, m_w2 (x := (x : Int) + 1) (by omega) (by omega), m_w2 (x := (i : Int) + 1) (by omega) (by omega), show (x : Int) + 1 = ((x + 1 : Nat) : Int) by omega, show (i : Int) + 1 = ((i + 1 : Nat) : Int) by omega]
        refine ⟨by omega, ih (i + 1) (10 * v + ps_s T n x - 48) (x + 1) _ (by omega) (by omega) (by omega) (by omega) (fun e => by have := a2 (by omega); omega) (fun e => by omega) hd (hF.trans ⟨fun j h1 h2 => by rw [m_up_ne h1, m_up_ne h2], fun a ha => by rw [m_up_eq, m_un ha, m_up_ne (by decide)]⟩) (by rw [m_up_eq, m_us]) (by rw [m_up_ne (by decide), m_up_eq, m_us]) (fun a ha => by rw [m_up_ne (by decide), m_up_eq, m_un ha]; exact ho a ha) he⟩
  refine m_run_ok hJ (fun pc => pc == 18) 60 _ _ _ _ ?_
  simp only [e_go, rX9_readsNumber_0, rX9_readsNumber_1, rX9_readsNumber_4, rX9_readsNumber_7, rX9_readsNumber_8, rX9_readsNumber_9, rX9_readsNumber_10, rX9_readsNumber_13, rX9_readsNumber_14, rX9_readsNumber_15, rX9_readsNumber_16, rX9_readsNumber_17, rX9_readsNumber_18, rX9_readsNumber_19, rX9_readsNumber_20, rX9_readsNumber_23, rX9_readsNumber_24, rX9_readsNumber_27, rX9_readsNumber_30, rX9_readsNumber_31, rX9_readsNumber_34, rX9_readsNumber_35, rX9_readsNumber_37, rX9_readsNumber_38, rX9_readsNumber_41, rX9_readsNumber_42, rX9_readsNumber_43, rX9_readsNumber_44, rX9_readsNumber_45, rX9_readsNumber_48, rX9_readsNumber_49, rX9_readsNumber_51, rX9_readsNumber_52, rX9_readsNumber_53, rX9_readsNumber_54, rX9_readsNumber_55, rX9_readsNumber_58, rX9_readsNumber_59, rX9_readsNumber_60, rX9_readsNumber_63, rX9_readsNumber_66, rX9_readsNumber_69, rX9_readsNumber_70, e_ald0, e_bin, e_callV1, e_dupi, e_dupr, e_get, e_goto, e_iald, e_iast, e_icmp, e_if, e_ild1, e_ild2, e_ild3, e_inc3, e_ist3, e_nl0, e_nl1, e_nl2, e_push, e_pushn, e_pushs, e_put, e_retz, m_b0, m_b01, m_b1, m_em, Classical.not_not, Nat.reduceBEq, Nat.reduceLT, Nat.reduceLeDiff, Nat.reduceAdd, cond_true, cond_false, Bool.or_false, Bool.false_or, Bool.or_true, Bool.true_or, beq_iff_eq, true_and, and_true, true_or, or_true, forall_const, not_true_eq_false, not_false_eq_true, false_implies, implies_true, Nat.reduceEqDiff, List.length_nil, List.length_cons, ob_66, fv_66_0, fv_66_1, fv_66_2, fv_66_3, fv_66_4, fv_66_5, fs_66_5, fv_66_6, fv_66_7, fv_66_8, fs_66_8, fv_66_9, fs_66_9, fv_66_10, fv_66_11, fv_66_12, fv_66_13, fv_66_14, fv_66_15, fv_66_16, fv_66_17, fv_66_18, fv_66_19, fv_66_20, fv_66_21, fv_66_22, fv_66_23, fs_66_23, fv_66_24, fs_66_24, fv_66_25, fs_66_25, fv_66_26, fs_66_26, fv_66_27, fs_66_27, fv_66_28, fs_66_28, fv_66_29, fv_66_30, fv_66_31, fs_66_31, fv_66_32, fv_66_33, fv_66_34, fs_66_34, kd_73, ln_73, Int.toNat_natCast]
  refine p9_isDigit hT hn hn64 hp ?_
  simp only [e_go, rX9_readsNumber_0, rX9_readsNumber_1, rX9_readsNumber_4, rX9_readsNumber_7, rX9_readsNumber_8, rX9_readsNumber_9, rX9_readsNumber_10, rX9_readsNumber_13, rX9_readsNumber_14, rX9_readsNumber_15, rX9_readsNumber_16, rX9_readsNumber_17, rX9_readsNumber_18, rX9_readsNumber_19, rX9_readsNumber_20, rX9_readsNumber_23, rX9_readsNumber_24, rX9_readsNumber_27, rX9_readsNumber_30, rX9_readsNumber_31, rX9_readsNumber_34, rX9_readsNumber_35, rX9_readsNumber_37, rX9_readsNumber_38, rX9_readsNumber_41, rX9_readsNumber_42, rX9_readsNumber_43, rX9_readsNumber_44, rX9_readsNumber_45, rX9_readsNumber_48, rX9_readsNumber_49, rX9_readsNumber_51, rX9_readsNumber_52, rX9_readsNumber_53, rX9_readsNumber_54, rX9_readsNumber_55, rX9_readsNumber_58, rX9_readsNumber_59, rX9_readsNumber_60, rX9_readsNumber_63, rX9_readsNumber_66, rX9_readsNumber_69, rX9_readsNumber_70, e_ald0, e_bin, e_callV1, e_dupi, e_dupr, e_get, e_goto, e_iald, e_iast, e_icmp, e_if, e_ild1, e_ild2, e_ild3, e_inc3, e_ist3, e_nl0, e_nl1, e_nl2, e_push, e_pushn, e_pushs, e_put, e_retz, m_b0, m_b01, m_b1, m_em, Classical.not_not, Nat.reduceBEq, Nat.reduceLT, Nat.reduceLeDiff, Nat.reduceAdd, cond_true, cond_false, Bool.or_false, Bool.false_or, Bool.or_true, Bool.true_or, beq_iff_eq, true_and, and_true, true_or, or_true, forall_const, not_true_eq_false, not_false_eq_true, false_implies, implies_true, Nat.reduceEqDiff, List.length_nil, List.length_cons, ob_66, fv_66_0, fv_66_1, fv_66_2, fv_66_3, fv_66_4, fv_66_5, fs_66_5, fv_66_6, fv_66_7, fv_66_8, fs_66_8, fv_66_9, fs_66_9, fv_66_10, fv_66_11, fv_66_12, fv_66_13, fv_66_14, fv_66_15, fv_66_16, fv_66_17, fv_66_18, fv_66_19, fv_66_20, fv_66_21, fv_66_22, fv_66_23, fs_66_23, fv_66_24, fs_66_24, fv_66_25, fs_66_25, fv_66_26, fs_66_26, fv_66_27, fs_66_27, fv_66_28, fs_66_28, fv_66_29, fv_66_30, fv_66_31, fs_66_31, fv_66_32, fv_66_33, fv_66_34, fs_66_34, kd_73, ln_73, Int.toNat_natCast]
  refine ⟨fun c => ⟨by omega, ?_⟩, fun c => h0 c⟩
  exact loop m 0 0 p _ (by omega) hpn (by decide) (fun _ => rfl) (fun _ => by decide) (fun _ => by decide) c ⟨fun j h1 h2 => m_up_ne h2, fun a ha => by rw [m_up_ne (by decide)]⟩ (by rw [m_up_ne (by decide)]; exact hp) (by rw [m_up_eq, m_us]) (fun a ha => by rw [m_up_eq, m_un ha]) rfl
