theorem m_shape_ok : ∀ i, i < 91 → m_kd i = 0 → (vwCl[m_cls i]?).map (fun r => r.2.2) = some (m_len i) := by decide +kernel
theorem m_ob_len {i ci N : Nat} {rf : String} {T : u_T} (h : m_ob i ci) (hc : vwCl[ci]? = some (rf, T, N)) : m_len i = N := by
  have h1 := m_shape_ok i h.1 h.2.1
  rw [h.2.2, hc] at h1
  exact (Option.some.inj h1).symm
theorem m_fv_ok {i k : Nat} {g : m_G} (h : m_InR g) : m_okV (m_fv i k g) := by
  unfold m_fv
  split
  · exact h _ _
  · trivial
  · trivial
theorem m_tb_rng (i k : Nat) : m_rng (m_tb i k) := by
  have h : ∀ (l : List Int), (∀ x ∈ l, m_rng x) → m_rng (l.getD k 0) := by
    intro l hl
    rw [List.getD_eq_getElem?_getD]
    cases hk : l[k]? with
    | none => exact m_rng_0
    | some x => exact hl x (List.mem_of_getElem? hk)
  unfold m_tb
  split <;> exact h _ (by intro x hx; simp at hx; unfold m_rng; omega)
theorem m_cat_sum (ad : Nat → Nat) : ∀ r : List m_V, ((r.map (m_c ad)).map fun v => v.category).sum ≤ 2 * r.length
  | [] => Nat.le_refl _
  | v :: r => by
    have h := m_cat_sum ad r
    have h2 : (m_c ad v).category ≤ 2 := by rcases v with x | x | x <;> simp [m_c, Value.category]
    simp only [List.map_cons, List.sum_cons, List.length_cons]
    omega
theorem m_cpy (f g : Nat → Int) (a b n : Nat) : va_cpy (fun j => Int32.ofInt (f j)) (fun j => Int32.ofInt (g j)) a b n = fun j => Int32.ofInt (m_cp f g a b n j) := by
  funext j
  unfold va_cpy m_cp
  split <;> rfl
section SN
variable {p : Program} {l : Launch} {e : Env} {R : Room} {s : State} {m : MethodId} {args : Array Value} {below : List Frame} {meth : Method} {c : Code} {cells slots : Nat} {Qf : State → Prop} {A0 : Nat → Prop} {X : m_X} {cc : ByteArray} {nL : Nat} {own : String}
variable {q : m_Post} {pc : Nat}

theorem o_ineg (C : m_Cx p R s m args meth c cells slots A0 X cc nL own) {n : Nat} (hd : decode cc pc = .ok (.ineg, 1)) (hn : n = pc + 1) : m_Snd p l e R s m args below meth c cells slots Qf A0 X nL q pc (s_neg n) := by
  intro ls stk g h
  rcases stk with _ | ⟨x | x | x, r⟩
  all_goals first | exact False.elim h | skip
  obtain ⟨hh, h⟩ := h
  intro o1 o2 o3 H locs lsA hP hS hl
  subst hn
  refine lv_ineg C.1 C.2.1 hd ?_
  rw [m_neg]
  exact h (m_okc (m_wrap_rng _) (m_okt o1)) o2 o3 H locs lsA hP hS hl

theorem o_lshr (C : m_Cx p R s m args meth c cells slots A0 X cc nL own) {n : Nat} (hd : decode cc pc = .ok (.lshr, 1)) (hn : n = pc + 1) : m_Snd p l e R s m args below meth c cells slots Qf A0 X nL q pc (s_lshr n) := by
  intro ls stk g h
  rcases stk with _ | ⟨y | y | y, _ | ⟨x | x | x, r⟩⟩
  all_goals first | exact False.elim h | skip
  obtain ⟨hh, h⟩ := h
  intro o1 o2 o3 H locs lsA hP hS hl
  subst hn
  refine lv_lshr C.1 C.2.1 hd rfl ?_
  exact h (m_okc trivial (m_okt (m_okt o1))) o2 o3 H locs lsA hP hS hl

theorem o_lshl (C : m_Cx p R s m args meth c cells slots A0 X cc nL own) {n : Nat} (hd : decode cc pc = .ok (.lshl, 1)) (hn : n = pc + 1) : m_Snd p l e R s m args below meth c cells slots Qf A0 X nL q pc (s_lshl n) := by
  intro ls stk g h
  rcases stk with _ | ⟨y | y | y, _ | ⟨x | x | x, r⟩⟩
  all_goals first | exact False.elim h | skip
  obtain ⟨hh, h⟩ := h
  intro o1 o2 o3 H locs lsA hP hS hl
  subst hn
  refine lv_lshl C.1 C.2.1 hd rfl ?_
  exact h (m_okc trivial (m_okt (m_okt o1))) o2 o3 H locs lsA hP hS hl

theorem o_land (C : m_Cx p R s m args meth c cells slots A0 X cc nL own) {n : Nat} (hd : decode cc pc = .ok (.land, 1)) (hn : n = pc + 1) : m_Snd p l e R s m args below meth c cells slots Qf A0 X nL q pc (s_lbin n (fun x y => x &&& y)) := by
  intro ls stk g h
  rcases stk with _ | ⟨y | y | y, _ | ⟨x | x | x, r⟩⟩
  all_goals first | exact False.elim h | skip
  obtain ⟨hh, h⟩ := h
  intro o1 o2 o3 H locs lsA hP hS hl
  subst hn
  refine lv_land C.1 C.2.1 hd ?_
  exact h (m_okc trivial (m_okt (m_okt o1))) o2 o3 H locs lsA hP hS hl

theorem o_lor (C : m_Cx p R s m args meth c cells slots A0 X cc nL own) {n : Nat} (hd : decode cc pc = .ok (.lor, 1)) (hn : n = pc + 1) : m_Snd p l e R s m args below meth c cells slots Qf A0 X nL q pc (s_lbin n (fun x y => x ||| y)) := by
  intro ls stk g h
  rcases stk with _ | ⟨y | y | y, _ | ⟨x | x | x, r⟩⟩
  all_goals first | exact False.elim h | skip
  obtain ⟨hh, h⟩ := h
  intro o1 o2 o3 H locs lsA hP hS hl
  subst hn
  refine lv_lor C.1 C.2.1 hd ?_
  exact h (m_okc trivial (m_okt (m_okt o1))) o2 o3 H locs lsA hP hS hl

theorem o_l2i (C : m_Cx p R s m args meth c cells slots A0 X cc nL own) {n : Nat} (hd : decode cc pc = .ok (.l2i, 1)) (hn : n = pc + 1) : m_Snd p l e R s m args below meth c cells slots Qf A0 X nL q pc (s_l2i n) := by
  intro ls stk g h
  rcases stk with _ | ⟨x | x | x, r⟩
  all_goals first | exact False.elim h | skip
  obtain ⟨hh, h⟩ := h
  intro o1 o2 o3 H locs lsA hP hS hl
  subst hn
  refine lv_l2i C.1 C.2.1 hd rfl ?_
  rw [← m_of_toInt (x.toInt32)]
  exact h (m_okc (m_toInt_rng _) (m_okt o1)) o2 o3 H locs lsA hP hS hl

theorem o_i2l (C : m_Cx p R s m args meth c cells slots A0 X cc nL own) {n : Nat} (hd : decode cc pc = .ok (.i2l, 1)) (hn : n = pc + 1) : m_Snd p l e R s m args below meth c cells slots Qf A0 X nL q pc (s_i2l n) := by
  intro ls stk g h
  rcases stk with _ | ⟨x | x | x, r⟩
  all_goals first | exact False.elim h | skip
  obtain ⟨hh, h⟩ := h
  intro o1 o2 o3 H locs lsA hP hS hl
  subst hn
  refine lv_i2l C.1 C.2.1 hd rfl ?_
  exact h (m_okc trivial (m_okt o1)) o2 o3 H locs lsA hP hS hl

theorem o_dup (C : m_Cx p R s m args meth c cells slots A0 X cc nL own) {n : Nat} (hd : decode cc pc = .ok (.dup, 1)) (hn : n = pc + 1) : m_Snd p l e R s m args below meth c cells slots Qf A0 X nL q pc (s_dup n) := by
  intro ls stk g h
  rcases stk with _ | ⟨x, r⟩
  all_goals first | exact False.elim h | skip
  obtain ⟨hh, h⟩ := h
  intro o1 o2 o3 H locs lsA hP hS hl
  subst hn
  refine lv_dup C.1 C.2.1 hd (m_c_cat hh) ?_
  exact h (m_okc (m_ok1 o1) o1) o2 o3 H locs lsA hP hS hl

theorem o_dup2 (C : m_Cx p R s m args meth c cells slots A0 X cc nL own) {n : Nat} (hd : decode cc pc = .ok (.dup2, 1)) (hn : n = pc + 1) : m_Snd p l e R s m args below meth c cells slots Qf A0 X nL q pc (s_dup2 n) := by
  intro ls stk g h
  rcases stk with _ | ⟨x, _ | ⟨y, r⟩⟩
  all_goals first | exact False.elim h | skip
  obtain ⟨hh, h⟩ := h
  intro o1 o2 o3 H locs lsA hP hS hl
  subst hn
  refine lv_dup2_11 C.1 C.2.1 hd (m_c_cat hh.1) (m_c_cat hh.2) ?_
  exact h (m_okc (m_ok1 o1) (m_okc (m_ok1 (m_okt o1)) o1)) o2 o3 H locs lsA hP hS hl

theorem o_get (C : m_Cx p R s m args meth c cells slots A0 X cc nL own) {n : Nat} {ci k ix N : Nat} {rf : String} {T : u_T} (hc : vwCl[ci]? = some (rf, T, N)) (hin : ∀ w ∈ u_ws rf T N, w ∈ m_tblG) (hk : k < N) (hw : Cond.fieldLink own ix (T k).1 (T k).2.1 (T k).2.2.1 ∈ m_tblG) (hd : decode cc pc = .ok (.getfield ix, 3)) (hn : n = pc + 3) : m_Snd p l e R s m args below meth c cells slots Qf A0 X nL q pc (s_get n ci k) := by
  intro ls stk g h
  rcases stk with _ | ⟨x | x | x, r⟩
  all_goals first | exact False.elim h | skip
  obtain ⟨hh, h⟩ := h
  intro o1 o2 o3 H locs lsA hP hS hl
  subst hn
  have hlen : m_len x = N := m_ob_len hh hc
  refine va_get (D := X.2.1) (ci := ci) (C := rf) (T := T) (N := N) (v := m_c X.1 (m_fv x k g)) C.1 C.2.1 C.2.2.2.2.1 hin C.2.2.2.1 C.2.2.2.2.2.1 hP x ((m_ws_at X g hh.1).trans (by rw [m_cell_0 X g hh])) hc k hk (C.2.2.2.2.1 _ hw) (fun _ z => z) ?_ hd ?_
  · rw [List.getElem?_map, List.getElem?_range (by rw [hlen]; exact hk)]; rfl
  · exact h (m_okc (m_fv_ok o3) (m_okt o1)) o2 o3 H locs lsA hP hS hl

theorem o_put (C : m_Cx p R s m args meth c cells slots A0 X cc nL own) {n : Nat} {ci k ix N : Nat} {rf : String} {T : u_T} (hc : vwCl[ci]? = some (rf, T, N)) (hin : ∀ w ∈ u_ws rf T N, w ∈ m_tblG) (hk : k < N) (hw : Cond.fieldLink own ix (T k).1 (T k).2.1 (T k).2.2.1 ∈ m_tblG) {ty0 : Nat → FieldType} (hty : ∀ k, k < N → parseFieldDescriptor (T k).2.2.1 = some (ty0 k)) (hnm : ∀ a, a < N → ∀ b, b < N → a ≠ b → (T a).2.1 ≠ (T b).2.1) (hfin : (T k).2.2.2 = false) (ht : ty0 k = .int) (hd : decode cc pc = .ok (.putfield ix, 3)) (hn : n = pc + 3) : m_Snd p l e R s m args below meth c cells slots Qf A0 X nL q pc (s_put n ci k) := by
  intro ls stk g h
  rcases stk with _ | ⟨y | y | y, _ | ⟨x | x | x, r⟩⟩
  all_goals first | exact False.elim h | skip
  obtain ⟨hh, h⟩ := h
  intro o1 o2 o3 H locs lsA hP hS hl
  subst hn
  have hlen : m_len x = N := m_ob_len hh.1 hc
  have hv : m_rng y := m_ok1 o1
  refine va_put (D := X.2.1) (ci := ci) (C := rf) (T := T) (N := N) (ty := ty0 k) C.1 C.2.1 C.2.2.2.2.1 hin ty0 hty hnm C.2.2.2.1 C.2.2.2.2.2.1 hP (m_ws_D X C.2.2.2.2.2.2.2.1 C.2.2.2.2.2.2.2.2.1 g) hS x ((m_ws_at X g hh.1.1).trans (by rw [m_cell_0 X g hh.1])) hc k hk (C.2.2.2.2.1 _ hw) (fun _ z => z) hfin (hty k hk) ?_ ?_ ?_ hd (fun H1 locs1 hP1 hD1 hS1 => ?_)
  · rw [ht]; rfl
  · rw [ht]; rfl
  · rw [List.length_map, List.length_range, hlen]; exact hk
  · have hf := hh.2
    rw [m_row_set X g (x := y) (by unfold m_fv; rw [hf, m_up_eq]; unfold m_u; simp) (by rw [hf]; omega), m_ws_set X (g' := m_up g x k y) (fun j hj => m_up_ne hj) (fun _ => (m_cell_0 X _ hh.1).symm)] at hP1
    exact h (m_okt (m_okt o1)) o2 (m_up_InR o3 hv) H1 locs1 lsA hP1 hS1 hl

theorem o_putz (C : m_Cx p R s m args meth c cells slots A0 X cc nL own) {n : Nat} {ci k ix N : Nat} {rf : String} {T : u_T} (hc : vwCl[ci]? = some (rf, T, N)) (hin : ∀ w ∈ u_ws rf T N, w ∈ m_tblG) (hk : k < N) (hw : Cond.fieldLink own ix (T k).1 (T k).2.1 (T k).2.2.1 ∈ m_tblG) {ty0 : Nat → FieldType} (hty : ∀ k, k < N → parseFieldDescriptor (T k).2.2.1 = some (ty0 k)) (hnm : ∀ a, a < N → ∀ b, b < N → a ≠ b → (T a).2.1 ≠ (T b).2.1) (hfin : (T k).2.2.2 = false) (ht : ty0 k = .boolean) (hd : decode cc pc = .ok (.putfield ix, 3)) (hn : n = pc + 3) : m_Snd p l e R s m args below meth c cells slots Qf A0 X nL q pc (s_putz n ci k) := by
  intro ls stk g h
  rcases stk with _ | ⟨y | y | y, _ | ⟨x | x | x, r⟩⟩
  all_goals first | exact False.elim h | skip
  obtain ⟨hh, h⟩ := h
  intro o1 o2 o3 H locs lsA hP hS hl
  subst hn
  have hlen : m_len x = N := m_ob_len hh.1 hc
  have hv : m_rng y := m_ok1 o1
  refine va_put (D := X.2.1) (ci := ci) (C := rf) (T := T) (N := N) (ty := ty0 k) C.1 C.2.1 C.2.2.2.2.1 hin ty0 hty hnm C.2.2.2.1 C.2.2.2.2.2.1 hP (m_ws_D X C.2.2.2.2.2.2.2.1 C.2.2.2.2.2.2.2.2.1 g) hS x ((m_ws_at X g hh.1.1).trans (by rw [m_cell_0 X g hh.1])) hc k hk (C.2.2.2.2.1 _ hw) (fun _ z => z) hfin (hty k hk) ?_ ?_ ?_ hd (fun H1 locs1 hP1 hD1 hS1 => ?_)
  · rw [ht]; rcases hh.2.2 with rfl | rfl <;> rfl
  · rw [ht]; rcases hh.2.2 with rfl | rfl <;> rfl
  · rw [List.length_map, List.length_range, hlen]; exact hk
  · have hf := hh.2.1
    rw [m_row_set X g (x := y) (by unfold m_fv; rw [hf, m_up_eq]; unfold m_u; simp) (by rw [hf]; omega), m_ws_set X (g' := m_up g x k y) (fun j hj => m_up_ne hj) (fun _ => (m_cell_0 X _ hh.1).symm)] at hP1
    exact h (m_okt (m_okt o1)) o2 (m_up_InR o3 hv) H1 locs1 lsA hP1 hS1 hl

theorem o_putr (C : m_Cx p R s m args meth c cells slots A0 X cc nL own) {n : Nat} {ci k ix N : Nat} {rf : String} {T : u_T} (hc : vwCl[ci]? = some (rf, T, N)) (hin : ∀ w ∈ u_ws rf T N, w ∈ m_tblG) (hk : k < N) (hw : Cond.fieldLink own ix (T k).1 (T k).2.1 (T k).2.2.1 ∈ m_tblG) {ty0 : Nat → FieldType} (hty : ∀ k, k < N → parseFieldDescriptor (T k).2.2.1 = some (ty0 k)) (hnm : ∀ a, a < N → ∀ b, b < N → a ≠ b → (T a).2.1 ≠ (T b).2.1) (hfin : (T k).2.2.2 = false) {o : String} (ht : ty0 k = .object o) (hd : decode cc pc = .ok (.putfield ix, 3)) (hn : n = pc + 3) : m_Snd p l e R s m args below meth c cells slots Qf A0 X nL q pc (s_putr n ci k) := by
  intro ls stk g h
  rcases stk with _ | ⟨y | y | y, _ | ⟨x | x | x, r⟩⟩
  all_goals first | exact False.elim h | skip
  obtain ⟨hh, h⟩ := h
  intro o1 o2 o3 H locs lsA hP hS hl
  subst hn
  have hlen : m_len x = N := m_ob_len hh.1 hc
  have hv : m_rng (y : Int) := by have := hh.2.2; unfold m_rng; omega
  refine va_put (D := X.2.1) (ci := ci) (C := rf) (T := T) (N := N) (ty := ty0 k) C.1 C.2.1 C.2.2.2.2.1 hin ty0 hty hnm C.2.2.2.1 C.2.2.2.2.2.1 hP (m_ws_D X C.2.2.2.2.2.2.2.1 C.2.2.2.2.2.2.2.2.1 g) hS x ((m_ws_at X g hh.1.1).trans (by rw [m_cell_0 X g hh.1])) hc k hk (C.2.2.2.2.1 _ hw) (fun _ z => z) hfin (hty k hk) ?_ ?_ ?_ hd (fun H1 locs1 hP1 hD1 hS1 => ?_)
  · rw [ht]; rfl
  · rw [ht]; rfl
  · rw [List.length_map, List.length_range, hlen]; exact hk
  · have hf := hh.2.1
    rw [m_row_set X g (x := (y : Int)) (by unfold m_fv; rw [hf, m_up_eq]; unfold m_u; simp) (by rw [hf]; omega), m_ws_set X (g' := m_up g x k (y : Int)) (fun j hj => m_up_ne hj) (fun _ => (m_cell_0 X _ hh.1).symm)] at hP1
    exact h (m_okt (m_okt o1)) o2 (m_up_InR o3 hv) H1 locs1 lsA hP1 hS1 hl

theorem o_iald (C : m_Cx p R s m args meth c cells slots A0 X cc nL own) {n : Nat} (hd : decode cc pc = .ok (.iaload, 1)) (hn : n = pc + 1) : m_Snd p l e R s m args below meth c cells slots Qf A0 X nL q pc (s_iald n) := by
  intro ls stk g h
  rcases stk with _ | ⟨y | y | y, _ | ⟨x | x | x, r⟩⟩
  all_goals first | exact False.elim h | skip
  obtain ⟨hh, h⟩ := h
  intro o1 o2 o3 H locs lsA hP hS hl
  subst hn
  have oy := m_ok1 o1
  refine va_iald (D := X.2.1) (tys := m_tys X) C.1 C.2.1 C.2.2.2.2.2.1 hP x 0 ((m_ws_at X g hh.1.1).trans (by rw [m_cell_1 X g hh.1.2])) rfl (m_vp oy hh.2.1 hh.2.2) hd ?_
  rw [m_clamp oy]
  exact h (m_okc (o3 _ _) (m_okt (m_okt o1))) o2 o3 H locs lsA hP hS hl

theorem o_zald (C : m_Cx p R s m args meth c cells slots A0 X cc nL own) {n : Nat} (hd : decode cc pc = .ok (.baload, 1)) (hn : n = pc + 1) : m_Snd p l e R s m args below meth c cells slots Qf A0 X nL q pc (s_zald n) := by
  intro ls stk g h
  rcases stk with _ | ⟨y | y | y, _ | ⟨x | x | x, r⟩⟩
  all_goals first | exact False.elim h | skip
  obtain ⟨hh, h⟩ := h
  intro o1 o2 o3 H locs lsA hP hS hl
  subst hn
  have oy := m_ok1 o1
  refine va_zald (D := X.2.1) (tys := m_tys X) C.1 C.2.1 C.2.2.2.2.2.1 hP x 1 ((m_ws_at X g hh.1.1).trans (by rw [m_cell_2 X g hh.1.2])) rfl (m_vp oy hh.2.1 hh.2.2) hd ?_
  rw [m_clamp oy]
  exact h (m_okc (o3 _ _) (m_okt (m_okt o1))) o2 o3 H locs lsA hP hS hl

theorem o_aald (C : m_Cx p R s m args meth c cells slots A0 X cc nL own) {n : Nat} (hd : decode cc pc = .ok (.aaload, 1)) (hn : n = pc + 1) : m_Snd p l e R s m args below meth c cells slots Qf A0 X nL q pc (s_aald n) := by
  intro ls stk g h
  rcases stk with _ | ⟨y | y | y, _ | ⟨x | x | x, r⟩⟩
  all_goals first | exact False.elim h | skip
  obtain ⟨hh, h⟩ := h
  intro o1 o2 o3 H locs lsA hP hS hl
  subst hn
  have oy := m_ok1 o1
  obtain ⟨rfl, h0, h6⟩ := hh
  refine va_aldq (D := X.2.1) (tys := m_tys X) (n := 6) C.1 C.2.1 C.2.2.2.2.2.1 hP 43 2 ((m_ws_at X g (by omega)).trans (by rw [m_cell_3 X g])) rfl (m_vp oy h0 h6) hd ?_
  rw [m_clamp oy]
  exact h (m_okc trivial (m_okt (m_okt o1))) o2 o3 H locs lsA hP hS hl

theorem o_tald (C : m_Cx p R s m args meth c cells slots A0 X cc nL own) {n : Nat} (hd : decode cc pc = .ok (.iaload, 1)) (hn : n = pc + 1) : m_Snd p l e R s m args below meth c cells slots Qf A0 X nL q pc (s_tald n) := by
  intro ls stk g h
  rcases stk with _ | ⟨y | y | y, _ | ⟨x | x | x, r⟩⟩
  all_goals first | exact False.elim h | skip
  obtain ⟨hh, h⟩ := h
  intro o1 o2 o3 H locs lsA hP hS hl
  subst hn
  have oy := m_ok1 o1
  have hT : va_T .int (X.1 x) 8 (fun j => .int (Int32.ofInt (m_tb x j))) A0 s s.heap := by
    rcases hh.1 with rfl | rfl | rfl
    · exact C.2.2.2.2.2.2.1.1.1.2
    · exact C.2.2.2.2.2.2.1.1.2.1.2
    · exact C.2.2.2.2.2.2.1.1.2.2.2
  refine va_ti C.1 C.2.1 hT hS (m_vp oy hh.2.1 hh.2.2) rfl hd ?_
  rw [m_clamp oy]
  exact h (m_okc (m_tb_rng _ _) (m_okt (m_okt o1))) o2 o3 H locs lsA hP hS hl

theorem o_iast (C : m_Cx p R s m args meth c cells slots A0 X cc nL own) {n : Nat} (hd : decode cc pc = .ok (.iastore, 1)) (hn : n = pc + 1) : m_Snd p l e R s m args below meth c cells slots Qf A0 X nL q pc (s_iast n) := by
  intro ls stk g h
  rcases stk with _ | ⟨z | z | z, _ | ⟨y | y | y, _ | ⟨x | x | x, r⟩⟩⟩
  all_goals first | exact False.elim h | skip
  obtain ⟨hh, h⟩ := h
  intro o1 o2 o3 H locs lsA hP hS hl
  subst hn
  have oz := m_ok1 o1
  have oy := m_ok1 (m_okt o1)
  refine va_iast (D := X.2.1) (tys := m_tys X) C.1 C.2.1 C.2.2.2.2.2.1 hP (m_ws_D X C.2.2.2.2.2.2.2.1 C.2.2.2.2.2.2.2.2.1 g) hS x 0 ((m_ws_at X g hh.1.1).trans (by rw [m_cell_1 X g hh.1.2])) rfl (m_vp oy hh.2.1 hh.2.2) hd (fun H1 locs1 hP1 hD1 hS1 => ?_)
  rw [m_clamp oy, m_upd, m_ws_set X (g' := m_up g x y.toNat z) (fun j hj => m_up_ne hj) (fun _ => by rw [m_cell_1 X _ hh.1.2, m_up_eq])] at hP1
  exact h (m_okt (m_okt (m_okt o1))) o2 (m_up_InR o3 oz) H1 locs1 lsA hP1 hS1 hl

theorem o_zast (C : m_Cx p R s m args meth c cells slots A0 X cc nL own) {n : Nat} (hd : decode cc pc = .ok (.bastore, 1)) (hn : n = pc + 1) : m_Snd p l e R s m args below meth c cells slots Qf A0 X nL q pc (s_zast n) := by
  intro ls stk g h
  rcases stk with _ | ⟨z | z | z, _ | ⟨y | y | y, _ | ⟨x | x | x, r⟩⟩⟩
  all_goals first | exact False.elim h | skip
  obtain ⟨hh, h⟩ := h
  intro o1 o2 o3 H locs lsA hP hS hl
  subst hn
  have oz := m_ok1 o1
  have oy := m_ok1 (m_okt o1)
  refine va_zast (D := X.2.1) (tys := m_tys X) C.1 C.2.1 C.2.2.2.2.2.1 hP (m_ws_D X C.2.2.2.2.2.2.2.1 C.2.2.2.2.2.2.2.2.1 g) hS x 1 ((m_ws_at X g hh.1.1).trans (by rw [m_cell_2 X g hh.1.2])) rfl (m_vp oy hh.2.1.1 hh.2.1.2) hd (fun H1 locs1 hP1 hD1 hS1 => ?_)
  have hz : vp_nar .boolean (Int32.ofInt z) = Int32.ofInt z := by rcases hh.2.2 with rfl | rfl <;> rfl
  rw [hz, m_clamp oy, m_upd, m_ws_set X (g' := m_up g x y.toNat z) (fun j hj => m_up_ne hj) (fun _ => by rw [m_cell_2 X _ hh.1.2, m_up_eq])] at hP1
  exact h (m_okt (m_okt (m_okt o1))) o2 (m_up_InR o3 oz) H1 locs1 lsA hP1 hS1 hl

theorem o_min (C : m_Cx p R s m args meth c cells slots A0 X cc nL own) {n : Nat} {ix : Nat} (hw : Cond.methodLink own ix Lib.Math.min.name ∈ m_tblG) (hst : Cond.static Lib.Math.min.name ∈ m_tblG) (hin : Cond.initialized "java/lang/Math" ∈ m_tblG) (hcd : Cond.code Lib.Math.min.name Lib.Math.min.code 2 (some .int) ∈ m_tblG) (hR : 1 ≤ R.frames ∧ 48 ≤ R.locals) (hd : decode cc pc = .ok (.invokestatic ix, 3)) (hn : n = pc + 3) : m_Snd p l e R s m args below meth c cells slots Qf A0 X nL q pc (s_min n) := by
  intro ls stk g h
  rcases stk with _ | ⟨y | y | y, _ | ⟨x | x | x, r⟩⟩
  all_goals first | exact False.elim h | skip
  obtain ⟨hh, h⟩ := h
  intro o1 o2 o3 H locs lsA hP hS hl
  subst hn
  have oy := m_ok1 o1
  have ox := m_ok1 (m_okt o1)
  refine va_mmin C.1 C.2.1 (by rw [hl.1]; exact C.2.2.1) C.2.2.2.1 (C.2.2.2.2.1 _ hw) (C.2.2.2.2.1 _ hst) (C.2.2.2.2.1 _ hin) (C.2.2.2.2.1 _ hcd) hR.1 (by have := m_cat_sum X.1 r; have := hh; have := hR.2; omega) C.2.2.2.2.2.2.2.2.2.1 C.2.2.2.2.2.2.2.2.2.2.1 hd ?_
  have e : (if Int32.ofInt y < Int32.ofInt x then Int32.ofInt y else Int32.ofInt x) = Int32.ofInt (if y < x then y else x) := by
    by_cases hq : y < x
    · rw [if_pos hq, if_pos ((m_lt oy ox).mpr hq)]
    · rw [if_neg hq, if_neg (fun z => hq ((m_lt oy ox).mp z))]
  rw [e]
  exact h (m_okc (by show m_rng _; split <;> first | exact oy | exact ox) (m_okt (m_okt o1))) o2 o3 H locs lsA hP hS hl

theorem o_max (C : m_Cx p R s m args meth c cells slots A0 X cc nL own) {n : Nat} {ix : Nat} (hw : Cond.methodLink own ix Lib.Math.max.name ∈ m_tblG) (hst : Cond.static Lib.Math.max.name ∈ m_tblG) (hin : Cond.initialized "java/lang/Math" ∈ m_tblG) (hcd : Cond.code Lib.Math.max.name Lib.Math.max.code 2 (some .int) ∈ m_tblG) (hR : 1 ≤ R.frames ∧ 48 ≤ R.locals) (hd : decode cc pc = .ok (.invokestatic ix, 3)) (hn : n = pc + 3) : m_Snd p l e R s m args below meth c cells slots Qf A0 X nL q pc (s_max n) := by
  intro ls stk g h
  rcases stk with _ | ⟨y | y | y, _ | ⟨x | x | x, r⟩⟩
  all_goals first | exact False.elim h | skip
  obtain ⟨hh, h⟩ := h
  intro o1 o2 o3 H locs lsA hP hS hl
  subst hn
  have oy := m_ok1 o1
  have ox := m_ok1 (m_okt o1)
  refine va_mmax C.1 C.2.1 (by rw [hl.1]; exact C.2.2.1) C.2.2.2.1 (C.2.2.2.2.1 _ hw) (C.2.2.2.2.1 _ hst) (C.2.2.2.2.1 _ hin) (C.2.2.2.2.1 _ hcd) hR.1 (by have := m_cat_sum X.1 r; have := hh; have := hR.2; omega) C.2.2.2.2.2.2.2.2.2.1 C.2.2.2.2.2.2.2.2.2.2.1 hd ?_
  have e : (if Int32.ofInt x < Int32.ofInt y then Int32.ofInt y else Int32.ofInt x) = Int32.ofInt (if x < y then y else x) := by
    by_cases hq : x < y
    · rw [if_pos hq, if_pos ((m_lt ox oy).mpr hq)]
    · rw [if_neg hq, if_neg (fun z => hq ((m_lt ox oy).mp z))]
  rw [e]
  exact h (m_okc (by show m_rng _; split <;> first | exact oy | exact ox) (m_okt (m_okt o1))) o2 o3 H locs lsA hP hS hl

theorem o_copy (C : m_Cx p R s m args meth c cells slots A0 X cc nL own) {n : Nat} {ix : Nat} (hw : Cond.methodLink own ix arraycopyName ∈ m_tblG) (hnat : Cond.native arraycopyName ∈ m_tblG) (hst : Cond.static arraycopyName ∈ m_tblG) (hin : Cond.initialized "java/lang/System" ∈ m_tblG) (hR : 1 ≤ R.frames ∧ 48 ≤ R.locals) (hd : decode cc pc = .ok (.invokestatic ix, 3)) (hn : n = pc + 3) : m_Snd p l e R s m args below meth c cells slots Qf A0 X nL q pc (s_copy n) := by
  intro ls stk g h
  rcases stk with _ | ⟨v1 | v1 | v1, _ | ⟨v2 | v2 | v2, _ | ⟨v3 | v3 | v3, _ | ⟨v4 | v4 | v4, _ | ⟨v5 | v5 | v5, _ | ⟨v6, r⟩⟩⟩⟩⟩⟩
  all_goals first | exact False.elim h | skip
  obtain ⟨hh, h⟩ := h
  intro o1 o2 o3 H locs lsA hP hS hl
  subst hn
  have u1 := m_ok1 o1
  have u2 := m_ok1 (m_okt o1)
  have u4 := m_ok1 (m_okt (m_okt (m_okt o1)))
  obtain ⟨ha, hb, g1, g2, g3, g4, g5⟩ := hh
  have hroom : (([] : List Value).map fun v => v.category).sum + (nativeFrameWords "java/lang/System" "arraycopy" 5 + 11) ≤ R.locals := by
    have e : (([] : List Value).map fun v => v.category).sum + (nativeFrameWords "java/lang/System" "arraycopy" 5 + 11) ≤ 48 := by decide +kernel
    exact Nat.le_trans e hR.2
  refine va_copyi (rest := []) (D := X.2.1) (tys := m_tys X) (ty := .int) C.1 C.2.1 (by rw [hl.1]; exact C.2.2.1) C.2.2.2.1 (C.2.2.2.2.1 _ hw) (C.2.2.2.2.1 _ hnat) (C.2.2.2.2.1 _ hst) (C.2.2.2.2.1 _ hin) C.2.2.2.2.2.1 hP (m_ws_D X C.2.2.2.2.2.2.2.1 C.2.2.2.2.2.2.2.2.1 g) hS v5 v3 0 0 ((m_ws_at X g ha.1).trans (by rw [m_cell_1 X g ha.2])) ((m_ws_at X g hb.1).trans (by rw [m_cell_1 X g hb.2])) rfl rfl rfl ?_ ?_ ?_ ?_ ?_ (fun _ _ => rfl) hR.1 hroom hd (fun H1 locs1 hP1 hD1 hS1 => ?_)
  · rw [show (0 : Int32) = Int32.ofInt 0 from rfl, m_lt u4 m_rng_0]; omega
  · rw [show (0 : Int32) = Int32.ofInt 0 from rfl, m_lt u2 m_rng_0]; omega
  · rw [show (0 : Int32) = Int32.ofInt 0 from rfl, m_lt u1 m_rng_0]; omega
  · rw [m_clamp u4, m_clamp u1]; omega
  · rw [m_clamp u2, m_clamp u1]; omega
  · rw [m_clamp u4, m_clamp u2, m_clamp u1, m_cpy, m_ws_set X (g' := fun j => if j = v3 then m_cp (g v5) (g v3) v4.toNat v2.toNat v1.toNat else g j) (fun j hj => if_neg hj) (fun _ => by rw [m_cell_1 X _ hb.2, if_pos rfl])] at hP1
    refine h (fun _ z => by cases z) o2 (fun i k => ?_) H1 locs1 lsA hP1 hS1 hl
    dsimp only
    split
    · unfold m_cp; split <;> exact o3 _ _
    · exact o3 _ _

theorem o_goto (C : m_Cx p R s m args meth c cells slots A0 X cc nL own) {n : Nat} {off : Int} (hd : decode cc pc = .ok (.goto off, 3)) (ht : (pc : Int) + off = (n : Int)) : m_Snd p l e R s m args below meth c cells slots Qf A0 X nL q pc (s_goto n) := by
  intro ls stk g h
  obtain ⟨-, h⟩ := h
  intro o1 o2 o3 H locs lsA hP hS hl
  refine lv_goto C.1 C.2.1 hd ht ?_
  exact h o1 o2 o3 H locs lsA hP hS hl

theorem o_if_eq (C : m_Cx p R s m args meth c cells slots A0 X cc nL own) {n t : Nat} {off : Int} (hd : decode cc pc = .ok (.ifCond .eq off, 3)) (hn : n = pc + 3) (ht : (pc : Int) + off = (t : Int)) : m_Snd p l e R s m args below meth c cells slots Qf A0 X nL q pc (s_if n t (fun x => x = 0)) := by
  intro ls stk g h
  rcases stk with _ | ⟨x | x | x, r⟩
  all_goals first | exact False.elim h | skip
  obtain ⟨h1, h2⟩ := h
  intro o1 o2 o3 H locs lsA hP hS hl
  subst hn
  have ox := m_ok1 o1
  have iv := m_eq ox m_rng_0
  refine lv_if_eq C.1 C.2.1 hd ht (fun z => ?_) (fun z => ?_)
  · exact h1 (iv.mp z) (m_okt o1) o2 o3 H locs lsA hP hS hl
  · exact h2 (fun w => z (iv.mpr w)) (m_okt o1) o2 o3 H locs lsA hP hS hl

theorem o_if_ne (C : m_Cx p R s m args meth c cells slots A0 X cc nL own) {n t : Nat} {off : Int} (hd : decode cc pc = .ok (.ifCond .ne off, 3)) (hn : n = pc + 3) (ht : (pc : Int) + off = (t : Int)) : m_Snd p l e R s m args below meth c cells slots Qf A0 X nL q pc (s_if n t (fun x => ¬ x = 0)) := by
  intro ls stk g h
  rcases stk with _ | ⟨x | x | x, r⟩
  all_goals first | exact False.elim h | skip
  obtain ⟨h1, h2⟩ := h
  intro o1 o2 o3 H locs lsA hP hS hl
  subst hn
  have ox := m_ok1 o1
  have iv := not_congr (m_eq ox m_rng_0)
  refine lv_if_ne C.1 C.2.1 hd ht (fun z => ?_) (fun z => ?_)
  · exact h1 (iv.mp z) (m_okt o1) o2 o3 H locs lsA hP hS hl
  · exact h2 (fun w => iv.mpr w z) (m_okt o1) o2 o3 H locs lsA hP hS hl

theorem o_if_lt (C : m_Cx p R s m args meth c cells slots A0 X cc nL own) {n t : Nat} {off : Int} (hd : decode cc pc = .ok (.ifCond .lt off, 3)) (hn : n = pc + 3) (ht : (pc : Int) + off = (t : Int)) : m_Snd p l e R s m args below meth c cells slots Qf A0 X nL q pc (s_if n t (fun x => x < 0)) := by
  intro ls stk g h
  rcases stk with _ | ⟨x | x | x, r⟩
  all_goals first | exact False.elim h | skip
  obtain ⟨h1, h2⟩ := h
  intro o1 o2 o3 H locs lsA hP hS hl
  subst hn
  have ox := m_ok1 o1
  have iv := m_lt ox m_rng_0
  refine lv_if_lt C.1 C.2.1 hd ht (fun z => ?_) (fun z => ?_)
  · exact h1 (iv.mp z) (m_okt o1) o2 o3 H locs lsA hP hS hl
  · exact h2 (fun w => z (iv.mpr w)) (m_okt o1) o2 o3 H locs lsA hP hS hl

theorem o_if_ge (C : m_Cx p R s m args meth c cells slots A0 X cc nL own) {n t : Nat} {off : Int} (hd : decode cc pc = .ok (.ifCond .ge off, 3)) (hn : n = pc + 3) (ht : (pc : Int) + off = (t : Int)) : m_Snd p l e R s m args below meth c cells slots Qf A0 X nL q pc (s_if n t (fun x => 0 ≤ x)) := by
  intro ls stk g h
  rcases stk with _ | ⟨x | x | x, r⟩
  all_goals first | exact False.elim h | skip
  obtain ⟨h1, h2⟩ := h
  intro o1 o2 o3 H locs lsA hP hS hl
  subst hn
  have ox := m_ok1 o1
  have iv := m_le m_rng_0 ox
  refine lv_if_ge C.1 C.2.1 hd ht (fun z => ?_) (fun z => ?_)
  · exact h1 (iv.mp z) (m_okt o1) o2 o3 H locs lsA hP hS hl
  · exact h2 (fun w => z (iv.mpr w)) (m_okt o1) o2 o3 H locs lsA hP hS hl

theorem o_if_gt (C : m_Cx p R s m args meth c cells slots A0 X cc nL own) {n t : Nat} {off : Int} (hd : decode cc pc = .ok (.ifCond .gt off, 3)) (hn : n = pc + 3) (ht : (pc : Int) + off = (t : Int)) : m_Snd p l e R s m args below meth c cells slots Qf A0 X nL q pc (s_if n t (fun x => 0 < x)) := by
  intro ls stk g h
  rcases stk with _ | ⟨x | x | x, r⟩
  all_goals first | exact False.elim h | skip
  obtain ⟨h1, h2⟩ := h
  intro o1 o2 o3 H locs lsA hP hS hl
  subst hn
  have ox := m_ok1 o1
  have iv := m_lt m_rng_0 ox
  refine lv_if_gt C.1 C.2.1 hd ht (fun z => ?_) (fun z => ?_)
  · exact h1 (iv.mp z) (m_okt o1) o2 o3 H locs lsA hP hS hl
  · exact h2 (fun w => z (iv.mpr w)) (m_okt o1) o2 o3 H locs lsA hP hS hl

theorem o_if_le (C : m_Cx p R s m args meth c cells slots A0 X cc nL own) {n t : Nat} {off : Int} (hd : decode cc pc = .ok (.ifCond .le off, 3)) (hn : n = pc + 3) (ht : (pc : Int) + off = (t : Int)) : m_Snd p l e R s m args below meth c cells slots Qf A0 X nL q pc (s_if n t (fun x => x ≤ 0)) := by
  intro ls stk g h
  rcases stk with _ | ⟨x | x | x, r⟩
  all_goals first | exact False.elim h | skip
  obtain ⟨h1, h2⟩ := h
  intro o1 o2 o3 H locs lsA hP hS hl
  subst hn
  have ox := m_ok1 o1
  have iv := m_le ox m_rng_0
  refine lv_if_le C.1 C.2.1 hd ht (fun z => ?_) (fun z => ?_)
  · exact h1 (iv.mp z) (m_okt o1) o2 o3 H locs lsA hP hS hl
  · exact h2 (fun w => z (iv.mpr w)) (m_okt o1) o2 o3 H locs lsA hP hS hl

theorem o_icmp_eq (C : m_Cx p R s m args meth c cells slots A0 X cc nL own) {n t : Nat} {off : Int} (hd : decode cc pc = .ok (.if_icmp .eq off, 3)) (hn : n = pc + 3) (ht : (pc : Int) + off = (t : Int)) : m_Snd p l e R s m args below meth c cells slots Qf A0 X nL q pc (s_icmp n t (fun x y => x = y)) := by
  intro ls stk g h
  rcases stk with _ | ⟨y | y | y, _ | ⟨x | x | x, r⟩⟩
  all_goals first | exact False.elim h | skip
  obtain ⟨h1, h2⟩ := h
  intro o1 o2 o3 H locs lsA hP hS hl
  subst hn
  have oy := m_ok1 o1
  have ox := m_ok1 (m_okt o1)
  have iv := m_eq ox oy
  refine lv_icmp_eq C.1 C.2.1 hd ht (fun z => ?_) (fun z => ?_)
  · exact h1 (iv.mp z) (m_okt (m_okt o1)) o2 o3 H locs lsA hP hS hl
  · exact h2 (fun w => z (iv.mpr w)) (m_okt (m_okt o1)) o2 o3 H locs lsA hP hS hl

theorem o_icmp_ne (C : m_Cx p R s m args meth c cells slots A0 X cc nL own) {n t : Nat} {off : Int} (hd : decode cc pc = .ok (.if_icmp .ne off, 3)) (hn : n = pc + 3) (ht : (pc : Int) + off = (t : Int)) : m_Snd p l e R s m args below meth c cells slots Qf A0 X nL q pc (s_icmp n t (fun x y => ¬ x = y)) := by
  intro ls stk g h
  rcases stk with _ | ⟨y | y | y, _ | ⟨x | x | x, r⟩⟩
  all_goals first | exact False.elim h | skip
  obtain ⟨h1, h2⟩ := h
  intro o1 o2 o3 H locs lsA hP hS hl
  subst hn
  have oy := m_ok1 o1
  have ox := m_ok1 (m_okt o1)
  have iv := not_congr (m_eq ox oy)
  refine lv_icmp_ne C.1 C.2.1 hd ht (fun z => ?_) (fun z => ?_)
  · exact h1 (iv.mp z) (m_okt (m_okt o1)) o2 o3 H locs lsA hP hS hl
  · exact h2 (fun w => iv.mpr w z) (m_okt (m_okt o1)) o2 o3 H locs lsA hP hS hl

theorem o_icmp_lt (C : m_Cx p R s m args meth c cells slots A0 X cc nL own) {n t : Nat} {off : Int} (hd : decode cc pc = .ok (.if_icmp .lt off, 3)) (hn : n = pc + 3) (ht : (pc : Int) + off = (t : Int)) : m_Snd p l e R s m args below meth c cells slots Qf A0 X nL q pc (s_icmp n t (fun x y => x < y)) := by
  intro ls stk g h
  rcases stk with _ | ⟨y | y | y, _ | ⟨x | x | x, r⟩⟩
  all_goals first | exact False.elim h | skip
  obtain ⟨h1, h2⟩ := h
  intro o1 o2 o3 H locs lsA hP hS hl
  subst hn
  have oy := m_ok1 o1
  have ox := m_ok1 (m_okt o1)
  have iv := m_lt ox oy
  refine lv_icmp_lt C.1 C.2.1 hd ht (fun z => ?_) (fun z => ?_)
  · exact h1 (iv.mp z) (m_okt (m_okt o1)) o2 o3 H locs lsA hP hS hl
  · exact h2 (fun w => z (iv.mpr w)) (m_okt (m_okt o1)) o2 o3 H locs lsA hP hS hl

theorem o_icmp_ge (C : m_Cx p R s m args meth c cells slots A0 X cc nL own) {n t : Nat} {off : Int} (hd : decode cc pc = .ok (.if_icmp .ge off, 3)) (hn : n = pc + 3) (ht : (pc : Int) + off = (t : Int)) : m_Snd p l e R s m args below meth c cells slots Qf A0 X nL q pc (s_icmp n t (fun x y => y ≤ x)) := by
  intro ls stk g h
  rcases stk with _ | ⟨y | y | y, _ | ⟨x | x | x, r⟩⟩
  all_goals first | exact False.elim h | skip
  obtain ⟨h1, h2⟩ := h
  intro o1 o2 o3 H locs lsA hP hS hl
  subst hn
  have oy := m_ok1 o1
  have ox := m_ok1 (m_okt o1)
  have iv := m_le oy ox
  refine lv_icmp_ge C.1 C.2.1 hd ht (fun z => ?_) (fun z => ?_)
  · exact h1 (iv.mp z) (m_okt (m_okt o1)) o2 o3 H locs lsA hP hS hl
  · exact h2 (fun w => z (iv.mpr w)) (m_okt (m_okt o1)) o2 o3 H locs lsA hP hS hl

theorem o_icmp_gt (C : m_Cx p R s m args meth c cells slots A0 X cc nL own) {n t : Nat} {off : Int} (hd : decode cc pc = .ok (.if_icmp .gt off, 3)) (hn : n = pc + 3) (ht : (pc : Int) + off = (t : Int)) : m_Snd p l e R s m args below meth c cells slots Qf A0 X nL q pc (s_icmp n t (fun x y => y < x)) := by
  intro ls stk g h
  rcases stk with _ | ⟨y | y | y, _ | ⟨x | x | x, r⟩⟩
  all_goals first | exact False.elim h | skip
  obtain ⟨h1, h2⟩ := h
  intro o1 o2 o3 H locs lsA hP hS hl
  subst hn
  have oy := m_ok1 o1
  have ox := m_ok1 (m_okt o1)
  have iv := m_lt oy ox
  refine lv_icmp_gt C.1 C.2.1 hd ht (fun z => ?_) (fun z => ?_)
  · exact h1 (iv.mp z) (m_okt (m_okt o1)) o2 o3 H locs lsA hP hS hl
  · exact h2 (fun w => z (iv.mpr w)) (m_okt (m_okt o1)) o2 o3 H locs lsA hP hS hl

theorem o_icmp_le (C : m_Cx p R s m args meth c cells slots A0 X cc nL own) {n t : Nat} {off : Int} (hd : decode cc pc = .ok (.if_icmp .le off, 3)) (hn : n = pc + 3) (ht : (pc : Int) + off = (t : Int)) : m_Snd p l e R s m args below meth c cells slots Qf A0 X nL q pc (s_icmp n t (fun x y => x ≤ y)) := by
  intro ls stk g h
  rcases stk with _ | ⟨y | y | y, _ | ⟨x | x | x, r⟩⟩
  all_goals first | exact False.elim h | skip
  obtain ⟨h1, h2⟩ := h
  intro o1 o2 o3 H locs lsA hP hS hl
  subst hn
  have oy := m_ok1 o1
  have ox := m_ok1 (m_okt o1)
  have iv := m_le ox oy
  refine lv_icmp_le C.1 C.2.1 hd ht (fun z => ?_) (fun z => ?_)
  · exact h1 (iv.mp z) (m_okt (m_okt o1)) o2 o3 H locs lsA hP hS hl
  · exact h2 (fun w => z (iv.mpr w)) (m_okt (m_okt o1)) o2 o3 H locs lsA hP hS hl

end SN
