theorem m_pop_spec : ∀ (k : Nat) (acc stk as r : List m_V), m_pop k acc stk = some (as, r) → ∃ l : List m_V, l.length = k ∧ stk = l ++ r ∧ as = l.reverse ++ acc
  | 0, acc, stk, as, r, h => by
    cases h
    exact ⟨[], rfl, rfl, rfl⟩
  | k + 1, acc, [], as, r, h => by cases h
  | k + 1, acc, v :: stk, as, r, h => by
    obtain ⟨l, h1, h2, h3⟩ := m_pop_spec k (v :: acc) stk as r h
    exact ⟨v :: l, by simp [h1], by simp [h2], by simp [h3]⟩
theorem m_holds_blind (X : m_X) (av : List Value) (g : m_G) : FrameBlind (va_Pc av (m_holds X g)) := fun a U g mk q => by
  obtain ⟨q0, qP, qK, qE⟩ := q
  exact ⟨q0, qP, va_K.moved (u := U) (U := U.calling g mk a) (Vm.Alike.refl U.vm) qK, qE.calling⟩
theorem m_good {y : MethodName} {bytes : ByteArray} {maxL : Nat} {ret : Option FieldType} {hd : List Cond} (hh : ∀ w ∈ hd, w ∈ m_tblG) (h5 : Cond.code y bytes maxL ret ∈ m_tblG) : GoodIn m_tblG (hd ++ (Cond.code y bytes maxL ret :: m_tblG)) := fun w hw => by
  rcases List.mem_append.mp hw with h | h
  · exact m_tb_good (hh w h)
  · rcases List.mem_cons.mp h with e | h
    · rw [e]; exact m_tb_good h5
    · exact m_tb_good h
section SN
variable {p : Program} {l : Launch} {e : Env} {R : Room} {s : State} {m : MethodId} {args : Array Value} {below : List Frame} {meth : Method} {c : Code} {cells slots : Nat} {Qf : State → Prop} {A0 : Nat → Prop} {X : m_X} {cc : ByteArray} {nL : Nat} {own : String}
variable {q : m_Post} {pc : Nat}
theorem m_after {H : Heap} {locs : List Loc} {lsA : Array Slot} {st0 rest : List Value} {q0 : m_Post} {a : Array Value} (hr : va_Run p l e R s m args below meth c H locs cells slots 0 0 (F0 m pc lsA st0) rest (m_Qc X q0 a) (m_A X.1)) (hS : va_S A0 s.heap H locs) (hA : ∀ q, m_A X.1 q → A0 q)
    (kk : ∀ (r : Option m_V) (g' : m_G) (H1 : Heap) (locs1 : List Loc), q0 r g' → (∀ v, r = some v → m_okV v) → m_InR g' → va_P X.2.1 vwCl (m_ws X g') H1 → va_S A0 s.heap H1 locs1 → W p l e R s m args below meth c H1 locs1 cells slots Qf (F0 m (pc + 3) lsA ((r.map (m_c X.1)).toList ++ rest))) : W p l e R s m args below meth c H locs cells slots Qf (F0 m pc lsA st0) := by
  intro T hT X1
  obtain ⟨v, st₀, t, T', L, h0, X', hL, e1, e2, ⟨⟨r, g', hv, hq, ho, hi, hp⟩, hz, hk⟩, st⟩ := hr T hT X1
  cases hv
  rw [h0] at hz hk
  obtain ⟨t2, a1, b1⟩ := kk r g' T'.heap (locs ++ L) hq ho hi (by rw [e1]; exact hp)
    ⟨Nat.le_trans hS.1 (by rw [e1]; exact hz), fun q h1 h2 => by rw [e1, hk q (Nat.lt_of_lt_of_le h1 hS.1) (fun z => h2 (hA q z))]; exact hS.2.1 q h1 h2, fun q hq => by
      rcases List.mem_append.mp hq with h | h
      · exact hS.2.2 q h
      · exact hA _ (hL q h)⟩ T' rfl X'
  exact ⟨t2, st t2 a1, b1⟩
theorem m_start (C : m_Cx p R s m args meth c cells slots A0 X cc nL own) {g : m_G} {H : Heap} {locs : List Loc} (hP : va_P X.2.1 vwCl (m_ws X g) H) (hS : va_S A0 s.heap H locs) (av : List Value) : ∀ U : State, U.heap = H → s.WarmedH U.vm → va_Pc av (m_holds X g) av.toArray U := fun U hU hW => by
  refine ⟨rfl, by rw [hU]; exact hP, va_K.moved hW.alike C.2.2.2.2.2.1, ?_⟩
  rw [hU]
  refine C.2.2.2.2.2.2.1.go hW hS.2.1 (fun q hq => ?_)
  obtain ⟨i, hi, e⟩ := hq
  rw [e]
  exact C.2.2.2.2.2.2.2.2.1 i hi
theorem m_AA (C : m_Cx p R s m args meth c cells slots A0 X cc nL own) : ∀ q, m_A X.1 q → A0 q := fun q hq => by
  obtain ⟨i, hi, e⟩ := hq
  rw [e]
  exact C.2.2.2.2.2.2.2.2.1 i hi
theorem m_pushc (X : m_X) (r : Option m_V) (t : List m_V) : (r.map (m_c X.1)).toList ++ t.map (m_c X.1) = (m_push r t).map (m_c X.1) := by cases r <;> rfl
theorem m_pusho {r : Option m_V} {t : List m_V} (h : ∀ v, r = some v → m_okV v) (ht : ∀ v ∈ t, m_okV v) : ∀ v ∈ m_push r t, m_okV v := by
  cases r with
  | none => exact ht
  | some v => exact m_okc (h v rfl) ht
theorem m_rest (X : m_X) {r : List m_V} (h : r.length ≤ 4) : ((r.map (m_c X.1)).map fun v => v.category).sum ≤ 8 := by have := m_cat_sum X.1 r; omega
theorem o_callV (C : m_Cx p R s m args meth c cells slots A0 X cc nL own) {n k ci na d ix maxL N : Nat} {y : MethodName} {bytes : ByteArray} {ret : Option FieldType} {K : m_GK} {T : u_T} (hM : m_Sound l X d y bytes maxL ret K) (hc : vwCl[ci]? = some (y.cls, T, N))
    (hw : ∀ w ∈ ([.methodLink own ix y, .instanceMethod y, .selects y.cls y y, .initialized y.cls] : List Cond), w ∈ m_tblG) (h5 : Cond.code y bytes maxL ret ∈ m_tblG)
    (hy : y.cls ≠ "java/lang/invoke/MethodHandle" ∧ y.cls ≠ "java/lang/invoke/VarHandle" ∧ (parseMethodDescriptor y.desc).map (fun d => d.parameters.length) = some na) (hk : k = na + 1) (hR : d + 1 ≤ R.frames ∧ 8 + (maxL + 11) + 48 * d ≤ R.locals)
    (hd : decode cc pc = .ok (.invokevirtual ix, 3)) (hn : n = pc + 3) : m_Snd p l e R s m args below meth c cells slots Qf A0 X nL q pc (s_callV n k ci K) := by
  intro ls stk g h0
  have h : (match m_pop k [] stk with
    | some (.inr (.inr b) :: as, r) => (m_ob b ci ∧ r.length ≤ 4) ∧ K.1 (.inr (.inr b) :: as) g (fun x g' => m_J p l e R s m args below meth c cells slots Qf A0 X nL n ls (m_push x r) g')
    | _ => False) := h0
  clear h0
  split at h
  · rename_i b as r hp
    obtain ⟨⟨hb, hr⟩, h⟩ := h
    obtain ⟨lx, e1, e2, e3⟩ := m_pop_spec _ _ _ _ _ hp
    rw [List.append_nil] at e3
    have e4 : lx = as.reverse ++ [.inr (.inr b)] := by rw [← List.reverse_reverse lx, ← e3]; simp
    subst e2
    subst hn
    subst hk
    rw [e4] at e1
    intro o1 o2 o3 H locs lsA hP hS hl
    have hoa : ∀ v ∈ (.inr (.inr b) :: as : List m_V), m_okV v := fun v hv => o1 v (List.mem_append.mpr (Or.inl (by rw [e3] at hv; exact List.mem_reverse.mp hv)))
    have hor : ∀ v ∈ r, m_okV v := fun v hv => o1 v (List.mem_append.mpr (Or.inr hv))
    have hstk : (lx ++ r).map (m_c X.1) = (as.map (m_c X.1)).reverse ++ .ref (X.1 b) :: r.map (m_c X.1) := by rw [e4]; simp [m_c]
    rw [hstk]
    refine m_after (va_runV (As := as.map (m_c X.1)) (rest := r.map (m_c X.1)) (b := X.1 b) ⟨C.1, C.2.1, C.2.2.1, C.2.2.2.1, C.2.2.2.2.1⟩ (hM _ _ _ h hoa o3) (cwV na C.2.2.2.2.1 (m_good hw h5) rfl rfl rfl ⟨rfl, hy⟩ hR)
      ⟨m_holds_blind X _ g, va_recv C.2.2.2.2.2.1 hP (ci := ci) (q0 := b) hc ((m_ws_at X g hb.1).trans (by rw [m_cell_0 X g hb])), ?_⟩ rfl ?_ hl.1 rfl ?_ hd ⟨C.2.2.2.2.2.2.2.2.2.1, C.2.2.2.2.2.2.2.2.2.2.1⟩) hS (m_AA C) ?_
    · exact m_start C hP hS _
    · rw [List.length_map]; simp at e1; omega
    · show 2 * 0 + _ ≤ 8
      have := m_rest X hr
      omega
    · intro x g' H1 locs1 hq ho hi hp1 hs1
      rw [m_pushc]
      exact hq (m_pusho ho hor) o2 hi H1 locs1 lsA hp1 hs1 hl
  · exact False.elim h
theorem o_callS (C : m_Cx p R s m args meth c cells slots A0 X cc nL own) {n k d ix maxL : Nat} {y : MethodName} {bytes : ByteArray} {ret : Option FieldType} {K : m_GK} (hM : m_Sound l X d y bytes maxL ret K)
    (hw : ∀ w ∈ ([.methodLink own ix y, .static y, .initialized y.cls] : List Cond), w ∈ m_tblG) (h5 : Cond.code y bytes maxL ret ∈ m_tblG)
    (hy : y.cls ≠ "java/lang/invoke/MethodHandle" ∧ y.cls ≠ "java/lang/invoke/VarHandle" ∧ (parseMethodDescriptor y.desc).map (fun d => d.parameters.length) = some k) (hR : d + 1 ≤ R.frames ∧ 8 + (maxL + 11) + 48 * d ≤ R.locals)
    (hd : decode cc pc = .ok (.invokestatic ix, 3)) (hn : n = pc + 3) : m_Snd p l e R s m args below meth c cells slots Qf A0 X nL q pc (s_callS n k K) := by
  intro ls stk g h0
  have h : (match m_pop k [] stk with
    | some (as, r) => r.length ≤ 4 ∧ K.1 as g (fun x g' => m_J p l e R s m args below meth c cells slots Qf A0 X nL n ls (m_push x r) g')
    | _ => False) := h0
  clear h0
  split at h
  · rename_i as r hp
    obtain ⟨hr, h⟩ := h
    obtain ⟨lx, e1, e2, e3⟩ := m_pop_spec _ _ _ _ _ hp
    rw [List.append_nil] at e3
    have e4 : lx = as.reverse := by rw [e3]; simp
    subst e2
    subst hn
    intro o1 o2 o3 H locs lsA hP hS hl
    have hoa : ∀ v ∈ as, m_okV v := fun v hv => o1 v (List.mem_append.mpr (Or.inl (by rw [e3] at hv; exact List.mem_reverse.mp hv)))
    have hor : ∀ v ∈ r, m_okV v := fun v hv => o1 v (List.mem_append.mpr (Or.inr hv))
    have hstk : (lx ++ r).map (m_c X.1) = (as.map (m_c X.1)).reverse ++ r.map (m_c X.1) := by rw [e4]; simp
    rw [hstk]
    refine m_after (va_runS (As := as.map (m_c X.1)) (rest := r.map (m_c X.1)) ⟨C.1, C.2.1, C.2.2.1, C.2.2.2.1, C.2.2.2.2.1⟩ (hM _ _ _ h hoa o3) (va_cwS k C.2.2.2.2.1 (m_good hw h5) rfl rfl rfl hy hR)
      ⟨m_holds_blind X _ g, m_start C hP hS _⟩ rfl ?_ hl.1 rfl ?_ hd ⟨C.2.2.2.2.2.2.2.2.2.1, C.2.2.2.2.2.2.2.2.2.2.1⟩) hS (m_AA C) ?_
    · rw [List.length_map, e3, List.length_reverse]; exact e1
    · show 2 * 0 + _ ≤ 8
      have := m_rest X hr
      omega
    · intro x g' H1 locs1 hq ho hi hp1 hs1
      rw [m_pushc]
      exact hq (m_pusho ho hor) o2 hi H1 locs1 lsA hp1 hs1 hl
  · exact False.elim h
/-- a nest mate's private static method -/
theorem o_callN (C : m_Cx p R s m args meth c cells slots A0 X cc nL own) {n k d ix maxL : Nat} {y : MethodName} {bytes : ByteArray} {ret : Option FieldType} {K : m_GK} (hM : m_Sound l X d y bytes maxL ret K)
    (hnw : m_Env X A0 s s.heap → va_Nw (.methodLinkNest own ix y "WhichLane") s) (hw : ∀ w ∈ ([.static y, .initialized y.cls] : List Cond), w ∈ m_tblG) (h5 : Cond.code y bytes maxL ret ∈ m_tblG)
    (hy : y.cls ≠ "java/lang/invoke/MethodHandle" ∧ y.cls ≠ "java/lang/invoke/VarHandle" ∧ (parseMethodDescriptor y.desc).map (fun d => d.parameters.length) = some k) (hR : d + 1 ≤ R.frames ∧ 8 + (maxL + 11) + 48 * d ≤ R.locals)
    (hd : decode cc pc = .ok (.invokestatic ix, 3)) (hn : n = pc + 3) : m_Snd p l e R s m args below meth c cells slots Qf A0 X nL q pc (s_callS n k K) := by
  intro ls stk g h0
  have h : (match m_pop k [] stk with
    | some (as, r) => r.length ≤ 4 ∧ K.1 as g (fun x g' => m_J p l e R s m args below meth c cells slots Qf A0 X nL n ls (m_push x r) g')
    | _ => False) := h0
  clear h0
  split at h
  · rename_i as r hp
    obtain ⟨hr, h⟩ := h
    obtain ⟨lx, e1, e2, e3⟩ := m_pop_spec _ _ _ _ _ hp
    rw [List.append_nil] at e3
    have e4 : lx = as.reverse := by rw [e3]; simp
    subst e2
    subst hn
    intro o1 o2 o3 H locs lsA hP hS hl
    have hoa : ∀ v ∈ as, m_okV v := fun v hv => o1 v (List.mem_append.mpr (Or.inl (by rw [e3] at hv; exact List.mem_reverse.mp hv)))
    have hor : ∀ v ∈ r, m_okV v := fun v hv => o1 v (List.mem_append.mpr (Or.inr hv))
    have hstk : (lx ++ r).map (m_c X.1) = (as.map (m_c X.1)).reverse ++ r.map (m_c X.1) := by rw [e4]; simp
    rw [hstk]
    refine m_after (va_runSN (As := as.map (m_c X.1)) (rest := r.map (m_c X.1)) ⟨C.1, C.2.1, C.2.2.1, C.2.2.2.1, C.2.2.2.2.1⟩ (hM _ _ _ h hoa o3) ⟨va_cnB k C.2.2.2.2.1 (m_good (hd := []) (fun _ z => by cases z) h5) rfl rfl rfl (hnw C.2.2.2.2.2.2.1) (C.2.2.2.2.1 _ (hw _ (by simp))) hy hR, C.2.2.2.2.1 _ (hw _ (by simp)), trivial⟩
      ⟨m_holds_blind X _ g, m_start C hP hS _⟩ rfl ?_ hl.1 rfl ?_ hd ⟨C.2.2.2.2.2.2.2.2.2.1, C.2.2.2.2.2.2.2.2.2.2.1⟩) hS (m_AA C) ?_
    · rw [List.length_map, e3, List.length_reverse]; exact e1
    · show 2 * 0 + _ ≤ 8
      have := m_rest X hr
      omega
    · intro x g' H1 locs1 hq ho hi hp1 hs1
      rw [m_pushc]
      exact hq (m_pusho ho hor) o2 hi H1 locs1 lsA hp1 hs1 hl
  · exact False.elim h
-- switches
def m_swl : List (Int × Nat) → Nat → Int → Nat
  | [], d, _ => d
  | (c, t) :: cs, d, x => if x = c then t else m_swl cs d x
theorem m_sw_swl {k : Nat → Prop} (d : Nat) (x : Int) : ∀ cs : List (Int × Nat), m_sw cs d x k → k (m_swl cs d x)
  | [], h => h
  | (c, t) :: cs, h => by
    unfold m_swl
    split
    · exact h.1 (by assumption)
    · exact m_sw_swl d x cs (h.2 (by assumption))
theorem m_swl_out (d : Nat) (x : Int) : ∀ cs : List (Int × Nat), (∀ c ∈ cs, ¬ x = c.1) → m_swl cs d x = d
  | [], _ => rfl
  | (c, t) :: cs, h => by
    unfold m_swl
    rw [if_neg (h _ List.mem_cons_self)]
    exact m_swl_out d x cs (fun c hc => h c (List.mem_cons_of_mem _ hc))
theorem o_tsw (C : m_Cx p R s m args meth c cells slots A0 X cc nL own) {d ln : Nat} {cs : List (Int × Nat)} {df lo hi : Int} {offs : Array Int} (hd : decode cc pc = .ok (.tableswitch df lo hi offs, ln)) (hdf : (pc : Int) + df = (d : Int))
    (hcs : ∀ c ∈ cs, lo ≤ c.1 ∧ c.1 ≤ hi) (hin : ∀ j : Nat, j < (hi - lo + 1).toNat → (offs[j]?).map (fun o => (pc : Int) + o) = some ((m_swl cs d (lo + j) : Nat) : Int)) : m_Snd p l e R s m args below meth c cells slots Qf A0 X nL q pc (s_sw cs d) := by
  intro ls stk g h
  rcases stk with _ | ⟨x | x | x, r⟩
  all_goals first | exact False.elim h | skip
  have h := m_sw_swl d x cs h
  intro o1 o2 o3 H locs lsA hP hS hl
  have ox := m_ok1 o1
  have ex := m_toInt ox
  by_cases hr : x < lo ∨ hi < x
  · rw [m_swl_out d x cs (fun c hc => by have := hcs c hc; omega)] at h
    refine lv_tableOut C.1 C.2.1 hd (by rw [ex]; exact hr) hdf ?_
    exact h (m_okt o1) o2 o3 H locs lsA hP hS hl
  · have hj := hin (x - lo).toNat (by omega)
    rw [show lo + ((x - lo).toNat : Int) = x by omega] at hj
    cases ho : offs[(x - lo).toNat]? with
    | none => rw [ho] at hj; cases hj
    | some off =>
      rw [ho] at hj
      refine lv_tableIn (off := off) C.1 C.2.1 hd (by rw [ex]; omega) (by rw [ex]; omega) (by rw [ex]; exact ho) (Option.some.inj hj) ?_
      exact h (m_okt o1) o2 o3 H locs lsA hP hS hl
theorem m_lsw (pc d : Nat) (df x : Int) (hdf : (pc : Int) + df = (d : Int)) : ∀ (ps : List (Int × Int)) (cs : List (Int × Nat)), cs.map (fun c => (c.1, (c.2 : Int))) = ps.map (fun a => (a.1, (pc : Int) + a.2)) → (pc : Int) + Op.lookupswitch.offset ps df x = (m_swl cs d x : Int)
  | [], [], _ => hdf
  | [], _ :: _, h => by cases h
  | _ :: _, [], h => by cases h
  | (a, o) :: ps, (c, t) :: cs, h => by
    simp only [List.map_cons, List.cons.injEq, Prod.mk.injEq] at h
    rw [Op.lookupswitch.offset_cons]
    unfold m_swl
    by_cases hx : x = c
    · rw [if_pos hx, if_pos (by rw [← h.1.1]; exact hx.symm)]; exact h.1.2.symm
    · rw [if_neg hx, if_neg (by rw [← h.1.1]; exact fun z => hx z.symm)]
      exact m_lsw pc d df x hdf ps cs h.2
theorem o_lsw (C : m_Cx p R s m args meth c cells slots A0 X cc nL own) {d ln : Nat} {cs : List (Int × Nat)} {df : Int} {ps : Array (Int × Int)} (hd : decode cc pc = .ok (.lookupswitch df ps, ln)) (hdf : (pc : Int) + df = (d : Int))
    (hp : (ps.toList.zip (ps.toList.drop 1)).all (fun (a, next) => a.1 < next.1) = true) (hcs : cs.map (fun c => (c.1, (c.2 : Int))) = ps.toList.map (fun a => (a.1, (pc : Int) + a.2))) : m_Snd p l e R s m args below meth c cells slots Qf A0 X nL q pc (s_sw cs d) := by
  intro ls stk g h
  rcases stk with _ | ⟨x | x | x, r⟩
  all_goals first | exact False.elim h | skip
  have h := m_sw_swl d x cs h
  intro o1 o2 o3 H locs lsA hP hS hl
  have ox := m_ok1 o1
  refine lv_lookup C.1 C.2.1 hd hp rfl (by rw [m_toInt ox]; exact m_lsw pc d df x hdf _ _ hcs) ?_
  exact h (m_okt o1) o2 o3 H locs lsA hP hS hl
end SN
section SR
variable {p : Program} {l : Launch} {e : Env} {R : Room} {s : State} {m : MethodId} {args : Array Value} {below : List Frame} {meth : Method} {c : Code} {X : m_X} {cc : ByteArray} {nL : Nat} {own : String}
variable {q : m_Post} {pc : Nat}
theorem m_end {g : m_G} {r : Option m_V} {H : Heap} {locs : List Loc} (hq : q r g) (ho : ∀ v, r = some v → m_okV v) (hi : m_InR g) (hP : va_P X.2.1 vwCl (m_ws X g) H) (hS : va_S (m_A X.1) s.heap H locs) : ∀ t : State, t.heap = H → s.WarmedH t.vm → m_Qc X q args s (.returned (r.map (m_c X.1))) t := fun t ht hW => ⟨⟨r, g, rfl, hq, ho, hi, by rw [ht]; exact hP⟩, hS.F ht⟩
theorem o_iret (C : m_Cx p R s m args meth c 0 0 (m_A X.1) X cc nL own) (hr : meth.sig.returnType = some .int) (hd : decode cc pc = .ok (.ireturn, 1)) : m_Snd p l e R s m args below meth c 0 0 (MQ below (m_Qc X q) args s 0 0 (m_A X.1)) (m_A X.1) X nL q pc s_ret := by
  intro ls stk g h
  rcases stk with _ | ⟨x | x | x, _ | ⟨w, r⟩⟩
  all_goals first | exact False.elim h | skip
  intro o1 o2 o3 H locs lsA hP hS hl
  have hlocks := C.2.2.2.2.2.2.2.2.2.2.2
  exact W.iret (v := Int32.ofInt x) C.1 C.2.1 hr (m_end (r := some (.inl x)) h (fun v z => by cases z; exact m_ok1 o1) o3 hP hS) hS.2.2 hd
theorem o_zret (C : m_Cx p R s m args meth c 0 0 (m_A X.1) X cc nL own) (hr : meth.sig.returnType = some .boolean) (hd : decode cc pc = .ok (.ireturn, 1)) : m_Snd p l e R s m args below meth c 0 0 (MQ below (m_Qc X q) args s 0 0 (m_A X.1)) (m_A X.1) X nL q pc s_retz := by
  intro ls stk g h
  rcases stk with _ | ⟨x | x | x, _ | ⟨w, r⟩⟩
  all_goals first | exact False.elim h | skip
  obtain ⟨hh, h⟩ := h
  intro o1 o2 o3 H locs lsA hP hS hl
  have hlocks := C.2.2.2.2.2.2.2.2.2.2.2
  exact W.zret (v := Int32.ofInt x) (ty := .boolean) C.1 C.2.1 hr (by rcases hh with rfl | rfl <;> rfl) (m_end (r := some (.inl x)) h (fun v z => by cases z; exact m_ok1 o1) o3 hP hS) hS.2.2 hd
theorem o_vret (C : m_Cx p R s m args meth c 0 0 (m_A X.1) X cc nL own) (hr : meth.sig.returnType = none) (hd : decode cc pc = .ok (.return_, 1)) : m_Snd p l e R s m args below meth c 0 0 (MQ below (m_Qc X q) args s 0 0 (m_A X.1)) (m_A X.1) X nL q pc s_retv := by
  intro ls stk g h
  rcases stk with _ | ⟨x, r⟩
  all_goals first | exact False.elim h | skip
  intro o1 o2 o3 H locs lsA hP hS hl
  have hlocks := C.2.2.2.2.2.2.2.2.2.2.2
  exact W.vret C.1 C.2.1 hr (m_end (r := none) h (fun v z => by cases z) o3 hP hS) hS.2.2 hd
theorem o_aret (C : m_Cx p R s m args meth c 0 0 (m_A X.1) X cc nL own) {o : String} (hr : meth.sig.returnType = some (.object o)) (hd : decode cc pc = .ok (.areturn, 1)) : m_Snd p l e R s m args below meth c 0 0 (MQ below (m_Qc X q) args s 0 0 (m_A X.1)) (m_A X.1) X nL q pc s_reta := by
  intro ls stk g h
  rcases stk with _ | ⟨x | x | x, _ | ⟨w, r⟩⟩
  all_goals first | exact False.elim h | skip
  intro o1 o2 o3 H locs lsA hP hS hl
  have hlocks := C.2.2.2.2.2.2.2.2.2.2.2
  exact W.aret (v := .ref (X.1 x)) C.1 C.2.1 hr (Or.inl ⟨_, rfl⟩) (Or.inr ⟨_, rfl⟩) (m_end (r := some (.inr (.inr x))) h (fun v z => by cases z; trivial) o3 hP hS) hS.2.2 hd
end SR
/-- the locals at a method's start -/
theorem m_ini_gl (X : m_X) : ∀ (n : Nat) (av : List m_V) (i : Nat) (v : m_V), m_gl (m_ini n av) i = some v → ∀ k, (k + i, m_c X.1 v) ∈ lv_args k (av.map (m_c X.1))
  | n, [], i, v, h, k => by
    have : ∀ (n i : Nat), m_gl (List.replicate n none) i = none := by
      intro n
      induction n with
      | zero => intro i; rfl
      | succ n ih => intro i; cases i with
        | zero => rfl
        | succ i => exact ih i
    rw [show m_ini n [] = List.replicate n none by cases n <;> rfl, this] at h
    cases h
  | n, .inl x :: l, 0, v, h, k => by cases h; exact List.mem_cons_self
  | n, .inl x :: l, i + 1, v, h, k => by
    have := m_ini_gl X (n - 1) l i v h (k + 1)
    rw [show k + (i + 1) = k + 1 + i by omega]
    exact List.mem_cons_of_mem _ this
  | n, .inr (.inr x) :: l, 0, v, h, k => by cases h; exact List.mem_cons_self
  | n, .inr (.inr x) :: l, i + 1, v, h, k => by
    have := m_ini_gl X (n - 1) l i v h (k + 1)
    rw [show k + (i + 1) = k + 1 + i by omega]
    exact List.mem_cons_of_mem _ this
  | n, .inr (.inl x) :: l, 0, v, h, k => by cases h; exact List.mem_cons_self
  | n, .inr (.inl x) :: l, 1, v, h, k => by cases h
  | n, .inr (.inl x) :: l, i + 2, v, h, k => by
    have := m_ini_gl X (n - 2) l i v h (k + 2)
    rw [show k + (i + 2) = k + 2 + i by omega]
    exact List.mem_cons_of_mem _ this
theorem m_ini_len : ∀ (n : Nat) (av : List m_V), m_fit n av → (m_ini n av).length = n
  | n, [], _ => by cases n <;> simp [m_ini]
  | n, .inl x :: l, h => by have := m_ini_len (n - 1) l h.2; have h1 := h.1; simp [m_ini, this]; omega
  | n, .inr (.inr x) :: l, h => by have := m_ini_len (n - 1) l h.2; have h1 := h.1; simp [m_ini, this]; omega
  | n, .inr (.inl x) :: l, h => by have := m_ini_len (n - 2) l h.2; have h1 := h.1; simp [m_ini, this]; omega
theorem m_fit_sl (X : m_X) : ∀ (n : Nat) (av : List m_V), m_fit n av → (lg_sl (av.map (m_c X.1))).length ≤ n
  | n, [], _ => by simp [lg_sl]
  | n, .inl x :: l, h => by have := m_fit_sl X (n - 1) l h.2; have h1 := h.1; simp [lg_sl, m_c, Value.category] at this ⊢; omega
  | n, .inr (.inr x) :: l, h => by have := m_fit_sl X (n - 1) l h.2; have h1 := h.1; simp [lg_sl, m_c, Value.category] at this ⊢; omega
  | n, .inr (.inl x) :: l, h => by have := m_fit_sl X (n - 2) l h.2; have h1 := h.1; simp [lg_sl, m_c, Value.category] at this ⊢; omega
theorem m_lv_ini (X : m_X) {n : Nat} {av : List m_V} (h : m_fit n av) : m_lv X n ((lg_sl (av.map (m_c X.1)) ++ List.replicate (n - (lg_sl (av.map (m_c X.1))).length) Slot.unset).toArray) (m_ini n av) := by
  have hl := lv_entry (av.map (m_c X.1)) (n := n) (m_fit_sl X n av h)
  refine ⟨hl.1, m_ini_len n av h, hl.2.1, fun i v hv => ?_⟩
  have := m_ini_gl X n av i v hv 0
  rw [Nat.zero_add] at this
  exact hl.2.2 _ this
theorem m_ini_ok : ∀ (n : Nat) (av : List m_V), (∀ v ∈ av, m_okV v) → ∀ v, some v ∈ m_ini n av → m_okV v
  | n, [], _, v, h => by
    rw [show m_ini n [] = List.replicate n none by cases n <;> rfl] at h
    have := List.eq_of_mem_replicate h
    cases this
  | n, .inl x :: l, ha, v, h => by
    rcases List.mem_cons.mp h with e | h
    · cases e; exact ha _ List.mem_cons_self
    · exact m_ini_ok (n - 1) l (fun w hw => ha w (List.mem_cons_of_mem _ hw)) v h
  | n, .inr (.inr x) :: l, ha, v, h => by
    rcases List.mem_cons.mp h with e | h
    · cases e; exact ha _ List.mem_cons_self
    · exact m_ini_ok (n - 1) l (fun w hw => ha w (List.mem_cons_of_mem _ hw)) v h
  | n, .inr (.inl x) :: l, ha, v, h => by
    rcases List.mem_cons.mp h with e | h
    · cases e; exact ha _ List.mem_cons_self
    · rcases List.mem_cons.mp h with e | h
      · cases e
      · exact m_ini_ok (n - 2) l (fun w hw => ha w (List.mem_cons_of_mem _ hw)) v h
/-- a method's code, all its rows sound, gives its contract -/
theorem m_sound_of {l : Launch} {X : m_X} (hX : m_inj X.1) {d : Nat} {y : MethodName} {cc : ByteArray} {maxL : Nat} {ret : Option FieldType} {code : m_C} (hy : plainName y.cls = true)
    (hrow : ∀ (p : Program) (e : Env) (s : State) (m : MethodId) (args : Array Value) (below : List Frame) (meth : Method) (c : Code) (q : m_Post), m_Cx p (m_rm d) s m args meth c 0 0 (m_A X.1) X cc maxL y.cls → meth.sig.returnType = ret →
      ∀ pc x, code pc = some x → m_Snd p l e (m_rm d) s m args below meth c 0 0 (MQ below (m_Qc X q) args s 0 0 (m_A X.1)) (m_A X.1) X maxL q pc x) : m_Sound l X d y cc maxL ret (m_wp maxL code) := by
  intro av g q hK ho hi
  refine Met.ofW (cc := cc) (maxL := maxL) (ret := ret) hy rfl ?_
  intro p e s m args below meth c s₁ B hml hv
  obtain ⟨rfl, hP, hKc, hE⟩ := hv
  have hts := atoms_spec (ws := .code y cc maxL ret :: m_tblG) B.pre
  have hown : s.vm.findClass y.cls = some m.cls := findClass_of_methodNamed B.named
  have C : m_Cx p (m_rm d) s m (av.map (m_c X.1)).toArray meth c 0 0 (m_A X.1) X cc maxL y.cls := ⟨B.exec, B.bytes, hml, hown, fun w hw => hts w (List.mem_cons_of_mem _ hw), hKc, hE, hX, fun i hi => ⟨i, hi, rfl⟩, Nat.zero_le _, Nat.zero_le _, B.notSynchronized⟩
  rw [lg_entry_eq]
  exact hK.2 (m_J p l e (m_rm d) s m (av.map (m_c X.1)).toArray below meth c 0 0 (MQ below (m_Qc X q) (av.map (m_c X.1)).toArray s 0 0 (m_A X.1)) (m_A X.1) X maxL)
    (fun pc x ls stk g hc hx => hrow p e s m _ below meth c q C B.returns pc x hc ls stk g hx) (fun _ z => by cases z) (m_ini_ok maxL av ho) hi s.heap [] _ hP va_S.rf (m_lv_ini X hK.1)
