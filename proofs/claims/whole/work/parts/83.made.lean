-- CONSTRUCTORS: a world of cells that grows; the rows of their bodies
/-- what stands fast through a body that makes cells -/
def n_Cx (p : Program) (s : State) (m : MethodId) (args : Array Value) (c : Code) (A : Nat → Prop) (X : m_X) (cc : ByteArray) (nL : Nat) (own : String) : Prop :=
  p.tables.exec = Jvm.exec ∧ c.code = cc ∧ c.maxLocals = nL ∧ s.vm.findClass own = some m.cls ∧ (∀ w ∈ m_tblG, w.before args s = true) ∧ va_K X.2.1 vwCl (m_tys X) s ∧ m_Env X A s s.heap ∧ va_AO RX3 s ∧ (∀ q, s.heap.size ≤ q → A q)
def n_J (p : Program) (l : Launch) (e : Env) (R : Room) (s : State) (m : MethodId) (args : Array Value) (below : List Frame) (meth : Method) (c : Code) (Q : State → Prop) (A : Nat → Prop) (X : m_X) (cells slots : Nat) (ws : va_W) (pc : Nat) (lsA : Array Slot) (stk : List Value) : Prop :=
  ∀ (H : Heap) (locs : List Loc), va_P X.2.1 vwCl ws H → va_D A ws → va_S A s.heap H locs → W p l e R s m args below meth c H locs cells slots Q (F0 m pc lsA stk)
/-- before a constructor: its object, all slots empty -/
def n_Pre (X : m_X) (h0 ci : Nat) (fs : List Value) (sz : Nat) (U : State) : Prop :=
  U.heap.size = sz ∧ va_P X.2.1 vwCl [(h0, .inr (ci, fs))] U.heap ∧ va_K X.2.1 vwCl (m_tys X) U ∧ va_D (fun _ => True) [(h0, .inr (ci, fs))] ∧ m_Env X (va_A [(h0, .inr (ci, fs))] sz) U U.heap ∧ va_AO RX3 U
/-- a constructor's contract: behind it, the cells V u at the addresses u -/
def n_Init (l : Launch) (X : m_X) (d mc ms : Nat) (y : MethodName) (cc : ByteArray) (maxL ci : Nat) (fs : List Value) (V : (Nat → Nat) → va_W) : Prop :=
  ∀ (h0 sz : Nat), Met l y (.code y cc maxL none :: m_tblG) { frames := d, cells := mc, slots := ms, locals := 48 * d } (va_Pc [.ref h0] (n_Pre X h0 ci fs sz))
    (va_Qv (fun u : Nat → Nat => u 0 = h0) (fun u t => va_P X.2.1 vwCl (V u) t.heap ∧ va_D (va_A [(h0, .inr (ci, fs))] sz) (V u)) (va_A [(h0, .inr (ci, fs))] sz)) mc ms (va_A [(h0, .inr (ci, fs))] sz)
theorem n_Pre_blind (X : m_X) (h0 ci : Nat) (fs : List Value) (sz : Nat) (av : List Value) : FrameBlind (va_Pc av (n_Pre X h0 ci fs sz)) := fun a U g mk q => by
  obtain ⟨q0, q1, qP, qK, qD, qE, qO⟩ := q
  exact ⟨q0, q1, qP, va_K.moved (u := U) (U := U.calling g mk a) (Vm.Alike.refl U.vm) qK, qD, qE.calling, va_AO.moved (u := U) (U := U.calling g mk a) (Vm.Alike.refl U.vm) qO⟩
section
variable {p : Program} {l : Launch} {e : Env} {R : Room} {s : State} {m : MethodId} {args : Array Value} {below : List Frame} {meth : Method} {c : Code} {Q : State → Prop} {A : Nat → Prop} {X : m_X} {cells slots : Nat} {ws : va_W} {pc : Nat} {lsA : Array Slot} {stk : List Value} {cc : ByteArray} {nL : Nat} {own : String}
theorem n_aload (C : n_Cx p s m args c A X cc nL own) {k : Nat} {i : Fin 4} {a : Nat} (hd : decode cc pc = .ok (.aload_n i, 1)) (hi : (i : Nat) = k) (hl : lsA[k]? = some (.val (.ref a))) (kk : n_J p l e R s m args below meth c Q A X cells slots ws (pc + 1) lsA (.ref a :: stk)) : n_J p l e R s m args below meth c Q A X cells slots ws pc lsA stk :=
  fun H locs hP hD hS => lv_aload_n C.1 C.2.1 hd hi hl (kk H locs hP hD hS)
theorem n_iload (C : n_Cx p s m args c A X cc nL own) {k : Nat} {i : Fin 4} {a : Int32} (hd : decode cc pc = .ok (.iload_n i, 1)) (hi : (i : Nat) = k) (hl : lsA[k]? = some (.val (.int a))) (kk : n_J p l e R s m args below meth c Q A X cells slots ws (pc + 1) lsA (.int a :: stk)) : n_J p l e R s m args below meth c Q A X cells slots ws pc lsA stk :=
  fun H locs hP hD hS => lv_iload_n C.1 C.2.1 hd hi hl (kk H locs hP hD hS)
theorem n_iconst (C : n_Cx p s m args c A X cc nL own) {x : Int} {v : Int32} (hd : decode cc pc = .ok (.iconst x, 1)) (hv : Int32.ofInt x = v) (kk : n_J p l e R s m args below meth c Q A X cells slots ws (pc + 1) lsA (.int v :: stk)) : n_J p l e R s m args below meth c Q A X cells slots ws pc lsA stk :=
  fun H locs hP hD hS => lv_iconst (v := v) C.1 C.2.1 hd hv (kk H locs hP hD hS)
theorem n_bipush (C : n_Cx p s m args c A X cc nL own) {x : Int} {v : Int32} (hd : decode cc pc = .ok (.bipush x, 2)) (hv : (Int8.ofInt x).toInt32 = v) (kk : n_J p l e R s m args below meth c Q A X cells slots ws (pc + 2) lsA (.int v :: stk)) : n_J p l e R s m args below meth c Q A X cells slots ws pc lsA stk :=
  fun H locs hP hD hS => lv_bipush (v := v) C.1 C.2.1 hd hv (kk H locs hP hD hS)
theorem n_sipush (C : n_Cx p s m args c A X cc nL own) {x : Int} {v : Int32} (hd : decode cc pc = .ok (.sipush x, 3)) (hv : (Int16.ofInt x).toInt32 = v) (kk : n_J p l e R s m args below meth c Q A X cells slots ws (pc + 3) lsA (.int v :: stk)) : n_J p l e R s m args below meth c Q A X cells slots ws pc lsA stk :=
  fun H locs hP hD hS => lv_sipush (v := v) C.1 C.2.1 hd hv (kk H locs hP hD hS)
theorem n_dup (C : n_Cx p s m args c A X cc nL own) {a : Nat} (hd : decode cc pc = .ok (.dup, 1)) (kk : n_J p l e R s m args below meth c Q A X cells slots ws (pc + 1) lsA (.ref a :: .ref a :: stk)) : n_J p l e R s m args below meth c Q A X cells slots ws pc lsA (.ref a :: stk) :=
  fun H locs hP hD hS => lv_dup C.1 C.2.1 hd rfl (kk H locs hP hD hS)
theorem n_goto (C : n_Cx p s m args c A X cc nL own) {off : Int} {t : Nat} (hd : decode cc pc = .ok (.goto off, 3)) (ht : (pc : Int) + off = (t : Int)) (kk : n_J p l e R s m args below meth c Q A X cells slots ws t lsA stk) : n_J p l e R s m args below meth c Q A X cells slots ws pc lsA stk :=
  fun H locs hP hD hS => lv_goto C.1 C.2.1 hd ht (kk H locs hP hD hS)
theorem n_ge_yes (C : n_Cx p s m args c A X cc nL own) {off : Int} {t : Nat} {x y : Int32} (hd : decode cc pc = .ok (.if_icmp .ge off, 3)) (ht : (pc : Int) + off = (t : Int)) (hxy : y ≤ x) (kk : n_J p l e R s m args below meth c Q A X cells slots ws t lsA stk) : n_J p l e R s m args below meth c Q A X cells slots ws pc lsA (.int y :: .int x :: stk) :=
  fun H locs hP hD hS => lv_icmp_ge C.1 C.2.1 hd ht (fun _ => kk H locs hP hD hS) (fun z => absurd hxy z)
theorem n_ge_no (C : n_Cx p s m args c A X cc nL own) {off : Int} {t : Nat} {x y : Int32} (hd : decode cc pc = .ok (.if_icmp .ge off, 3)) (ht : (pc : Int) + off = (t : Int)) (hxy : ¬ y ≤ x) (kk : n_J p l e R s m args below meth c Q A X cells slots ws (pc + 3) lsA stk) : n_J p l e R s m args below meth c Q A X cells slots ws pc lsA (.int y :: .int x :: stk) :=
  fun H locs hP hD hS => lv_icmp_ge C.1 C.2.1 hd ht (fun z => absurd z hxy) (fun _ => kk H locs hP hD hS)
theorem n_istore (C : n_Cx p s m args c A X cc nL own) {k : Nat} {i : Fin 4} {x : Int32} {lv lv' : List (Nat × Value)} (hd : decode cc pc = .ok (.istore_n i, 1)) (hi : (i : Nat) = k) (h : lv_has lsA nL lv) (hn : k < nL) (hl : (k, Value.int x) :: lv.filter (fun q => !(q.1 == k) && !(q.1 + 1 == k && q.2.category == 2)) = lv') (kk : ∀ ls', lv_has ls' nL lv' → n_J p l e R s m args below meth c Q A X cells slots ws (pc + 1) ls' stk) : n_J p l e R s m args below meth c Q A X cells slots ws pc lsA (.int x :: stk) :=
  fun H locs hP hD hS => lv_istore_n C.1 C.2.1 hd hi h hn hl (fun ls' h' => kk ls' h' H locs hP hD hS)
theorem n_astore (C : n_Cx p s m args c A X cc nL own) {k : Nat} {i : Fin 4} {x : Nat} {lv lv' : List (Nat × Value)} (hd : decode cc pc = .ok (.astore_n i, 1)) (hi : (i : Nat) = k) (h : lv_has lsA nL lv) (hn : k < nL) (hl : (k, Value.ref x) :: lv.filter (fun q => !(q.1 == k) && !(q.1 + 1 == k && q.2.category == 2)) = lv') (kk : ∀ ls', lv_has ls' nL lv' → n_J p l e R s m args below meth c Q A X cells slots ws (pc + 1) ls' stk) : n_J p l e R s m args below meth c Q A X cells slots ws pc lsA (.ref x :: stk) :=
  fun H locs hP hD hS => lv_astore_n C.1 C.2.1 hd hi h hn hl (fun ls' h' => kk ls' h' H locs hP hD hS)
theorem n_iinc (C : n_Cx p s m args c A X cc nL own) {i k : Nat} {n : Int} {x v : Int32} {lv lv' : List (Nat × Value)} (hd : decode cc pc = .ok (.iinc i n, 3)) (h : lv_has lsA nL lv) (hk : lv[k]? = some (i, .int x)) (hv : x + Int32.ofInt n = v) (hn : i < nL) (hl : (i, Value.int v) :: lv.filter (fun q => !(q.1 == i) && !(q.1 + 1 == i && q.2.category == 2)) = lv') (kk : ∀ ls', lv_has ls' nL lv' → n_J p l e R s m args below meth c Q A X cells slots ws (pc + 3) ls' stk) : n_J p l e R s m args below meth c Q A X cells slots ws pc lsA stk :=
  fun H locs hP hD hS => lv_iinc C.1 C.2.1 hd h hk hv hn hl (fun ls' h' => kk ls' h' H locs hP hD hS)
theorem n_obj (C : n_Cx p s m args c A X cc nL own) {a ix : Nat} (hs : lsA.size = nL) (h1 : Cond.methodLink own ix Lib.objectInit ∈ m_tblG) (h2 : Cond.instanceMethod Lib.objectInit ∈ m_tblG) (h3 : Cond.code Lib.objectInit ⟨#[0xb1]⟩ 1 none ∈ m_tblG) (hd : decode cc pc = .ok (.invokespecial ix, 3)) (hR : 1 ≤ R.frames ∧ 12 ≤ R.locals)
    (kk : n_J p l e R s m args below meth c Q A X cells slots ws (pc + 3) lsA []) : n_J p l e R s m args below meth c Q A X cells slots ws pc lsA [.ref a] :=
  fun H locs hP hD hS => W.objInit C.1 C.2.1 C.2.2.2.1 (C.2.2.2.2.1 _ h1) (C.2.2.2.2.1 _ h2) (C.2.2.2.2.1 _ h3) rfl (by rw [C.2.2.1]; exact hs) rfl hd hR.1 hR.2 (kk H locs hP hD hS)
theorem n_put (C : n_Cx p s m args c A X cc nL own) {ci ix N a : Nat} {rf : String} {T : u_T} {v : Value} {fs : List Value} (q0 : Nat) (he : ws[q0]? = some (a, .inr (ci, fs))) (hc : vwCl[ci]? = some (rf, T, N)) (hin : ∀ w ∈ u_ws rf T N, w ∈ m_tblG) (k : Nat) (hk : k < N) (hw : Cond.fieldLink own ix (T k).1 (T k).2.1 (T k).2.2.1 ∈ m_tblG) {ty0 : Nat → FieldType} (hty : ∀ k, k < N → parseFieldDescriptor (T k).2.2.1 = some (ty0 k)) (hnm : ∀ a, a < N → ∀ b, b < N → a ≠ b → (T a).2.1 ≠ (T b).2.1)
    (hfin : (T k).2.2.2 = false ∨ ((T k).2.2.2 = true ∧ meth.name = "<init>" ∧ (T k).1 = own)) (hn : narrow (ty0 k) v = v) (hfit : fits (ty0 k) v = true) (hl : k < fs.length) (hd : decode cc pc = .ok (.putfield ix, 3))
    (kk : n_J p l e R s m args below meth c Q A X cells slots (ws.set q0 (a, .inr (ci, fs.set k v))) (pc + 3) lsA stk) : n_J p l e R s m args below meth c Q A X cells slots ws pc lsA (v :: .ref a :: stk) := fun H locs hP hD hS => by
  rcases hfin with hf | ⟨hf, hm, ho⟩
  · exact va_put (D := X.2.1) (ci := ci) (C := rf) (T := T) (N := N) (ty := ty0 k) C.1 C.2.1 C.2.2.2.2.1 hin ty0 hty hnm C.2.2.2.1 C.2.2.2.2.2.1 hP hD hS q0 he hc k hk (C.2.2.2.2.1 _ hw) (fun _ z => z) hf (hty k hk) hn hfit hl hd (fun H1 locs1 hP1 hD1 hS1 => kk H1 locs1 hP1 hD1 hS1)
  · exact va_putF (D := X.2.1) (ci := ci) (C := rf) (T := T) (N := N) (ty := ty0 k) C.1 C.2.1 C.2.2.2.2.1 hin ty0 hty hnm C.2.2.2.1 C.2.2.2.2.2.1 hP hD hS q0 he hc k hk (C.2.2.2.2.1 _ hw) (fun _ z => z) hf hm ho (hty k hk) hn hfit hl hd (fun H1 locs1 hP1 hD1 hS1 => kk H1 locs1 hP1 hD1 hS1)
theorem n_get (C : n_Cx p s m args c A X cc nL own) {ci ix N a : Nat} {rf : String} {T : u_T} {v : Value} {fs : List Value} (q0 : Nat) (he : ws[q0]? = some (a, .inr (ci, fs))) (hc : vwCl[ci]? = some (rf, T, N)) (hin : ∀ w ∈ u_ws rf T N, w ∈ m_tblG) (k : Nat) (hk : k < N) (hw : Cond.fieldLink own ix (T k).1 (T k).2.1 (T k).2.2.1 ∈ m_tblG) (hv : fs[k]? = some v) (hd : decode cc pc = .ok (.getfield ix, 3))
    (kk : n_J p l e R s m args below meth c Q A X cells slots ws (pc + 3) lsA (v :: stk)) : n_J p l e R s m args below meth c Q A X cells slots ws pc lsA (.ref a :: stk) := fun H locs hP hD hS =>
  va_get (D := X.2.1) (ci := ci) (C := rf) (T := T) (N := N) C.1 C.2.1 C.2.2.2.2.1 hin C.2.2.2.1 C.2.2.2.2.2.1 hP q0 he hc k hk (C.2.2.2.2.1 _ hw) (fun _ z => z) hv hd (kk H locs hP hD hS)
theorem n_newI (C : n_Cx p s m args c A X cc nL own) (ha : Cond.arrayClass .int ∈ m_tblG) {v : Int32} (N : Nat) (hn : ¬ v < 0) (hN : v.toNatClampNeg = N) (hb : N * 4 ≤ 536870912) (hc : cells + 1 ≤ R.cells) (hs : slots + N ≤ R.slots) (hd : decode cc pc = .ok (.newarray .int, 2))
    (kk : ∀ q : Nat, n_J p l e R s m args below meth c Q A X (cells + 1) (slots + N) (ws ++ [(q, .inl (X.2.2.1, N, .inl (fun _ => 0)))]) (pc + 2) lsA (.ref q :: stk)) : n_J p l e R s m args below meth c Q A X cells slots ws pc lsA (.int v :: stk) := fun H locs hP hD hS => by
  refine va_newa (atype := .int) (a0 := (N, .inl (fun _ => 0))) (ty := .int) C.1 C.2.1 (C.2.2.2.2.1 _ ha) rfl C.2.2.2.2.2.1 hP hD hS C.2.2.2.2.2.2.2.2 (fun _ => rfl) hn hN hb hc hs hd (fun q cA H1 hK1 hP1 hD1 hS1 => ?_)
  have e1 : cA = X.2.2.1 := by
    have h1 := (hK1.2 3 (cA, .int) rfl).2
    have h2 := (C.2.2.2.2.2.1.2 0 (X.2.2.1, .int) rfl).2
    exact Option.some.inj (h1.symm.trans h2)
  subst e1
  exact kk q H1 locs hP1 hD1 hS1
theorem n_newZ (C : n_Cx p s m args c A X cc nL own) (ha : Cond.arrayClass .boolean ∈ m_tblG) {v : Int32} (N : Nat) (hn : ¬ v < 0) (hN : v.toNatClampNeg = N) (hb : N * 1 ≤ 536870912) (hc : cells + 1 ≤ R.cells) (hs : slots + N ≤ R.slots) (hd : decode cc pc = .ok (.newarray .boolean, 2))
    (kk : ∀ q : Nat, n_J p l e R s m args below meth c Q A X (cells + 1) (slots + N) (ws ++ [(q, .inl (X.2.2.2.1, N, .inl (fun _ => 0)))]) (pc + 2) lsA (.ref q :: stk)) : n_J p l e R s m args below meth c Q A X cells slots ws pc lsA (.int v :: stk) := fun H locs hP hD hS => by
  refine va_newa (atype := .boolean) (a0 := (N, .inl (fun _ => 0))) (ty := .boolean) C.1 C.2.1 (C.2.2.2.2.1 _ ha) rfl C.2.2.2.2.2.1 hP hD hS C.2.2.2.2.2.2.2.2 (fun _ => rfl) hn hN hb hc hs hd (fun q cA H1 hK1 hP1 hD1 hS1 => ?_)
  have e1 : cA = X.2.2.2.1 := by
    have h1 := (hK1.2 3 (cA, .boolean) rfl).2
    have h2 := (C.2.2.2.2.2.1.2 1 (X.2.2.2.1, .boolean) rfl).2
    exact Option.some.inj (h1.symm.trans h2)
  subst e1
  exact kk q H1 locs hP1 hD1 hS1
theorem n_newL (C : n_Cx p s m args c A X cc nL own) {ix : Nat} (ha : Cond.classLink own ix RX3 ∈ m_tblG) {v : Int32} (N : Nat) (hn : ¬ v < 0) (hN : v.toNatClampNeg = N) (hb : N * 4 ≤ 536870912) (hc : cells + 1 ≤ R.cells) (hs : slots + N ≤ R.slots) (hd : decode cc pc = .ok (.anewarray ix, 3))
    (kk : ∀ q : Nat, n_J p l e R s m args below meth c Q A X (cells + 1) (slots + N) (ws ++ [(q, .inl (X.2.2.2.2, N, .inr (.inr (.inr (.inr (fun _ => none))))))]) (pc + 3) lsA (.ref q :: stk)) : n_J p l e R s m args below meth c Q A X cells slots ws pc lsA (.int v :: stk) := fun H locs hP hD hS => by
  refine va_newq (C := RX3) C.1 C.2.1 C.2.2.2.1 (C.2.2.2.2.1 _ ha) C.2.2.2.2.2.2.2.1 C.2.2.2.2.2.1 hP hD hS C.2.2.2.2.2.2.2.2 hn hN hb hc hs hd (fun q cA H1 hK1 hP1 hD1 hS1 => ?_)
  have e1 : cA = X.2.2.2.2 := by
    obtain ⟨_, _, _, _, _, h1⟩ := (hK1.2 3 (cA, .object RX3) rfl).2
    obtain ⟨_, _, _, _, _, h2⟩ := (C.2.2.2.2.2.1.2 2 (X.2.2.2.2, .object RX3) rfl).2
    exact Option.some.inj (h1.symm.trans h2)
  subst e1
  exact kk q H1 locs hP1 hD1 hS1
theorem n_new (C : n_Cx p s m args c A X cc nL own) {ci ix N : Nat} {rf : String} {T : u_T} {ty0 : Nat → FieldType} (hc : vwCl[ci]? = some (rf, T, N)) (hin : ∀ w ∈ u_ws rf T N, w ∈ m_tblG) (hty : ∀ k, k < N → parseFieldDescriptor (T k).2.2.1 = some (ty0 k)) (h1 : Cond.classLink own ix rf ∈ m_tblG) (h2 : Cond.instantiable rf N ∈ m_tblG) (h3 : Cond.initialized rf ∈ m_tblG) (fs : List Value) (hfs : ∀ j, j < N → defaultValue (ty0 j) = vp_V fs j) (hcl : cells + 1 ≤ R.cells) (hs : slots + N ≤ R.slots) (hd : decode cc pc = .ok (.new ix, 3))
    (kk : ∀ q : Nat, n_J p l e R s m args below meth c Q A X (cells + 1) (slots + N) (ws ++ [(q, .inr (ci, fs))]) (pc + 3) lsA (.ref q :: stk)) : n_J p l e R s m args below meth c Q A X cells slots ws pc lsA stk := fun H locs hP hD hS =>
  va_new (D := X.2.1) (ci := ci) (fs := fs) (C := rf) (T := T) (N := N) C.1 C.2.1 C.2.2.2.2.1 hin ty0 hty C.2.2.2.1 (C.2.2.2.2.1 _ h1) (C.2.2.2.2.1 _ h2) (C.2.2.2.2.1 _ h3) C.2.2.2.2.2.1 hP hD hS C.2.2.2.2.2.2.2.2 hc hfs hcl hs hd (fun q H1 hP1 hD1 hS1 => kk q H1 locs hP1 hD1 hS1)
theorem n_tld (C : n_Cx p s m args c A X cc nL own) {i : Int32} (hin : vp_in i 8) (hd : decode cc pc = .ok (.iaload, 1)) (kk : n_J p l e R s m args below meth c Q A X cells slots ws (pc + 1) lsA (.int (Int32.ofInt (m_tb 402 i.toNatClampNeg)) :: stk)) : n_J p l e R s m args below meth c Q A X cells slots ws pc lsA (.int i :: .ref (X.1 402) :: stk) := fun H locs hP hD hS =>
  va_ti C.1 C.2.1 C.2.2.2.2.2.2.1.1.2.2.2 hS hin rfl hd (kk H locs hP hD hS)
theorem n_gets (C : n_Cx p s m args c A X cc nL own) (ho : own = "WhichLane$House") (hd : decode cc pc = .ok (.getstatic 37, 3)) (kk : n_J p l e R s m args below meth c Q A X cells slots ws (pc + 3) lsA (.ref (X.1 402) :: stk)) : n_J p l e R s m args below meth c Q A X cells slots ws pc lsA stk := fun H locs hP hD hS => by
  subst ho
  exact va_getsN (v := .ref (X.1 402)) C.1 C.2.1 C.2.2.2.2.2.2.1.1.2.2.1 hS C.2.2.2.1 (va_Nw.use rfl C.2.2.2.2.2.2.1.2.1.2.2.2.1) (fun _ z => z) hd (kk H locs hP hD hS)
theorem n_iast (C : n_Cx p s m args c A X cc nL own) {a n : Nat} {f : Nat → Int32} {i x : Int32} (q0 : Nat) (ha : ws[q0]? = some (a, .inl (X.2.2.1, n, .inl f))) (hin : vp_in i n) (hd : decode cc pc = .ok (.iastore, 1)) (kk : n_J p l e R s m args below meth c Q A X cells slots (ws.set q0 (a, .inl (X.2.2.1, n, .inl (upd f i.toNatClampNeg x)))) (pc + 1) lsA stk) : n_J p l e R s m args below meth c Q A X cells slots ws pc lsA (.int x :: .int i :: .ref a :: stk) := fun H locs hP hD hS =>
  va_iast (D := X.2.1) (tys := m_tys X) C.1 C.2.1 C.2.2.2.2.2.1 hP hD hS q0 0 ha rfl hin hd (fun H1 locs1 hP1 hD1 hS1 => kk H1 locs1 hP1 hD1 hS1)
theorem n_aast (C : n_Cx p s m args c A X cc nL own) {a n v : Nat} {vs : List Value} {f : Nat → Option Nat} {i : Int32} (q0 qk : Nat) (ha : ws[q0]? = some (a, .inl (X.2.2.2.2, n, .inr (.inr (.inr (.inr f)))))) (hv : ws[qk]? = some (v, .inr (3, vs))) (hin : vp_in i n) (hd : decode cc pc = .ok (.aastore, 1)) (kk : n_J p l e R s m args below meth c Q A X cells slots (ws.set q0 (a, .inl (X.2.2.2.2, n, .inr (.inr (.inr (.inr (va_up f i.toNatClampNeg (some v)))))))) (pc + 1) lsA stk) : n_J p l e R s m args below meth c Q A X cells slots ws pc lsA (.ref v :: .int i :: .ref a :: stk) := fun H locs hP hD hS =>
  va_astq (D := X.2.1) (tys := m_tys X) (r := (RX3, TX3, 12)) C.1 C.2.1 C.2.2.2.2.2.1 hP hD hS q0 2 qk 3 ha rfl hv rfl hin hd (fun H1 locs1 hP1 hD1 hS1 => kk H1 locs1 hP1 hD1 hS1)
theorem n_init (C : n_Cx p s m args c A X cc nL own) {d mc ms maxL ci ix h0 : Nat} {y : MethodName} {bytes : ByteArray} {fs : List Value} {V : (Nat → Nat) → va_W} (hI : n_Init l X d mc ms y bytes maxL ci fs V) (k0 : Nat) (h0w : ws[k0]? = some (h0, .inr (ci, fs))) (isR : List Nat) (wr : va_W) (hR : isR.map (fun i => ws[i]?) = wr.map some) (hnd : va_nd isR = true) (hdis : ∀ i ∈ isR, i ∉ [k0])
    (h1 : Cond.initialized y.cls ∈ m_tblG) (h2 : Cond.methodLink own ix y ∈ m_tblG) (h3 : Cond.instanceMethod y ∈ m_tblG) (h4 : Cond.code y bytes maxL none ∈ m_tblG) (hy1 : y.name = "<init>") (hy : y.cls ≠ "java/lang/invoke/MethodHandle" ∧ y.cls ≠ "java/lang/invoke/VarHandle" ∧ (parseMethodDescriptor y.desc).map (fun d => d.parameters.length) = some 0) (hRm : d + 1 ≤ R.frames ∧ 8 + (maxL + 11) + 48 * d ≤ R.locals) (hs : lsA.size = nL) (hst : (stk.map fun v => v.category).sum ≤ 8)
    (hcs : cells + mc ≤ R.cells ∧ slots + ms ≤ R.slots) (hd : decode cc pc = .ok (.invokespecial ix, 3))
    (kk : ∀ u : Nat → Nat, u 0 = h0 → n_J p l e R s m args below meth c Q A X (cells + mc) (slots + ms) (wr ++ V u) (pc + 3) lsA stk) : n_J p l e R s m args below meth c Q A X cells slots ws pc lsA (.ref h0 :: stk) := fun H locs hP hD hS => by
  have hCm : [k0].map (fun i => ws[i]?) = [(h0, .inr (ci, fs))].map some := by simp [h0w]
  have hPc : va_P X.2.1 vwCl [(h0, .inr (ci, fs))] H := hP.sub [k0] (by simp [h0w])
  have hDc : va_D A [(h0, .inr (ci, fs))] := by
    refine ⟨fun i j p q hp hq _ => ?_, fun k q hq => ?_⟩
    · have a1 : i < 1 := (List.getElem?_eq_some_iff.mp hp).1
      have a2 : j < 1 := (List.getElem?_eq_some_iff.mp hq).1
      omega
    · have a1 : k < 1 := (List.getElem?_eq_some_iff.mp hq).1
      rw [show k = 0 by omega] at hq
      cases hq
      exact hD.2 k0 _ h0w
  have hFc := va_free (wc := [(h0, .inr (ci, fs))]) hD hS C.2.2.2.2.2.2.2.2 [k0] hCm
  refine va_callv (va_runI (As := []) (rest := stk) ⟨C.1, C.2.1, C.2.2.1, C.2.2.2.1, C.2.2.2.2.1⟩ (hI h0 H.size) (cwI 0 C.2.2.2.2.1 (m_good (hd := []) (fun _ z => by cases z) h4) rfl rfl rfl (C.2.2.2.2.1 _ h1) (C.2.2.2.2.1 _ h2) (C.2.2.2.2.1 _ h3) hy1 hy hRm) ⟨n_Pre_blind X h0 ci fs H.size _, fun U hU hW => ?_⟩ rfl rfl hs rfl ?_ hd hcs) hS (fun q _ h => hFc q h) hFc (fun u t H1 locs1 ht hvm hw hB hz1 hk1 hS1 => ?_)
  · refine ⟨rfl, by rw [hU], by rw [hU]; exact hPc, va_K.moved hW.alike C.2.2.2.2.2.1, hDc.weaken (fun _ _ _ _ => trivial), ?_, va_AO.moved hW.alike C.2.2.2.2.2.2.2.1⟩
    rw [hU]
    exact C.2.2.2.2.2.2.1.go hW hS.2.1 hFc
  · show 2 * 0 + _ ≤ 8
    omega
  · obtain ⟨hP1, hD1⟩ := hB
    rw [ht] at hP1
    obtain ⟨hP2, hD2⟩ := va_join (wr := wr) (w1 := V u) hP hD [k0] isR hCm hR hnd hdis hk1 hFc hP1 hD1
    exact kk u hw H1 locs1 hP2 hD2 hS1
end
