def m_tblG : List Cond := lw_tbl.filter goodWord
theorem m_tb_of {w : Cond} (i : Nat) (h : lw_tbl[i]? = some w) (hg : goodWord w = true) : w ∈ m_tblG := List.mem_filter.mpr ⟨List.mem_of_getElem? h, hg⟩
theorem m_tb_good {w : Cond} (h : w ∈ m_tblG) : w ∈ m_tblG ∧ ((w.onTables && w.keeps) = true ∨ ∃ ty, w = .arrayClass ty) := ⟨h, good_of_word (List.mem_filter.mp h).2⟩
/-- what a method may take as given beside its cells: static arrays, nest mates, texts -/
def m_Env (X : m_X) (A : Nat → Prop) (U : State) (H : Heap) : Prop :=
  ((va_Z "WhichLane" "LEAST_SETTING" "[I" (.ref (X.1 400)) A U H ∧ va_T .int (X.1 400) 8 (fun j => .int (Int32.ofInt (m_tb 400 j))) A U H) ∧
   (va_Z "WhichLane" "MOST_SETTING" "[I" (.ref (X.1 401)) A U H ∧ va_T .int (X.1 401) 8 (fun j => .int (Int32.ofInt (m_tb 401 j))) A U H) ∧
   (va_Z "WhichLane" "FIRST_SETTING" "[I" (.ref (X.1 402)) A U H ∧ va_T .int (X.1 402) 8 (fun j => .int (Int32.ofInt (m_tb 402 j))) A U H)) ∧
  (va_Nw (.methodLinkNest "WhichLane$Day" 170 ⟨"WhichLane", "hasBit", "(II)Z"⟩ "WhichLane") U ∧ va_Nw (.methodLinkNest "WhichLane$House" 50 ⟨"WhichLane", "isQuarter", "(I)Z"⟩ "WhichLane") U ∧ va_Nw (.methodLinkNest "WhichLane$Rest" 36 ⟨"WhichLane", "hasBit", "(II)Z"⟩ "WhichLane") U ∧
   va_Nw (.fieldLinkNest "WhichLane$House" 37 "WhichLane" "FIRST_SETTING" "[I" "WhichLane") U ∧ va_Nw (.fieldLinkNest "WhichLane$Planner" 39 "WhichLane" "MOST_SETTING" "[I" "WhichLane") U ∧ va_Nw (.fieldLinkNest "WhichLane$Planner" 49 "WhichLane" "LEAST_SETTING" "[I" "WhichLane") U) ∧
  (vk_R "WhichLane$Tape" 101 "" (X.1 200) U ∧ vk_R "WhichLane$Tape" 95 "n,n;" (X.1 201) U ∧ vk_R "WhichLane$Tape" 97 "n;" (X.1 202) U ∧ vk_R "WhichLane$Tape" 99 "dd,n;" (X.1 203) U) ∧
  vk_S 4 [0, 4, 2, 5] [[], [110, 44, 110, 59], [110, 59], [100, 100, 44, 110, 59]] (fun i => X.1 (200 + i)) (fun i => X.1 (210 + i)) A U H ∧
  va_Z "java/lang/String" "COMPACT_STRINGS" "Z" (.int 1) A U H ∧ va_Zq "jdk/internal/util/Preconditions" "SIOOBE_FORMATTER" "Ljava/util/function/BiFunction;" A U H
/-- a callee's start: the machine as the caller left it -/
theorem m_Env.go {X : m_X} {A B : Nat → Prop} {s U : State} {H0 : Heap} {H : Heap} (h : m_Env X A s H0) (hW : s.WarmedH U.vm) (hq : ∀ a : Nat, a < H0.size → ¬ A a → H[a]? = H0[a]?) (hAB : ∀ q, B q → A q) : m_Env X B U H := by
  obtain ⟨⟨⟨a1, a2⟩, ⟨a3, a4⟩, a5, a6⟩, ⟨b1, b2, b3, b4, b5, b6⟩, ⟨c1, c2, c3, c4⟩, d, e, f⟩ := h
  have al := hW.alike
  exact ⟨⟨⟨((a1.kept hq).narrow hAB).moved al, ((a2.kept hq).narrow hAB).moved al⟩, ⟨((a3.kept hq).narrow hAB).moved al, ((a4.kept hq).narrow hAB).moved al⟩, ((a5.kept hq).narrow hAB).moved al, ((a6.kept hq).narrow hAB).moved al⟩,
    ⟨b1.warmM hW, b2.warmM hW, b3.warmM hW, b4.warmF hW, b5.warmF hW, b6.warmF hW⟩, ⟨c1.warm hW, c2.warm hW, c3.warm hW, c4.warm hW⟩,
    ((d.kept hq).narrow hAB).moved al, ((e.kept hq).narrow hAB).moved al, ((f.kept hq).narrow hAB).moved al⟩
theorem m_Env.calling {X : m_X} {A : Nat → Prop} {U : State} {H : Heap} {g : JFrame} {mk : MethodId} {a : Array Value} (h : m_Env X A U H) : m_Env X A (U.calling g mk a) H := by
  obtain ⟨⟨⟨a1, a2⟩, ⟨a3, a4⟩, a5, a6⟩, ⟨b1, b2, b3, b4, b5, b6⟩, ⟨c1, c2, c3, c4⟩, d, e, f⟩ := h
  have al : U.vm.Alike (U.calling g mk a).vm := Vm.Alike.refl U.vm
  have ev : U.vm = (U.calling g mk a).vm := rfl
  exact ⟨⟨⟨a1.moved al, a2.moved al⟩, ⟨a3.moved al, a4.moved al⟩, a5.moved al, a6.moved al⟩,
    ⟨b1.same rfl ev, b2.same rfl ev, b3.same rfl ev, b4.same rfl ev, b5.same rfl ev, b6.same rfl ev⟩, ⟨c1.same ev.symm, c2.same ev.symm, c3.same ev.symm, c4.same ev.symm⟩,
    d.moved al, e.moved al, f.moved al⟩
def m_rm (d : Nat) : Room := { frames := d, cells := 0, slots := 0, locals := 48 * d }
def m_holds (X : m_X) (g : m_G) (U : State) : Prop := va_P X.2.1 vwCl (m_ws X g) U.heap ∧ va_K X.2.1 vwCl (m_tys X) U ∧ m_Env X (m_A X.1) U U.heap
def m_Qc (X : m_X) (q : m_Post) : Array Value → State → Outcome → State → Prop := fun _ st oc t =>
  (∃ (r : Option m_V) (g' : m_G), oc = .returned (r.map (m_c X.1)) ∧ q r g' ∧ (∀ v, r = some v → m_okV v) ∧ m_InR g' ∧ va_P X.2.1 vwCl (m_ws X g') t.heap) ∧ va_F (m_A X.1) st t
def m_Sound (l : Launch) (X : m_X) (d : Nat) (y : MethodName) (cc : ByteArray) (maxL : Nat) (ret : Option FieldType) (K : m_GK) : Prop :=
  ∀ (av : List m_V) (g : m_G) (q : m_Post), K.1 av g q → (∀ v ∈ av, m_okV v) → m_InR g →
    Met l y (.code y cc maxL ret :: m_tblG) (m_rm d) (va_Pc (av.map (m_c X.1)) (m_holds X g)) (m_Qc X q) 0 0 (m_A X.1)
section SN
variable {p : Program} {l : Launch} {e : Env} {R : Room} {s : State} {m : MethodId} {args : Array Value} {below : List Frame} {meth : Method} {c : Code} {cells slots : Nat} {Qf : State → Prop} {A0 : Nat → Prop} {X : m_X} {cc : ByteArray} {nL : Nat} {own : String}
/-- the judgement: wherever the cells are g, the locals ls, the stack stk, the machine at pc comes to an end that Qf allows -/
def m_J (p : Program) (l : Launch) (e : Env) (R : Room) (s : State) (m : MethodId) (args : Array Value) (below : List Frame) (meth : Method) (c : Code) (cells slots : Nat) (Qf : State → Prop) (A0 : Nat → Prop) (X : m_X) (nL : Nat) : m_Go := fun pc ls stk g =>
  (∀ v ∈ stk, m_okV v) → (∀ v, some v ∈ ls → m_okV v) → m_InR g → ∀ (H : Heap) (locs : List Loc) (lsA : Array Slot), va_P X.2.1 vwCl (m_ws X g) H → va_S A0 s.heap H locs → m_lv X nL lsA ls →
    W p l e R s m args below meth c H locs cells slots Qf (F0 m pc lsA (stk.map (m_c X.1)))
/-- what stands fast through a body -/
def m_Cx (p : Program) (R : Room) (s : State) (m : MethodId) (args : Array Value) (meth : Method) (c : Code) (cells slots : Nat) (A0 : Nat → Prop) (X : m_X) (cc : ByteArray) (nL : Nat) (own : String) : Prop :=
  p.tables.exec = Jvm.exec ∧ c.code = cc ∧ c.maxLocals = nL ∧ s.vm.findClass own = some m.cls ∧ (∀ w ∈ m_tblG, w.before args s = true) ∧ va_K X.2.1 vwCl (m_tys X) s ∧ m_Env X A0 s s.heap ∧ m_inj X.1 ∧ (∀ i, i < 91 → A0 (X.1 i)) ∧ cells ≤ R.cells ∧ slots ≤ R.slots ∧ meth.locks = false
/-- an instruction at pc is what x says -/
def m_Snd (p : Program) (l : Launch) (e : Env) (R : Room) (s : State) (m : MethodId) (args : Array Value) (below : List Frame) (meth : Method) (c : Code) (cells slots : Nat) (Qf : State → Prop) (A0 : Nat → Prop) (X : m_X) (nL : Nat) (q : m_Post) (pc : Nat) (x : m_S) : Prop :=
  ∀ (ls : m_L) (stk : List m_V) (g : m_G), x.1 (m_J p l e R s m args below meth c cells slots Qf A0 X nL) q ls stk g → m_J p l e R s m args below meth c cells slots Qf A0 X nL pc ls stk g
variable {q : m_Post} {pc : Nat}
theorem m_okc {v : m_V} {r : List m_V} (h : m_okV v) (hr : ∀ w ∈ r, m_okV w) : ∀ w ∈ v :: r, m_okV w := fun w hw => (List.mem_cons.mp hw).elim (fun e => e ▸ h) (hr w)
theorem m_ok1 {v : m_V} {r : List m_V} (h : ∀ w ∈ v :: r, m_okV w) : m_okV v := h v List.mem_cons_self
theorem m_okt {v : m_V} {r : List m_V} (h : ∀ w ∈ v :: r, m_okV w) : ∀ w ∈ r, m_okV w := fun w hw => h w (List.mem_cons_of_mem _ hw)
theorem o_iadd (C : m_Cx p R s m args meth c cells slots A0 X cc nL own) {n : Nat} (hd : decode cc pc = .ok (.iadd, 1)) (hn : n = pc + 1) : m_Snd p l e R s m args below meth c cells slots Qf A0 X nL q pc (s_bin n (fun x y => m_wrap (x + y))) := by
  intro ls stk g h
  rcases stk with _ | ⟨y | y, _ | ⟨x | x, r⟩⟩
  all_goals first | exact False.elim h | skip
  obtain ⟨hh, h⟩ := h
  intro o1 o2 o3 H locs lsA hP hS hl
  subst hn
  have oy := m_ok1 o1
  have ox := m_ok1 (m_okt o1)
  refine lv_iadd C.1 C.2.1 hd ?_
  rw [m_add]
  exact h (m_okc (m_wrap_rng _) (m_okt (m_okt o1))) o2 o3 H locs lsA hP hS hl

theorem o_isub (C : m_Cx p R s m args meth c cells slots A0 X cc nL own) {n : Nat} (hd : decode cc pc = .ok (.isub, 1)) (hn : n = pc + 1) : m_Snd p l e R s m args below meth c cells slots Qf A0 X nL q pc (s_bin n (fun x y => m_wrap (x - y))) := by
  intro ls stk g h
  rcases stk with _ | ⟨y | y, _ | ⟨x | x, r⟩⟩
  all_goals first | exact False.elim h | skip
  obtain ⟨hh, h⟩ := h
  intro o1 o2 o3 H locs lsA hP hS hl
  subst hn
  have oy := m_ok1 o1
  have ox := m_ok1 (m_okt o1)
  refine lv_isub C.1 C.2.1 hd ?_
  rw [m_sub]
  exact h (m_okc (m_wrap_rng _) (m_okt (m_okt o1))) o2 o3 H locs lsA hP hS hl

theorem o_imul (C : m_Cx p R s m args meth c cells slots A0 X cc nL own) {n : Nat} (hd : decode cc pc = .ok (.imul, 1)) (hn : n = pc + 1) : m_Snd p l e R s m args below meth c cells slots Qf A0 X nL q pc (s_bin n (fun x y => m_wrap (x * y))) := by
  intro ls stk g h
  rcases stk with _ | ⟨y | y, _ | ⟨x | x, r⟩⟩
  all_goals first | exact False.elim h | skip
  obtain ⟨hh, h⟩ := h
  intro o1 o2 o3 H locs lsA hP hS hl
  subst hn
  have oy := m_ok1 o1
  have ox := m_ok1 (m_okt o1)
  refine lv_imul C.1 C.2.1 hd ?_
  rw [m_mul]
  exact h (m_okc (m_wrap_rng _) (m_okt (m_okt o1))) o2 o3 H locs lsA hP hS hl

theorem o_iand (C : m_Cx p R s m args meth c cells slots A0 X cc nL own) {n : Nat} (hd : decode cc pc = .ok (.iand, 1)) (hn : n = pc + 1) : m_Snd p l e R s m args below meth c cells slots Qf A0 X nL q pc (s_bin n (fun x y => (Int32.ofInt x &&& Int32.ofInt y).toInt)) := by
  intro ls stk g h
  rcases stk with _ | ⟨y | y, _ | ⟨x | x, r⟩⟩
  all_goals first | exact False.elim h | skip
  obtain ⟨hh, h⟩ := h
  intro o1 o2 o3 H locs lsA hP hS hl
  subst hn
  have oy := m_ok1 o1
  have ox := m_ok1 (m_okt o1)
  refine lv_iand C.1 C.2.1 hd ?_
  rw [← m_of_toInt (Int32.ofInt x &&& Int32.ofInt y)]
  exact h (m_okc (m_toInt_rng _) (m_okt (m_okt o1))) o2 o3 H locs lsA hP hS hl

theorem o_ior (C : m_Cx p R s m args meth c cells slots A0 X cc nL own) {n : Nat} (hd : decode cc pc = .ok (.ior, 1)) (hn : n = pc + 1) : m_Snd p l e R s m args below meth c cells slots Qf A0 X nL q pc (s_bin n (fun x y => (Int32.ofInt x ||| Int32.ofInt y).toInt)) := by
  intro ls stk g h
  rcases stk with _ | ⟨y | y, _ | ⟨x | x, r⟩⟩
  all_goals first | exact False.elim h | skip
  obtain ⟨hh, h⟩ := h
  intro o1 o2 o3 H locs lsA hP hS hl
  subst hn
  have oy := m_ok1 o1
  have ox := m_ok1 (m_okt o1)
  refine lv_ior C.1 C.2.1 hd ?_
  rw [← m_of_toInt (Int32.ofInt x ||| Int32.ofInt y)]
  exact h (m_okc (m_toInt_rng _) (m_okt (m_okt o1))) o2 o3 H locs lsA hP hS hl

theorem o_ixor (C : m_Cx p R s m args meth c cells slots A0 X cc nL own) {n : Nat} (hd : decode cc pc = .ok (.ixor, 1)) (hn : n = pc + 1) : m_Snd p l e R s m args below meth c cells slots Qf A0 X nL q pc (s_bin n (fun x y => (Int32.ofInt x ^^^ Int32.ofInt y).toInt)) := by
  intro ls stk g h
  rcases stk with _ | ⟨y | y, _ | ⟨x | x, r⟩⟩
  all_goals first | exact False.elim h | skip
  obtain ⟨hh, h⟩ := h
  intro o1 o2 o3 H locs lsA hP hS hl
  subst hn
  have oy := m_ok1 o1
  have ox := m_ok1 (m_okt o1)
  refine lv_ixor C.1 C.2.1 hd ?_
  rw [← m_of_toInt (Int32.ofInt x ^^^ Int32.ofInt y)]
  exact h (m_okc (m_toInt_rng _) (m_okt (m_okt o1))) o2 o3 H locs lsA hP hS hl

theorem o_ishl (C : m_Cx p R s m args meth c cells slots A0 X cc nL own) {n : Nat} (hd : decode cc pc = .ok (.ishl, 1)) (hn : n = pc + 1) : m_Snd p l e R s m args below meth c cells slots Qf A0 X nL q pc (s_bin n (fun x y => (Int32.ofInt x <<< (Int32.ofInt y &&& 31)).toInt)) := by
  intro ls stk g h
  rcases stk with _ | ⟨y | y, _ | ⟨x | x, r⟩⟩
  all_goals first | exact False.elim h | skip
  obtain ⟨hh, h⟩ := h
  intro o1 o2 o3 H locs lsA hP hS hl
  subst hn
  have oy := m_ok1 o1
  have ox := m_ok1 (m_okt o1)
  refine lv_ishl C.1 C.2.1 hd ?_
  rw [← m_of_toInt (Int32.ofInt x <<< (Int32.ofInt y &&& 31))]
  exact h (m_okc (m_toInt_rng _) (m_okt (m_okt o1))) o2 o3 H locs lsA hP hS hl

theorem o_ishr (C : m_Cx p R s m args meth c cells slots A0 X cc nL own) {n : Nat} (hd : decode cc pc = .ok (.ishr, 1)) (hn : n = pc + 1) : m_Snd p l e R s m args below meth c cells slots Qf A0 X nL q pc (s_bin n (fun x y => (Int32.ofInt x >>> (Int32.ofInt y &&& 31)).toInt)) := by
  intro ls stk g h
  rcases stk with _ | ⟨y | y, _ | ⟨x | x, r⟩⟩
  all_goals first | exact False.elim h | skip
  obtain ⟨hh, h⟩ := h
  intro o1 o2 o3 H locs lsA hP hS hl
  subst hn
  have oy := m_ok1 o1
  have ox := m_ok1 (m_okt o1)
  refine lv_ishr C.1 C.2.1 hd ?_
  rw [← m_of_toInt (Int32.ofInt x >>> (Int32.ofInt y &&& 31))]
  exact h (m_okc (m_toInt_rng _) (m_okt (m_okt o1))) o2 o3 H locs lsA hP hS hl

theorem o_iushr (C : m_Cx p R s m args meth c cells slots A0 X cc nL own) {n : Nat} (hd : decode cc pc = .ok (.iushr, 1)) (hn : n = pc + 1) : m_Snd p l e R s m args below meth c cells slots Qf A0 X nL q pc (s_bin n (fun x y => (((Int32.ofInt x).toUInt32 >>> ((Int32.ofInt y).toUInt32 &&& Int32.toUInt32 31)).toInt32).toInt)) := by
  intro ls stk g h
  rcases stk with _ | ⟨y | y, _ | ⟨x | x, r⟩⟩
  all_goals first | exact False.elim h | skip
  obtain ⟨hh, h⟩ := h
  intro o1 o2 o3 H locs lsA hP hS hl
  subst hn
  have oy := m_ok1 o1
  have ox := m_ok1 (m_okt o1)
  refine lv_iushr C.1 C.2.1 hd rfl ?_
  rw [← m_of_toInt (((Int32.ofInt x).toUInt32 >>> ((Int32.ofInt y).toUInt32 &&& Int32.toUInt32 31)).toInt32)]
  exact h (m_okc (m_toInt_rng _) (m_okt (m_okt o1))) o2 o3 H locs lsA hP hS hl

theorem o_idiv (C : m_Cx p R s m args meth c cells slots A0 X cc nL own) {n : Nat} (hd : decode cc pc = .ok (.idiv, 1)) (hn : n = pc + 1) : m_Snd p l e R s m args below meth c cells slots Qf A0 X nL q pc (s_div n) := by
  intro ls stk g h
  rcases stk with _ | ⟨y | y, _ | ⟨x | x, r⟩⟩
  all_goals first | exact False.elim h | skip
  obtain ⟨hh, h⟩ := h
  intro o1 o2 o3 H locs lsA hP hS hl
  subst hn
  have oy := m_ok1 o1
  have ox := m_ok1 (m_okt o1)
  refine lv_idiv C.1 C.2.1 hd (fun z => hh ((m_eq oy m_rng_0).mp z)) ?_
  rw [m_div ox oy]
  exact h (m_okc (m_wrap_rng _) (m_okt (m_okt o1))) o2 o3 H locs lsA hP hS hl

theorem o_irem (C : m_Cx p R s m args meth c cells slots A0 X cc nL own) {n : Nat} (hd : decode cc pc = .ok (.irem, 1)) (hn : n = pc + 1) : m_Snd p l e R s m args below meth c cells slots Qf A0 X nL q pc (s_rem n) := by
  intro ls stk g h
  rcases stk with _ | ⟨y | y, _ | ⟨x | x, r⟩⟩
  all_goals first | exact False.elim h | skip
  obtain ⟨hh, h⟩ := h
  intro o1 o2 o3 H locs lsA hP hS hl
  subst hn
  have oy := m_ok1 o1
  have ox := m_ok1 (m_okt o1)
  refine lv_irem C.1 C.2.1 hd (fun z => hh ((m_eq oy m_rng_0).mp z)) ?_
  rw [m_rem ox oy]
  exact h (m_okc (m_tmod_rng ox) (m_okt (m_okt o1))) o2 o3 H locs lsA hP hS hl

theorem o_iload (C : m_Cx p R s m args meth c cells slots A0 X cc nL own) {n : Nat} {k : Nat} (hd : decode cc pc = .ok (.iload k, 2)) (hn : n = pc + 2) : m_Snd p l e R s m args below meth c cells slots Qf A0 X nL q pc (s_ild n k) := by
  intro ls stk g h
  cases hk : m_gl ls k with
  | none => simp [s_ild, m_st, hk] at h
  | some v =>
    rcases v with x | x | x
    all_goals first | (simp [s_ild, m_st, hk] at h; done) | skip
    simp only [s_ild, m_st, hk, true_and] at h
    intro o1 o2 o3 H locs lsA hP hS hl
    subst hn
    refine lv_iload C.1 C.2.1 hd (m_lv_get hl hk) ?_
    exact h (m_okc (o2 _ (m_gl_mem hk)) o1) o2 o3 H locs lsA hP hS hl

theorem o_iload_n (C : m_Cx p R s m args meth c cells slots A0 X cc nL own) {n : Nat} {k : Nat} {i : Fin 4} (hi : (i : Nat) = k) (hd : decode cc pc = .ok (.iload_n i, 1)) (hn : n = pc + 1) : m_Snd p l e R s m args below meth c cells slots Qf A0 X nL q pc (s_ild n k) := by
  intro ls stk g h
  cases hk : m_gl ls k with
  | none => simp [s_ild, m_st, hk] at h
  | some v =>
    rcases v with x | x | x
    all_goals first | (simp [s_ild, m_st, hk] at h; done) | skip
    simp only [s_ild, m_st, hk, true_and] at h
    intro o1 o2 o3 H locs lsA hP hS hl
    subst hn
    refine lv_iload_n C.1 C.2.1 hd hi (m_lv_get hl hk) ?_
    exact h (m_okc (o2 _ (m_gl_mem hk)) o1) o2 o3 H locs lsA hP hS hl

theorem o_aload (C : m_Cx p R s m args meth c cells slots A0 X cc nL own) {n : Nat} {k : Nat} (hd : decode cc pc = .ok (.aload k, 2)) (hn : n = pc + 2) : m_Snd p l e R s m args below meth c cells slots Qf A0 X nL q pc (s_ald n k) := by
  intro ls stk g h
  cases hk : m_gl ls k with
  | none => simp [s_ald, m_st, hk] at h
  | some v =>
    rcases v with x | x | x
    all_goals first | (simp [s_ald, m_st, hk] at h; done) | skip
    simp only [s_ald, m_st, hk, true_and] at h
    intro o1 o2 o3 H locs lsA hP hS hl
    subst hn
    refine lv_aload C.1 C.2.1 hd (m_lv_get hl hk) ?_
    exact h (m_okc (o2 _ (m_gl_mem hk)) o1) o2 o3 H locs lsA hP hS hl

theorem o_aload_n (C : m_Cx p R s m args meth c cells slots A0 X cc nL own) {n : Nat} {k : Nat} {i : Fin 4} (hi : (i : Nat) = k) (hd : decode cc pc = .ok (.aload_n i, 1)) (hn : n = pc + 1) : m_Snd p l e R s m args below meth c cells slots Qf A0 X nL q pc (s_ald n k) := by
  intro ls stk g h
  cases hk : m_gl ls k with
  | none => simp [s_ald, m_st, hk] at h
  | some v =>
    rcases v with x | x | x
    all_goals first | (simp [s_ald, m_st, hk] at h; done) | skip
    simp only [s_ald, m_st, hk, true_and] at h
    intro o1 o2 o3 H locs lsA hP hS hl
    subst hn
    refine lv_aload_n C.1 C.2.1 hd hi (m_lv_get hl hk) ?_
    exact h (m_okc (o2 _ (m_gl_mem hk)) o1) o2 o3 H locs lsA hP hS hl

theorem o_lload_n (C : m_Cx p R s m args meth c cells slots A0 X cc nL own) {n : Nat} {k : Nat} {i : Fin 4} (hi : (i : Nat) = k) (hd : decode cc pc = .ok (.lload_n i, 1)) (hn : n = pc + 1) : m_Snd p l e R s m args below meth c cells slots Qf A0 X nL q pc (s_lld n k) := by
  intro ls stk g h
  cases hk : m_gl ls k with
  | none => simp [s_lld, m_st, hk] at h
  | some v =>
    rcases v with x | x | x
    all_goals first | (simp [s_lld, m_st, hk] at h; done) | skip
    simp only [s_lld, m_st, hk, true_and] at h
    intro o1 o2 o3 H locs lsA hP hS hl
    subst hn
    refine lv_lload_n C.1 C.2.1 hd hi (m_lv_get hl hk) ?_
    exact h (m_okc (o2 _ (m_gl_mem hk)) o1) o2 o3 H locs lsA hP hS hl

theorem o_istore (C : m_Cx p R s m args meth c cells slots A0 X cc nL own) {n : Nat} {k : Nat} (hd : decode cc pc = .ok (.istore k, 2)) (hn : n = pc + 2) : m_Snd p l e R s m args below meth c cells slots Qf A0 X nL q pc (s_ist n k) := by
  intro ls stk g h
  rcases stk with _ | ⟨x | x, r⟩
  all_goals first | exact False.elim h | skip
  obtain ⟨hk, h⟩ := h
  intro o1 o2 o3 H locs lsA hP hS hl
  subst hn
  refine lv_istore C.1 C.2.1 hd (m_lv_has hl) (by have := m_okst_lt _ _ hk; have := hl.2.1; omega) rfl (fun ls' hl' => ?_)
  exact h (m_okt o1) (fun v hv => (List.mem_or_eq_of_mem_set hv).elim (o2 v) (fun z => by cases z; exact m_ok1 o1)) o3 H locs ls' hP hS (m_lv_store hl.2.1 hk hl')

theorem o_istore_n (C : m_Cx p R s m args meth c cells slots A0 X cc nL own) {n : Nat} {k : Nat} {i : Fin 4} (hi : (i : Nat) = k) (hd : decode cc pc = .ok (.istore_n i, 1)) (hn : n = pc + 1) : m_Snd p l e R s m args below meth c cells slots Qf A0 X nL q pc (s_ist n k) := by
  intro ls stk g h
  rcases stk with _ | ⟨x | x, r⟩
  all_goals first | exact False.elim h | skip
  obtain ⟨hk, h⟩ := h
  intro o1 o2 o3 H locs lsA hP hS hl
  subst hn
  refine lv_istore_n C.1 C.2.1 hd hi (m_lv_has hl) (by have := m_okst_lt _ _ hk; have := hl.2.1; omega) rfl (fun ls' hl' => ?_)
  exact h (m_okt o1) (fun v hv => (List.mem_or_eq_of_mem_set hv).elim (o2 v) (fun z => by cases z; exact m_ok1 o1)) o3 H locs ls' hP hS (m_lv_store hl.2.1 hk hl')

theorem o_astore (C : m_Cx p R s m args meth c cells slots A0 X cc nL own) {n : Nat} {k : Nat} (hd : decode cc pc = .ok (.astore k, 2)) (hn : n = pc + 2) : m_Snd p l e R s m args below meth c cells slots Qf A0 X nL q pc (s_ast n k) := by
  intro ls stk g h
  rcases stk with _ | ⟨x | x | x, r⟩
  all_goals first | exact False.elim h | skip
  obtain ⟨hk, h⟩ := h
  intro o1 o2 o3 H locs lsA hP hS hl
  subst hn
  refine lv_astore C.1 C.2.1 hd (m_lv_has hl) (by have := m_okst_lt _ _ hk; have := hl.2.1; omega) rfl (fun ls' hl' => ?_)
  exact h (m_okt o1) (fun v hv => (List.mem_or_eq_of_mem_set hv).elim (o2 v) (fun z => by cases z; exact m_ok1 o1)) o3 H locs ls' hP hS (m_lv_store hl.2.1 hk hl')

theorem o_astore_n (C : m_Cx p R s m args meth c cells slots A0 X cc nL own) {n : Nat} {k : Nat} {i : Fin 4} (hi : (i : Nat) = k) (hd : decode cc pc = .ok (.astore_n i, 1)) (hn : n = pc + 1) : m_Snd p l e R s m args below meth c cells slots Qf A0 X nL q pc (s_ast n k) := by
  intro ls stk g h
  rcases stk with _ | ⟨x | x | x, r⟩
  all_goals first | exact False.elim h | skip
  obtain ⟨hk, h⟩ := h
  intro o1 o2 o3 H locs lsA hP hS hl
  subst hn
  refine lv_astore_n C.1 C.2.1 hd hi (m_lv_has hl) (by have := m_okst_lt _ _ hk; have := hl.2.1; omega) rfl (fun ls' hl' => ?_)
  exact h (m_okt o1) (fun v hv => (List.mem_or_eq_of_mem_set hv).elim (o2 v) (fun z => by cases z; exact m_ok1 o1)) o3 H locs ls' hP hS (m_lv_store hl.2.1 hk hl')

theorem o_iinc (C : m_Cx p R s m args meth c cells slots A0 X cc nL own) {n k : Nat} {d : Int} (hd : decode cc pc = .ok (.iinc k d, 3)) (hn : n = pc + 3) : m_Snd p l e R s m args below meth c cells slots Qf A0 X nL q pc (s_inc n k d) := by
  intro ls stk g h
  cases hk : m_gl ls k with
  | none => simp [s_inc, m_st, hk] at h
  | some v =>
    rcases v with x | x | x
    all_goals first | (simp [s_inc, m_st, hk] at h; done) | skip
    simp only [s_inc, m_st, hk] at h
    obtain ⟨ho, h⟩ := h
    intro o1 o2 o3 H locs lsA hP hS hl
    subst hn
    have hm := m_as_of X ls 0 k _ hk
    rw [Nat.zero_add] at hm
    obtain ⟨j, hj⟩ := List.getElem?_of_mem hm
    refine lv_iinc (v := Int32.ofInt (m_wrap (x + d))) C.1 C.2.1 hd (m_lv_has hl) (k := j) hj ?_ (by have := m_okst_lt _ _ ho; have := hl.2.1; omega) rfl (fun ls' hl' => ?_)
    · rw [m_ofInt_wrap]; simp
    · exact h o1 (fun v hv => (List.mem_or_eq_of_mem_set hv).elim (o2 v) (fun z => by cases z; exact m_wrap_rng _)) o3 H locs ls' hP hS (m_lv_store (v := .inl (m_wrap (x + d))) hl.2.1 ho hl')

theorem o_iconst (C : m_Cx p R s m args meth c cells slots A0 X cc nL own) {n : Nat} {x : Int} (hv : m_rng x) (hd : decode cc pc = .ok (.iconst x, 1)) (hn : n = pc + 1) : m_Snd p l e R s m args below meth c cells slots Qf A0 X nL q pc (s_push n (.inl x)) := by
  intro ls stk g h
  obtain ⟨-, h⟩ := h
  intro o1 o2 o3 H locs lsA hP hS hl
  subst hn
  refine lv_iconst (v := Int32.ofInt x) C.1 C.2.1 hd rfl ?_
  exact h (m_okc hv o1) o2 o3 H locs lsA hP hS hl

theorem o_bipush (C : m_Cx p R s m args meth c cells slots A0 X cc nL own) {n : Nat} {x : Int} (hv : m_rng x) (hx : (Int8.ofInt x).toInt32 = Int32.ofInt x) (hd : decode cc pc = .ok (.bipush x, 2)) (hn : n = pc + 2) : m_Snd p l e R s m args below meth c cells slots Qf A0 X nL q pc (s_push n (.inl x)) := by
  intro ls stk g h
  obtain ⟨-, h⟩ := h
  intro o1 o2 o3 H locs lsA hP hS hl
  subst hn
  refine lv_bipush (v := Int32.ofInt x) C.1 C.2.1 hd hx ?_
  exact h (m_okc hv o1) o2 o3 H locs lsA hP hS hl

theorem o_sipush (C : m_Cx p R s m args meth c cells slots A0 X cc nL own) {n : Nat} {x : Int} (hv : m_rng x) (hx : (Int16.ofInt x).toInt32 = Int32.ofInt x) (hd : decode cc pc = .ok (.sipush x, 3)) (hn : n = pc + 3) : m_Snd p l e R s m args below meth c cells slots Qf A0 X nL q pc (s_push n (.inl x)) := by
  intro ls stk g h
  obtain ⟨-, h⟩ := h
  intro o1 o2 o3 H locs lsA hP hS hl
  subst hn
  refine lv_sipush (v := Int32.ofInt x) C.1 C.2.1 hd hx ?_
  exact h (m_okc hv o1) o2 o3 H locs lsA hP hS hl

theorem o_ldc (C : m_Cx p R s m args meth c cells slots A0 X cc nL own) {n : Nat} {x : Int} {ix : Nat} (hv : m_rng x) (hw : Cond.constant own ix (Int32.ofInt x) ∈ m_tblG) (hd : decode cc pc = .ok (.ldc ix, 2)) (hn : n = pc + 2) : m_Snd p l e R s m args below meth c cells slots Qf A0 X nL q pc (s_push n (.inl x)) := by
  intro ls stk g h
  obtain ⟨-, h⟩ := h
  intro o1 o2 o3 H locs lsA hP hS hl
  subst hn
  refine lv_ldc (v := Int32.ofInt x) C.1 C.2.1 C.2.2.2.1 (C.2.2.2.2.1 _ hw) hd ?_
  exact h (m_okc hv o1) o2 o3 H locs lsA hP hS hl

theorem o_ldc2 (C : m_Cx p R s m args meth c cells slots A0 X cc nL own) {n : Nat} {x : Int64} {ix : Nat} (hw : Cond.constantLong own ix x ∈ m_tblG) (hd : decode cc pc = .ok (.ldc2_w ix, 3)) (hn : n = pc + 3) : m_Snd p l e R s m args below meth c cells slots Qf A0 X nL q pc (s_push n (.inr (.inl x))) := by
  intro ls stk g h
  obtain ⟨-, h⟩ := h
  intro o1 o2 o3 H locs lsA hP hS hl
  subst hn
  refine lv_ldc2 (v := x) C.1 C.2.1 C.2.2.2.1 (C.2.2.2.2.1 _ hw) hd ?_
  exact h (m_okc trivial o1) o2 o3 H locs lsA hP hS hl

theorem o_ldcS (C : m_Cx p R s m args meth c cells slots A0 X cc nL own) {n : Nat} {x : Nat} {ix : Nat} {tx : String} (hZ : m_Env X A0 s s.heap → vk_R own ix tx (X.1 x) s) (hd : decode cc pc = .ok (.ldc ix, 2)) (hn : n = pc + 2) : m_Snd p l e R s m args below meth c cells slots Qf A0 X nL q pc (s_push n (.inr (.inr x))) := by
  intro ls stk g h
  obtain ⟨-, h⟩ := h
  intro o1 o2 o3 H locs lsA hP hS hl
  subst hn
  refine va_ldcS (q := X.1 x) C.1 C.2.1 C.2.2.2.1 (hZ C.2.2.2.2.2.2.1) hd ?_
  exact h (m_okc trivial o1) o2 o3 H locs lsA hP hS hl

theorem o_getstatic (C : m_Cx p R s m args meth c cells slots A0 X cc nL own) {n : Nat} {x : Nat} {ix : Nat} {n0 : String} (hw : Cond.fieldLink own ix "WhichLane" n0 "[I" ∈ m_tblG) (hZ : m_Env X A0 s s.heap → va_Z "WhichLane" n0 "[I" (.ref (X.1 x)) A0 s s.heap) (hd : decode cc pc = .ok (.getstatic ix, 3)) (hn : n = pc + 3) : m_Snd p l e R s m args below meth c cells slots Qf A0 X nL q pc (s_push n (.inr (.inr x))) := by
  intro ls stk g h
  obtain ⟨-, h⟩ := h
  intro o1 o2 o3 H locs lsA hP hS hl
  subst hn
  refine va_gets (v := .ref (X.1 x)) C.1 C.2.1 (hZ C.2.2.2.2.2.2.1) hS C.2.2.2.1 (C.2.2.2.2.1 _ hw) (fun _ z => z) hd ?_
  exact h (m_okc trivial o1) o2 o3 H locs lsA hP hS hl

theorem o_getstaticN (C : m_Cx p R s m args meth c cells slots A0 X cc nL own) {n : Nat} {x : Nat} {ix : Nat} {n0 : String} (hw : m_Env X A0 s s.heap → va_Nw (.fieldLinkNest own ix "WhichLane" n0 "[I" "WhichLane") s) (hZ : m_Env X A0 s s.heap → va_Z "WhichLane" n0 "[I" (.ref (X.1 x)) A0 s s.heap) (hd : decode cc pc = .ok (.getstatic ix, 3)) (hn : n = pc + 3) : m_Snd p l e R s m args below meth c cells slots Qf A0 X nL q pc (s_push n (.inr (.inr x))) := by
  intro ls stk g h
  obtain ⟨-, h⟩ := h
  intro o1 o2 o3 H locs lsA hP hS hl
  subst hn
  refine va_getsN (v := .ref (X.1 x)) C.1 C.2.1 (hZ C.2.2.2.2.2.2.1) hS C.2.2.2.1 (va_Nw.use rfl (hw C.2.2.2.2.2.2.1)) (fun _ z => z) hd ?_
  exact h (m_okc trivial o1) o2 o3 H locs lsA hP hS hl
end SN
