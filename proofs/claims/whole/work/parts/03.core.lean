/-! THE SMALL MACHINE: values are Int, Int64, or the place of a cell; a state of all cells is a function of place and slot. An instruction is what must hold for the next (go) or of the answer (post). -/
noncomputable section
abbrev m_V : Type := Int ⊕ (Int64 ⊕ Nat)
abbrev m_G : Type := Nat → Nat → Int
abbrev m_Post : Type := Option m_V → m_G → Prop
abbrev m_L : Type := List (Option m_V)
abbrev m_Go : Type := Nat → m_L → List m_V → m_G → Prop
abbrev m_Sem : Type := m_Go → m_Post → m_L → List m_V → m_G → Prop
abbrev m_K : Type := List m_V → m_G → m_Post → Prop
abbrev iV (x : Int) : m_V := .inl x
abbrev lV (x : Int64) : m_V := .inr (.inl x)
abbrev rV (n : Nat) : m_V := .inr (.inr n)
theorem m_wrap_ex (x : Int) : ∃ y : Int, y = (x + 2147483648) % 4294967296 - 2147483648 := ⟨_, rfl⟩
/-- 32 bits of a number (by choice, so that nothing unfolds it unasked) -/
def m_wrap (x : Int) : Int := Classical.choose (m_wrap_ex x)
theorem m_wrap_eq (x : Int) : m_wrap x = (x + 2147483648) % 4294967296 - 2147483648 := Classical.choose_spec (m_wrap_ex x)
def m_rng (x : Int) : Prop := -2147483648 ≤ x ∧ x ≤ 2147483647
def m_okV : m_V → Prop
  | .inl x => m_rng x
  | _ => True
def m_InR (g : m_G) : Prop := ∀ i k, m_rng (g i k)
def m_u (f : Nat → Int) (k : Nat) (x : Int) : Nat → Int := fun n => if n = k then x else f n
def m_up (g : m_G) (i k : Nat) (x : Int) : m_G := fun j => if j = i then m_u (g i) k x else g j
def m_gl : m_L → Nat → Option m_V
  | [], _ => none
  | v :: _, 0 => v
  | _ :: l, k + 1 => m_gl l k
def m_nl : Option m_V → Prop
  | some (.inr (.inl _)) => False
  | _ => True
/-- a store at k is plain: the place is there, and no long ends on it -/
def m_okst : m_L → Nat → Prop
  | [], _ => False
  | _ :: _, 0 => True
  | a :: _ :: _, 1 => m_nl a
  | _ :: l, k + 1 => m_okst l k
def m_c1 : m_V → Prop
  | .inr (.inl _) => False
  | _ => True
def m_Mono (sem : m_Sem) : Prop := ∀ (go go' : m_Go) (q q' : m_Post) (ls : m_L) (stk : List m_V) (g : m_G), (∀ a b c d, go a b c d → go' a b c d) → (∀ a b, q a b → q' a b) → sem go q ls stk g → sem go' q' ls stk g
abbrev m_S : Type := {sem : m_Sem // m_Mono sem}
def m_KMono (K : m_K) : Prop := ∀ (a : List m_V) (g : m_G) (q q' : m_Post), (∀ x y, q x y → q' x y) → K a g q → K a g q'
abbrev m_GK : Type := {K : m_K // m_KMono K}
/-- an instruction that goes on at one place -/
def m_st (f : m_L → List m_V → m_G → Option (Prop × Nat × m_L × List m_V × m_G)) : m_S := ⟨fun go _ ls stk g => match f ls stk g with | some (P, n, ls', stk', g') => P ∧ go n ls' stk' g' | none => False, by
  intro go go' q q' ls stk g h _ hs
  cases hf : f ls stk g with
  | none => rw [hf] at hs; exact hs
  | some x => rw [hf] at hs; exact ⟨hs.1, h _ _ _ _ hs.2⟩⟩
/-- shapes of the cells: kind (0 object, 1 ints, 2 booleans, 3 Lines), class, length, fields (0 int, 1 a cell by its place in the state, n + 2 always cell n) -/
def m_house (b : Nat) : List (Nat × Nat × Nat × List Nat) :=
  [(0, 2, 8, [0, 0, b + 3, b + 4, b + 5, b + 6, b + 7, b + 8]), (1, 0, 5, []), (1, 0, 5, []), (1, 0, 20, []), (1, 0, 20, []), (1, 0, 24, []), (1, 0, 8, [])]
def m_line : Nat × Nat × Nat × List Nat := (0, 3, 12, [0, 0, 0, 0, 0, 0, 0, 0, 0, 0, 0, 0])
def m_shape : List (Nat × Nat × Nat × List Nat) :=
  [(0, 8, 11, [3, 10, 38, 41, 60, 61, 64, 66, 67, 0, 0])] ++ m_house 1 ++ m_house 8 ++ m_house 15 ++ m_house 22 ++ m_house 29 ++
  [(0, 6, 6, [0, 39, 40, 17, 0, 0]), (1, 0, 64, []), (1, 0, 3, []),
   (0, 1, 11, [42, 43, 44, 45, 0, 0, 52, 1, 0, 0, 0]), (1, 0, 5, []), (1, 0, 5, []), (1, 0, 5, []), (3, 0, 6, []),
   m_line, m_line, m_line, m_line, m_line, m_line,
   (0, 0, 8, [0, 53, 54, 55, 56, 57, 58, 59]), (1, 0, 500, []), (1, 0, 500, []), (1, 0, 500, []), (1, 0, 500, []), (2, 0, 500, []), (1, 0, 5, []), (1, 0, 5, []),
   (0, 4, 1, [24]), (0, 7, 3, [62, 0, 63]), (1, 0, 6, []), (1, 0, 6, []), (0, 5, 1, [65]), (1, 0, 5, []), (1, 0, 5, []), (1, 0, 7, []),
   (0, 9, 35, [69, 70, 71, 72, 73, 0, 74, 75, 0, 0, 76, 77, 78, 79, 80, 81, 82, 83, 84, 85, 86, 87, 88, 0, 0, 0, 0, 0, 0, 89, 90, 0, 91, 92, 0]),
   (1, 0, 7, []), (1, 0, 64, []), (1, 0, 64, []), (1, 0, 64, []), (1, 0, 64, []), (1, 0, 64, []), (1, 0, 3, []), (1, 0, 360, []), (1, 0, 360, []), (1, 0, 360, []), (1, 0, 360, []), (1, 0, 6, []), (1, 0, 6, []), (1, 0, 6, []),
   (1, 0, 5, []), (1, 0, 5, []), (1, 0, 5, []), (1, 0, 5, []), (1, 0, 6, []), (1, 0, 6, []), (1, 0, 6, []), (1, 0, 6, []), (1, 0, 5, []), (1, 0, 5, [])]
theorem m_shape_len : m_shape.length = 91 := by decide +kernel
def m_kd (i : Nat) : Nat := (m_shape.getD i (9, 0, 0, [])).1
def m_cls (i : Nat) : Nat := (m_shape.getD i (9, 0, 0, [])).2.1
def m_len (i : Nat) : Nat := (m_shape.getD i (9, 0, 0, [])).2.2.1
def m_fs (i k : Nat) : Nat := (m_shape.getD i (9, 0, 0, [])).2.2.2.getD k 0
def m_fv (i k : Nat) (g : m_G) : m_V := match m_fs i k with
  | 0 => .inl (g i k)
  | 1 => .inr (.inr (g i k).toNat)
  | n + 2 => .inr (.inr n)
def m_ob (i ci : Nat) : Prop := i < 91 ∧ m_kd i = 0 ∧ m_cls i = ci
def m_ar (i n : Nat) : Prop := i < 91 ∧ m_kd i = 1 ∧ m_len i = n
def m_tb (i k : Nat) : Int := ((match i with
  | 400 => [0, 0, 0, 0, 0, 1, 0, 0]
  | 401 => [60, 20, 100, 99, 4, 60, 99, 9]
  | _ => [0, 0, 0, 30, 0, 40, 0, 0] : List Int)).getD k 0
def m_iand (x y : Int) : Int := (Int32.ofInt x &&& Int32.ofInt y).toInt
def m_ior (x y : Int) : Int := (Int32.ofInt x ||| Int32.ofInt y).toInt
def m_ixor (x y : Int) : Int := (Int32.ofInt x ^^^ Int32.ofInt y).toInt
def m_ishl (x y : Int) : Int := (Int32.ofInt x <<< (Int32.ofInt y &&& 31)).toInt
def m_ishr (x y : Int) : Int := (Int32.ofInt x >>> (Int32.ofInt y &&& 31)).toInt
def m_iushr (x y : Int) : Int := (((Int32.ofInt x).toUInt32 >>> ((Int32.ofInt y).toUInt32 &&& Int32.toUInt32 31)).toInt32).toInt
-- instructions
def s_ild (n k : Nat) : m_S := m_st fun ls stk g => match m_gl ls k with | some (.inl v) => some (True, n, ls, .inl v :: stk, g) | _ => none
def s_ald (n k : Nat) : m_S := m_st fun ls stk g => match m_gl ls k with | some (.inr (.inr v)) => some (True, n, ls, .inr (.inr v) :: stk, g) | _ => none
def s_lld (n k : Nat) : m_S := m_st fun ls stk g => match m_gl ls k with | some (.inr (.inl v)) => some (True, n, ls, .inr (.inl v) :: stk, g) | _ => none
def s_push (n : Nat) (v : m_V) : m_S := m_st fun ls stk g => some (True, n, ls, v :: stk, g)
def s_ist (n k : Nat) : m_S := m_st fun ls stk g => match stk with | .inl v :: r => some (m_okst ls k, n, ls.set k (some (.inl v)), r, g) | _ => none
def s_ast (n k : Nat) : m_S := m_st fun ls stk g => match stk with | .inr (.inr v) :: r => some (m_okst ls k, n, ls.set k (some (.inr (.inr v))), r, g) | _ => none
def s_inc (n k : Nat) (d : Int) : m_S := m_st fun ls stk g => match m_gl ls k with | some (.inl x) => some (m_okst ls k, n, ls.set k (some (.inl (m_wrap (x + d)))), stk, g) | _ => none
def s_bin (n : Nat) (f : Int → Int → Int) : m_S := m_st fun ls stk g => match stk with | .inl y :: .inl x :: r => some (True, n, ls, .inl (f x y) :: r, g) | _ => none
def s_div (n : Nat) : m_S := m_st fun ls stk g => match stk with | .inl y :: .inl x :: r => some (¬ y = 0, n, ls, .inl (m_wrap (x.tdiv y)) :: r, g) | _ => none
def s_rem (n : Nat) : m_S := m_st fun ls stk g => match stk with | .inl y :: .inl x :: r => some (¬ y = 0, n, ls, .inl (x.tmod y) :: r, g) | _ => none
def s_neg (n : Nat) : m_S := m_st fun ls stk g => match stk with | .inl x :: r => some (True, n, ls, .inl (m_wrap (-x)) :: r, g) | _ => none
def s_lshr (n : Nat) : m_S := m_st fun ls stk g => match stk with | .inl y :: .inr (.inl x) :: r => some (True, n, ls, .inr (.inl (x >>> ((Int32.ofInt y).toInt64 &&& 63))) :: r, g) | _ => none
def s_lshl (n : Nat) : m_S := m_st fun ls stk g => match stk with | .inl y :: .inr (.inl x) :: r => some (True, n, ls, .inr (.inl (x <<< ((Int32.ofInt y).toInt64 &&& 63))) :: r, g) | _ => none
def s_lbin (n : Nat) (f : Int64 → Int64 → Int64) : m_S := m_st fun ls stk g => match stk with | .inr (.inl y) :: .inr (.inl x) :: r => some (True, n, ls, .inr (.inl (f x y)) :: r, g) | _ => none
def s_l2i (n : Nat) : m_S := m_st fun ls stk g => match stk with | .inr (.inl x) :: r => some (True, n, ls, .inl x.toInt32.toInt :: r, g) | _ => none
def s_i2l (n : Nat) : m_S := m_st fun ls stk g => match stk with | .inl x :: r => some (True, n, ls, .inr (.inl (Int32.ofInt x).toInt64) :: r, g) | _ => none
def s_goto (n : Nat) : m_S := m_st fun ls stk g => some (True, n, ls, stk, g)
def s_dup (n : Nat) : m_S := m_st fun ls stk g => match stk with | v :: r => some (m_c1 v, n, ls, v :: v :: r, g) | _ => none
def s_dup2 (n : Nat) : m_S := m_st fun ls stk g => match stk with | v :: w :: r => some (m_c1 v ∧ m_c1 w, n, ls, v :: w :: v :: w :: r, g) | _ => none
def s_get (n ci k : Nat) : m_S := m_st fun ls stk g => match stk with | .inr (.inr i) :: r => some (m_ob i ci, n, ls, m_fv i k g :: r, g) | _ => none
def s_put (n ci k : Nat) : m_S := m_st fun ls stk g => match stk with | .inl x :: .inr (.inr i) :: r => some (m_ob i ci ∧ m_fs i k = 0, n, ls, r, m_up g i k x) | _ => none
def s_putz (n ci k : Nat) : m_S := m_st fun ls stk g => match stk with | .inl x :: .inr (.inr i) :: r => some (m_ob i ci ∧ m_fs i k = 0 ∧ (x = 0 ∨ x = 1), n, ls, r, m_up g i k x) | _ => none
def s_putr (n ci k : Nat) : m_S := m_st fun ls stk g => match stk with | .inr (.inr j) :: .inr (.inr i) :: r => some (m_ob i ci ∧ m_fs i k = 1 ∧ j < 91, n, ls, r, m_up g i k j) | _ => none
def s_iald (n : Nat) : m_S := m_st fun ls stk g => match stk with | .inl x :: .inr (.inr i) :: r => some ((i < 91 ∧ m_kd i = 1) ∧ 0 ≤ x ∧ x < m_len i, n, ls, .inl (g i x.toNat) :: r, g) | _ => none
def s_zald (n : Nat) : m_S := m_st fun ls stk g => match stk with | .inl x :: .inr (.inr i) :: r => some ((i < 91 ∧ m_kd i = 2) ∧ 0 ≤ x ∧ x < m_len i, n, ls, .inl (g i x.toNat) :: r, g) | _ => none
def s_iast (n : Nat) : m_S := m_st fun ls stk g => match stk with | .inl v :: .inl x :: .inr (.inr i) :: r => some ((i < 91 ∧ m_kd i = 1) ∧ 0 ≤ x ∧ x < m_len i, n, ls, r, m_up g i x.toNat v) | _ => none
def s_zast (n : Nat) : m_S := m_st fun ls stk g => match stk with | .inl v :: .inl x :: .inr (.inr i) :: r => some ((i < 91 ∧ m_kd i = 2) ∧ (0 ≤ x ∧ x < m_len i) ∧ (v = 0 ∨ v = 1), n, ls, r, m_up g i x.toNat v) | _ => none
def s_aald (n : Nat) : m_S := m_st fun ls stk g => match stk with | .inl x :: .inr (.inr i) :: r => some (i = 43 ∧ 0 ≤ x ∧ x < 6, n, ls, .inr (.inr (44 + x.toNat)) :: r, g) | _ => none
def s_tald (n : Nat) : m_S := m_st fun ls stk g => match stk with | .inl x :: .inr (.inr i) :: r => some ((i = 400 ∨ i = 401 ∨ i = 402) ∧ 0 ≤ x ∧ x < 8, n, ls, .inl (m_tb i x.toNat) :: r, g) | _ => none
def s_min (n : Nat) : m_S := m_st fun ls stk g => match stk with | .inl y :: .inl x :: r => some (r.length ≤ 4, n, ls, .inl (if y < x then y else x) :: r, g) | _ => none
def s_max (n : Nat) : m_S := m_st fun ls stk g => match stk with | .inl y :: .inl x :: r => some (r.length ≤ 4, n, ls, .inl (if x < y then y else x) :: r, g) | _ => none
/-- System.arraycopy of ints -/
def m_cp (f g : Nat → Int) (sp dp n : Nat) : Nat → Int := fun k => if dp ≤ k ∧ k < dp + n then f (sp + (k - dp)) else g k
def s_copy (n : Nat) : m_S := m_st fun ls stk g => match stk with | [.inl c, .inl dp, .inr (.inr b), .inl sp, .inr (.inr a)] => some ((a < 91 ∧ m_kd a = 1) ∧ (b < 91 ∧ m_kd b = 1) ∧ 0 ≤ sp ∧ 0 ≤ dp ∧ 0 ≤ c ∧ sp + c ≤ m_len a ∧ dp + c ≤ m_len b, n, ls, [], fun j => if j = b then m_cp (g a) (g b) sp.toNat dp.toNat c.toNat else g j) | _ => none
/-- texts: cells 200 .. 203, their bytes 210 .. 213 -/
def m_tl (i : Nat) : Int := ([0, 4, 2, 5] : List Int).getD (i - 210) 0
def m_ty (i k : Nat) : Int := (([[], [110, 44, 110, 59], [110, 59], [100, 100, 44, 110, 59]] : List (List Int)).getD (i - 210) []).getD k 0
def s_sval (n : Nat) : m_S := m_st fun ls stk g => match stk with | .inr (.inr i) :: r => some (200 ≤ i ∧ i < 204, n, ls, .inr (.inr (10 + i)) :: r, g) | _ => none
def s_scod (n : Nat) : m_S := m_st fun ls stk g => match stk with | .inr (.inr i) :: r => some (200 ≤ i ∧ i < 204, n, ls, .inl 0 :: r, g) | _ => none
def s_blen (n : Nat) : m_S := m_st fun ls stk g => match stk with | .inr (.inr i) :: r => some (210 ≤ i ∧ i < 214, n, ls, .inl (m_tl i) :: r, g) | _ => none
def s_bald (n : Nat) : m_S := m_st fun ls stk g => match stk with | .inl x :: .inr (.inr i) :: r => some ((210 ≤ i ∧ i < 214) ∧ 0 ≤ x ∧ x < m_tl i, n, ls, .inl (m_ty i x.toNat) :: r, g) | _ => none
def s_i2c (n : Nat) : m_S := m_st fun ls stk g => match stk with | .inl x :: r => some (0 ≤ x ∧ x < 65536, n, ls, .inl x :: r, g) | _ => none
/-- an index looked at: three instructions at once -/
def s_ci (n : Nat) : m_S := m_st fun ls stk g => match stk with | [.inl y, .inl x] => some (0 ≤ x ∧ x < y, n, ls, [], g) | _ => none
-- branches
def s_if (n t : Nat) (p : Int → Prop) : m_S := ⟨fun go _ ls stk g => match stk with | .inl x :: r => (p x → go t ls r g) ∧ (¬ p x → go n ls r g) | _ => False, by
  intro go go' q q' ls stk g h _ hs
  split at hs
  · exact ⟨fun c => h _ _ _ _ (hs.1 c), fun c => h _ _ _ _ (hs.2 c)⟩
  · exact hs⟩
def s_icmp (n t : Nat) (p : Int → Int → Prop) : m_S := ⟨fun go _ ls stk g => match stk with | .inl y :: .inl x :: r => (p x y → go t ls r g) ∧ (¬ p x y → go n ls r g) | _ => False, by
  intro go go' q q' ls stk g h _ hs
  split at hs
  · exact ⟨fun c => h _ _ _ _ (hs.1 c), fun c => h _ _ _ _ (hs.2 c)⟩
  · exact hs⟩
def m_sw : List (Int × Nat) → Nat → Int → (Nat → Prop) → Prop
  | [], d, _, k => k d
  | (c, t) :: cs, d, x, k => (x = c → k t) ∧ (¬ x = c → m_sw cs d x k)
theorem m_sw_mono {k k' : Nat → Prop} (h : ∀ n, k n → k' n) (d : Nat) (x : Int) : ∀ cs : List (Int × Nat), m_sw cs d x k → m_sw cs d x k'
  | [] => h d
  | (_, t) :: cs => fun hs => ⟨fun c => h t (hs.1 c), fun c => m_sw_mono h d x cs (hs.2 c)⟩
def s_sw (cs : List (Int × Nat)) (d : Nat) : m_S := ⟨fun go _ ls stk g => match stk with | .inl x :: r => m_sw cs d x (fun t => go t ls r g) | _ => False, by
  intro go go' q q' ls stk g h _ hs
  split at hs
  · exact m_sw_mono (fun n => h _ _ _ _) _ _ _ hs
  · exact hs⟩
-- calls, returns
def m_pop : Nat → List m_V → List m_V → Option (List m_V × List m_V)
  | 0, acc, stk => some (acc, stk)
  | n + 1, acc, v :: stk => m_pop n (v :: acc) stk
  | _ + 1, _, [] => none
def m_push : Option m_V → List m_V → List m_V
  | none, r => r
  | some v, r => v :: r
/-- a call on an object of class ci, k cells of the stack taken, the object's too -/
def s_callV (n k ci : Nat) (K : m_GK) : m_S := ⟨fun go _ ls stk g => match m_pop k [] stk with
  | some (.inr (.inr b) :: as, r) => (m_ob b ci ∧ r.length ≤ 4) ∧ K.1 (.inr (.inr b) :: as) g (fun x g' => go n ls (m_push x r) g')
  | _ => False, by
  intro go go' q q' ls stk g h _ hs
  split at hs
  · exact ⟨hs.1, K.2 _ _ _ _ (fun x y => h _ _ _ _) hs.2⟩
  · exact hs⟩
def s_callS (n k : Nat) (K : m_GK) : m_S := ⟨fun go _ ls stk g => match m_pop k [] stk with
  | some (as, r) => r.length ≤ 4 ∧ K.1 as g (fun x g' => go n ls (m_push x r) g')
  | _ => False, by
  intro go go' q q' ls stk g h _ hs
  split at hs
  · exact ⟨hs.1, K.2 _ _ _ _ (fun x y => h _ _ _ _) hs.2⟩
  · exact hs⟩
def s_callT (n k : Nat) (K : m_GK) : m_S := ⟨fun go _ ls stk g => match m_pop k [] stk with
  | some (.inr (.inr b) :: as, r) => ((200 ≤ b ∧ b < 204) ∧ r.length ≤ 4) ∧ K.1 (.inr (.inr b) :: as) g (fun x g' => go n ls (m_push x r) g')
  | _ => False, by
  intro go go' q q' ls stk g h _ hs
  split at hs
  · exact ⟨hs.1, K.2 _ _ _ _ (fun x y => h _ _ _ _) hs.2⟩
  · exact hs⟩
def s_retc : m_S := ⟨fun _ q _ stk g => match stk with | [.inl x] => (0 ≤ x ∧ x < 65536) ∧ q (some (.inl x)) g | _ => False, by
  intro go go' q q' ls stk g _ h hs
  split at hs
  · exact ⟨hs.1, h _ _ hs.2⟩
  · exact hs⟩
def s_retb : m_S := ⟨fun _ q _ stk g => match stk with | [.inl x] => x = 0 ∧ q (some (.inl x)) g | _ => False, by
  intro go go' q q' ls stk g _ h hs
  split at hs
  · exact ⟨hs.1, h _ _ hs.2⟩
  · exact hs⟩
def s_ret : m_S := ⟨fun _ q _ stk g => match stk with | [.inl x] => q (some (.inl x)) g | _ => False, by
  intro go go' q q' ls stk g _ h hs
  split at hs
  · exact h _ _ hs
  · exact hs⟩
def s_retz : m_S := ⟨fun _ q _ stk g => match stk with | [.inl x] => (x = 0 ∨ x = 1) ∧ q (some (.inl x)) g | _ => False, by
  intro go go' q q' ls stk g _ h hs
  split at hs
  · exact ⟨hs.1, h _ _ hs.2⟩
  · exact hs⟩
def s_reta : m_S := ⟨fun _ q _ stk g => match stk with | [.inr (.inr x)] => q (some (.inr (.inr x))) g | _ => False, by
  intro go go' q q' ls stk g _ h hs
  split at hs
  · exact h _ _ hs
  · exact hs⟩
def s_retv : m_S := ⟨fun _ q _ stk g => match stk with | [] => q none g | _ => False, by
  intro go go' q q' ls stk g _ h hs
  split at hs
  · exact h _ _ hs
  · exact hs⟩
-- code
abbrev m_C : Type := Nat → Option m_S
def m_bt (k : Nat) (l r : m_C) : m_C := fun pc => if pc < k then l pc else r pc
def m_lf (n : Nat) (x : m_S) : m_C := fun pc => if pc = n then some x else none
theorem m_bt_all {P : Nat → m_S → Prop} {k : Nat} {l r : m_C} (hl : ∀ pc x, l pc = some x → P pc x) (hr : ∀ pc x, r pc = some x → P pc x) : ∀ pc x, m_bt k l r pc = some x → P pc x := by
  intro pc x h
  unfold m_bt at h
  split at h
  · exact hl _ _ h
  · exact hr _ _ h
theorem m_lf_all {P : Nat → m_S → Prop} {n : Nat} {y : m_S} (h : P n y) : ∀ pc x, m_lf n y pc = some x → P pc x := by
  intro pc x hx
  unfold m_lf at hx
  split at hx
  · rename_i e
    cases hx
    rw [e]
    exact h
  · cases hx
def m_cl (code : m_C) (q : m_Post) (J : m_Go) : Prop := ∀ (pc : Nat) (x : m_S) (ls : m_L) (stk : List m_V) (g : m_G), code pc = some x → x.1 J q ls stk g → J pc ls stk g
def m_ini : Nat → List m_V → m_L
  | n, [] => List.replicate n none
  | n, .inr (.inl y) :: l => some (.inr (.inl y)) :: none :: m_ini (n - 2) l
  | n, v :: l => some v :: m_ini (n - 1) l
/-- what a method's code answers: the least that its steps allow -/
def m_fit : Nat → List m_V → Prop
  | _, [] => True
  | n, .inr (.inl _) :: l => 2 ≤ n ∧ m_fit (n - 2) l
  | n, _ :: l => 1 ≤ n ∧ m_fit (n - 1) l
def m_wp (nL : Nat) (code : m_C) : m_GK := ⟨fun a g q => m_fit nL a ∧ ∀ J : m_Go, m_cl code q J → J 0 (m_ini nL a) [] g, by
  intro a g q q' h hs
  refine ⟨hs.1, fun J hJ => ?_⟩
  exact hs.2 J fun pc x ls stk g hc hx => hJ pc x ls stk g hc (x.2 _ _ _ _ _ _ _ (fun _ _ _ _ z => z) h hx)⟩
/-- many steps at once; at a stop, and where the count ends, J -/
def m_run (code : m_C) (stop : Nat → Bool) (J : m_Go) (q : m_Post) : Nat → m_Go
  | 0 => J
  | n + 1 => fun pc ls stk g => match code pc with
    | some x => x.1 (fun pc' ls' stk' g' => bif stop pc' then J pc' ls' stk' g' else m_run code stop J q n pc' ls' stk' g') q ls stk g
    | none => False
def m_go (code : m_C) (stop : Nat → Bool) (J : m_Go) (q : m_Post) (n : Nat) : m_Go := fun pc ls stk g => bif stop pc then J pc ls stk g else m_run code stop J q n pc ls stk g
theorem m_run_ok {code : m_C} {q : m_Post} {J : m_Go} (hJ : m_cl code q J) (stop : Nat → Bool) : ∀ (n pc : Nat) (ls : m_L) (stk : List m_V) (g : m_G), m_run code stop J q n pc ls stk g → J pc ls stk g := by
  intro n
  induction n with
  | zero => exact fun _ _ _ _ h => h
  | succ n ih =>
    intro pc ls stk g h
    unfold m_run at h
    split at h
    · rename_i x hx
      refine hJ pc x ls stk g hx (x.2 _ _ _ _ _ _ _ (fun a b c d z => ?_) (fun _ _ z => z) h)
      revert z
      cases stop a with
      | true => exact fun z => z
      | false => exact fun z => ih _ _ _ _ z
    · exact False.elim h
end
