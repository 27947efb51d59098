-- numbers: Int against Int32
theorem m_wrap_rng (x : Int) : m_rng (m_wrap x) := by unfold m_rng; rw [m_wrap_eq]; omega
theorem m_wrap_id {x : Int} (h : m_rng x) : m_wrap x = x := by unfold m_rng at h; rw [m_wrap_eq]; omega
theorem m_toInt_rng (x : Int32) : m_rng x.toInt := by
  have h1 := Int32.le_toInt x
  have h2 := Int32.toInt_lt x
  unfold m_rng; omega
theorem m_wrap_bmod (x : Int) : m_wrap x = x.bmod (2 ^ 32) := by
  rw [m_wrap_eq, Int.bmod_def]
  have : ((2 ^ 32 : Nat) : Int) = 4294967296 := rfl
  rw [this]
  split <;> omega
theorem m_ofInt_toInt (x : Int) : (Int32.ofInt x).toInt = m_wrap x := by
  rw [m_wrap_bmod, Int32.toInt_ofInt]; try rfl
theorem m_toInt {x : Int} (h : m_rng x) : (Int32.ofInt x).toInt = x := by rw [m_ofInt_toInt, m_wrap_id h]
theorem m_of_toInt (x : Int32) : Int32.ofInt x.toInt = x := by simp
theorem m_ofInt_wrap (x : Int) : Int32.ofInt (m_wrap x) = Int32.ofInt x := by
  apply Int32.toInt_inj.mp
  rw [m_ofInt_toInt, m_ofInt_toInt, m_wrap_id (m_wrap_rng _)]
theorem m_ext {a b : Int32} (h : a.toInt = b.toInt) : a = b := Int32.toInt_inj.mp h
theorem m_add (x y : Int) : Int32.ofInt x + Int32.ofInt y = Int32.ofInt (m_wrap (x + y)) := by
  rw [m_ofInt_wrap]; simp
theorem m_sub (x y : Int) : Int32.ofInt x - Int32.ofInt y = Int32.ofInt (m_wrap (x - y)) := by
  rw [m_ofInt_wrap]; simp
theorem m_mul (x y : Int) : Int32.ofInt x * Int32.ofInt y = Int32.ofInt (m_wrap (x * y)) := by
  rw [m_ofInt_wrap]; simp
theorem m_neg (x : Int) : - Int32.ofInt x = Int32.ofInt (m_wrap (-x)) := by
  rw [m_ofInt_wrap]; simp
theorem m_div {x y : Int} (hx : m_rng x) (hy : m_rng y) : Int32.ofInt x / Int32.ofInt y = Int32.ofInt (m_wrap (x.tdiv y)) := by
  apply m_ext
  rw [m_toInt (m_wrap_rng _), Int32.toInt_div, m_toInt hx, m_toInt hy, m_wrap_bmod]
theorem m_rem {x y : Int} (hx : m_rng x) (hy : m_rng y) : Int32.ofInt x - Int32.ofInt x / Int32.ofInt y * Int32.ofInt y = Int32.ofInt (x.tmod y) := by
  rw [m_div hx hy, m_mul, m_sub]
  rw [← m_ofInt_wrap (x.tmod y)]
  congr 1
  have h := Int.tmod_def x y
  rw [h]
  simp only [m_wrap_eq]
  have e : y * x.tdiv y = x.tdiv y * y := Int.mul_comm _ _
  rw [e]
  generalize x.tdiv y = d
  have e2 : ((d + 2147483648) % 4294967296 - 2147483648) * y = d * y - 4294967296 * (((d + 2147483648) / 4294967296) * y) := by
    have := Int.emod_def (d + 2147483648) 4294967296
    rw [this, Int.sub_mul, Int.sub_mul, Int.add_mul, Int.mul_assoc]
    omega
  rw [e2]
  generalize (d + 2147483648) / 4294967296 * y = z
  generalize d * y = w
  omega
theorem m_lt {x y : Int} (hx : m_rng x) (hy : m_rng y) : Int32.ofInt x < Int32.ofInt y ↔ x < y := by
  rw [Int32.lt_iff_toInt_lt, m_toInt hx, m_toInt hy]
theorem m_le {x y : Int} (hx : m_rng x) (hy : m_rng y) : Int32.ofInt x ≤ Int32.ofInt y ↔ x ≤ y := by
  rw [Int32.le_iff_toInt_le, m_toInt hx, m_toInt hy]
theorem m_eq {x y : Int} (hx : m_rng x) (hy : m_rng y) : Int32.ofInt x = Int32.ofInt y ↔ x = y := by
  rw [← Int32.toInt_inj, m_toInt hx, m_toInt hy]
theorem m_vp {x : Int} {n : Nat} (hx : m_rng x) (h0 : 0 ≤ x) (hn : x < n) : vp_in (Int32.ofInt x) n := by
  rw [vp_in_iff, m_toInt hx]; exact ⟨h0, hn⟩
theorem m_clamp {x : Int} (hx : m_rng x) : (Int32.ofInt x).toNatClampNeg = x.toNat := by
  show (Int32.ofInt x).toInt.toNat = _
  rw [m_toInt hx]
theorem m_rng_0 : m_rng 0 := by unfold m_rng; omega
theorem m_rng_1 : m_rng 1 := by unfold m_rng; omega
theorem m_upd (f : Nat → Int) (k : Nat) (x : Int) : upd (fun j => Int32.ofInt (f j)) k (Int32.ofInt x) = fun j => Int32.ofInt (m_u f k x j) := by
  funext j
  unfold upd m_u
  split <;> rfl
theorem m_tmod_rng {x y : Int} (hx : m_rng x) : m_rng (x.tmod y) := by
  have h1 := Int.natAbs_tmod x y
  have h2 := Nat.mod_le x.natAbs y.natAbs
  unfold m_rng at *
  rcases Int.le_total 0 x with h | h
  · have h3 := Int.tmod_nonneg y h
    omega
  · have h3 := Int.tmod_nonneg y (Int.neg_nonneg_of_nonpos h)
    rw [Int.neg_tmod] at h3
    omega
-- the cells as the kit has them
def m_c (ad : Nat → Nat) : m_V → Value
  | .inl x => .int (Int32.ofInt x)
  | .inr (.inl y) => .long y
  | .inr (.inr n) => .ref (ad n)
/-- addresses, classes, array classes -/
abbrev m_X : Type := (Nat → Nat) × va_G × ClassId × ClassId × ClassId
def m_tys (X : m_X) : List (ClassId × FieldType) := [(X.2.2.1, .int), (X.2.2.2.1, .boolean), (X.2.2.2.2, .object RX3)]
def m_cell (X : m_X) (g : m_G) (i : Nat) : va_E := match m_kd i with
  | 0 => .inr (m_cls i, (List.range (m_len i)).map (fun k => m_c X.1 (m_fv i k g)))
  | 1 => .inl (X.2.2.1, m_len i, .inl (fun j => Int32.ofInt (g i j)))
  | 2 => .inl (X.2.2.2.1, m_len i, .inl (fun j => Int32.ofInt (g i j)))
  | _ => .inl (X.2.2.2.2, m_len i, .inr (.inr (.inr (.inr (fun j => some (X.1 (44 + j)))))))
def m_ws (X : m_X) (g : m_G) : va_W := (List.range 91).map (fun i => (X.1 i, m_cell X g i))
theorem m_ws_at (X : m_X) (g : m_G) {i : Nat} (h : i < 91) : (m_ws X g)[i]? = some (X.1 i, m_cell X g i) := by
  unfold m_ws
  rw [List.getElem?_map, List.getElem?_range h]
  rfl
theorem m_cell_congr (X : m_X) {g g' : m_G} {i : Nat} (h : g' i = g i) : m_cell X g' i = m_cell X g i := by
  unfold m_cell m_fv
  rw [h]
theorem m_ws_set (X : m_X) {g g' : m_G} {i : Nat} (h : ∀ j, j ≠ i → g' j = g j) {c : va_E} (hc : i < 91 → c = m_cell X g' i) : (m_ws X g).set i (X.1 i, c) = m_ws X g' := by
  apply List.ext_getElem?
  intro j
  rw [List.getElem?_set]
  by_cases hij : i = j
  · subst hij
    rw [if_pos rfl]
    by_cases hi : i < 91
    · rw [if_pos (by simpa [m_ws] using hi), m_ws_at X g' hi, hc hi]
    · rw [if_neg (by simpa [m_ws] using hi)]
      symm
      simp [m_ws] at hi ⊢
      omega
  · rw [if_neg hij]
    by_cases hj : j < 91
    · rw [m_ws_at X g hj, m_ws_at X g' hj, m_cell_congr X (h j (fun e => hij e.symm))]
    · simp only [m_ws]
      rw [List.getElem?_eq_none (by simp; omega), List.getElem?_eq_none (by simp; omega)]
def m_inj (ad : Nat → Nat) : Prop := ∀ i j : Nat, i < 91 → j < 91 → ad i = ad j → i = j
def m_A (ad : Nat → Nat) : Nat → Prop := fun q => ∃ i, i < 91 ∧ q = ad i
theorem m_ws_D (X : m_X) {A : Nat → Prop} (hi : m_inj X.1) (hA : ∀ i, i < 91 → A (X.1 i)) (g : m_G) : va_D A (m_ws X g) := by
  have hlt : ∀ {i : Nat} {p : Nat × va_E}, (m_ws X g)[i]? = some p → i < 91 ∧ p.1 = X.1 i := by
    intro i p h
    have h1 : i < 91 := by
      have := (List.getElem?_eq_some_iff.mp h).1
      simpa [m_ws] using this
    rw [m_ws_at X g h1] at h
    cases h
    exact ⟨h1, rfl⟩
  refine ⟨fun i j p q hp hq e => ?_, fun k q hq => ?_⟩
  · obtain ⟨h1, e1⟩ := hlt hp
    obtain ⟨h2, e2⟩ := hlt hq
    exact hi i j h1 h2 (by rw [← e1, ← e2, e])
  · obtain ⟨h1, e1⟩ := hlt hq
    rw [e1]
    exact hA k h1
theorem m_cell_0 (X : m_X) (g : m_G) {i ci : Nat} (h : m_ob i ci) : m_cell X g i = .inr (ci, (List.range (m_len i)).map (fun k => m_c X.1 (m_fv i k g))) := by
  unfold m_cell
  rw [h.2.1, h.2.2]
  try rfl
theorem m_cell_1 (X : m_X) (g : m_G) {i : Nat} (h : m_kd i = 1) : m_cell X g i = .inl (X.2.2.1, m_len i, .inl (fun j => Int32.ofInt (g i j))) := by
  unfold m_cell
  rw [h]
  try rfl
theorem m_cell_2 (X : m_X) (g : m_G) {i : Nat} (h : m_kd i = 2) : m_cell X g i = .inl (X.2.2.2.1, m_len i, .inl (fun j => Int32.ofInt (g i j))) := by
  unfold m_cell
  rw [h]
  try rfl
theorem m_cell_3 (X : m_X) (g : m_G) : m_cell X g 43 = .inl (X.2.2.2.2, 6, .inr (.inr (.inr (.inr (fun j => some (X.1 (44 + j))))))) := rfl
theorem m_up_ne {g : m_G} {i k : Nat} {x : Int} {j : Nat} (h : j ≠ i) : m_up g i k x j = g j := by unfold m_up; rw [if_neg h]
theorem m_up_eq {g : m_G} {i k : Nat} {x : Int} : m_up g i k x i = m_u (g i) k x := by unfold m_up; rw [if_pos rfl]
theorem m_up_InR {g : m_G} {i k : Nat} {x : Int} (h : m_InR g) (hx : m_rng x) : m_InR (m_up g i k x) := by
  intro a b
  by_cases e : a = i
  · subst e; rw [m_up_eq]; unfold m_u; split
    · exact hx
    · exact h _ _
  · rw [m_up_ne e]; exact h _ _
/-- the row of values of an object, a field put -/
theorem m_row_set (X : m_X) (g : m_G) {i k : Nat} {x : Int} {v : Value} (hv : v = m_c X.1 (m_fv i k (m_up g i k x))) (hf : m_fs i k < 2 ) :
    ((List.range (m_len i)).map (fun k => m_c X.1 (m_fv i k g))).set k v = (List.range (m_len i)).map (fun j => m_c X.1 (m_fv i j (m_up g i k x))) := by
  subst hv
  apply List.ext_getElem?
  intro j
  rw [List.getElem?_set]
  by_cases hjk : k = j
  · subst hjk
    rw [if_pos rfl]
    by_cases hk : k < m_len i
    · rw [if_pos (by simpa using hk), List.getElem?_map, List.getElem?_range hk]; rfl
    · rw [if_neg (by simpa using hk), List.getElem?_eq_none (by simp; omega)]
  · rw [if_neg hjk]
    by_cases hj : j < m_len i
    · rw [List.getElem?_map, List.getElem?_range hj, List.getElem?_map, List.getElem?_range hj]
      show some (m_c X.1 (m_fv i j g)) = some (m_c X.1 (m_fv i j (m_up g i k x)))
      have e : m_up g i k x i j = g i j := by rw [m_up_eq]; unfold m_u; rw [if_neg (fun e => hjk e.symm)]
      unfold m_fv
      rw [e]
    · rw [List.getElem?_eq_none (by simp; omega), List.getElem?_eq_none (by simp; omega)]
-- locals
def m_lv (X : m_X) (nL : Nat) (lsA : Array Slot) (ls : m_L) : Prop := lsA.size = nL ∧ ls.length = nL ∧ lv_wf lsA ∧ ∀ i v, m_gl ls i = some v → lsA[i]? = some (.val (m_c X.1 v))
/-- what lv_has is told of the locals -/
def m_as (X : m_X) : Nat → m_L → List (Nat × Value)
  | _, [] => []
  | i, some v :: l => (i, m_c X.1 v) :: m_as X (i + 1) l
  | i, none :: l => m_as X (i + 1) l
theorem m_as_in (X : m_X) : ∀ (l : m_L) (i : Nat) (q : Nat × Value), q ∈ m_as X i l → ∃ j v, q = (i + j, m_c X.1 v) ∧ m_gl l j = some v
  | [], _, _, h => by cases h
  | some w :: l, i, q, h => by
    rcases List.mem_cons.mp h with e | h
    · exact ⟨0, w, by rw [e]; rfl, rfl⟩
    · obtain ⟨j, v, e, hv⟩ := m_as_in X l (i + 1) q h
      exact ⟨j + 1, v, by rw [e]; congr 1; omega, hv⟩
  | none :: l, i, q, h => by
    obtain ⟨j, v, e, hv⟩ := m_as_in X l (i + 1) q h
    exact ⟨j + 1, v, by rw [e]; congr 1; omega, hv⟩
theorem m_as_of (X : m_X) : ∀ (l : m_L) (i j : Nat) (v : m_V), m_gl l j = some v → (i + j, m_c X.1 v) ∈ m_as X i l
  | [], _, _, _, h => by cases h
  | some w :: l, i, 0, v, h => by cases h; exact List.mem_cons_self
  | some w :: l, i, j + 1, v, h => by
    have := m_as_of X l (i + 1) j v h
    rw [show i + (j + 1) = i + 1 + j by omega]
    exact List.mem_cons_of_mem _ this
  | none :: l, i, 0, v, h => by cases h
  | none :: l, i, j + 1, v, h => by
    have := m_as_of X l (i + 1) j v h
    rw [show i + (j + 1) = i + 1 + j by omega]
    exact this
theorem m_lv_has {X : m_X} {nL : Nat} {lsA : Array Slot} {ls : m_L} (h : m_lv X nL lsA ls) : lv_has lsA nL (m_as X 0 ls) := by
  refine ⟨h.1, h.2.2.1, fun q hq => ?_⟩
  obtain ⟨j, v, e, hv⟩ := m_as_in X ls 0 q hq
  rw [e, Nat.zero_add]
  exact h.2.2.2 j v hv
theorem m_gl_set : ∀ (l : m_L) (k : Nat) (v : m_V) (j : Nat) (w : m_V), m_gl (l.set k (some v)) j = some w → (j = k ∧ w = v) ∨ (j ≠ k ∧ m_gl l j = some w)
  | [], _, _, _, _, h => by cases h
  | _ :: _, 0, v, 0, w, h => by cases h; exact Or.inl ⟨rfl, rfl⟩
  | _ :: _, 0, v, j + 1, w, h => Or.inr ⟨by omega, h⟩
  | _ :: _, k + 1, v, 0, w, h => Or.inr ⟨by omega, h⟩
  | _ :: l, k + 1, v, j + 1, w, h => by
    rcases m_gl_set l k v j w h with ⟨e, e2⟩ | ⟨e, e2⟩
    · exact Or.inl ⟨by omega, e2⟩
    · exact Or.inr ⟨by omega, e2⟩
theorem m_okst_lt : ∀ (l : m_L) (k : Nat), m_okst l k → k < l.length
  | [], _, h => False.elim h
  | _ :: _, 0, _ => by simp
  | _ :: [], 1, h => False.elim h
  | _ :: _ :: _, 1, _ => by simp
  | _ :: [], k + 2, h => False.elim h
  | _ :: b :: l, k + 2, h => by
    have := m_okst_lt (b :: l) (k + 1) h
    simp at this ⊢
    omega
theorem m_okst_nl : ∀ (l : m_L) (k : Nat), m_okst l (k + 1) → ∀ y, m_gl l k ≠ some (.inr (.inl y))
  | [], _, h => False.elim h
  | _ :: [], 0, h => False.elim h
  | a :: _ :: _, 0, h => by
    intro y e
    have e' : a = some (.inr (.inl y)) := e
    rw [e'] at h
    exact h
  | _ :: [], k + 1, h => False.elim h
  | _ :: b :: l, k + 1, h => m_okst_nl (b :: l) k h
theorem m_c_cat {ad : Nat → Nat} {v : m_V} (h : m_c1 v) : (m_c ad v).category = 1 := by
  rcases v with x | y | n
  · rfl
  · exact False.elim h
  · rfl
theorem m_c_cat2 {ad : Nat → Nat} {v : m_V} (h : (m_c ad v).category = 2) : ∃ y, v = .inr (.inl y) := by
  rcases v with x | y | n
  · cases h
  · exact ⟨y, rfl⟩
  · cases h
/-- locals behind a store -/
theorem m_lv_store {X : m_X} {nL k : Nat} {ls' : Array Slot} {ls : m_L} {v : m_V} (hlen : ls.length = nL) (hok : m_okst ls k) (h' : lv_has ls' nL ((k, m_c X.1 v) :: (m_as X 0 ls).filter (fun q => !(q.1 == k) && !(q.1 + 1 == k && q.2.category == 2)))) : m_lv X nL ls' (ls.set k (some v)) := by
  refine ⟨h'.1, by rw [List.length_set]; exact hlen, h'.2.1, fun i w hw => ?_⟩
  rcases m_gl_set ls k v i w hw with ⟨e1, e2⟩ | ⟨e1, e2⟩
  · subst e1; subst e2
    exact h'.2.2 (i, m_c X.1 w) List.mem_cons_self
  · refine h'.2.2 (i, m_c X.1 w) (List.mem_cons_of_mem _ (List.mem_filter.mpr ⟨?_, ?_⟩))
    · have := m_as_of X ls 0 i w e2
      rwa [Nat.zero_add] at this
    · simp only [Bool.and_eq_true, Bool.not_eq_true', beq_eq_false_iff_ne, Bool.and_eq_false_iff, ne_eq]
      refine ⟨e1, ?_⟩
      by_cases hk : i + 1 = k
      · right
        intro hc
        obtain ⟨y, hy⟩ := m_c_cat2 hc
        subst hk
        exact m_okst_nl ls i hok y (by rw [e2, hy])
      · exact Or.inl hk
theorem m_lv_get {X : m_X} {nL k : Nat} {lsA : Array Slot} {ls : m_L} {v : m_V} (h : m_lv X nL lsA ls) (hk : m_gl ls k = some v) : lsA[k]? = some (.val (m_c X.1 v)) := h.2.2.2 k v hk
theorem m_gl_mem : ∀ {l : m_L} {k : Nat} {v : m_V}, m_gl l k = some v → some v ∈ l
  | _ :: _, 0, v, h => by
    have h' : _ = some v := h
    rw [← h']; exact List.mem_cons_self
  | _ :: _, k + 1, v, h => List.mem_cons_of_mem _ (m_gl_mem (k := k) h)
