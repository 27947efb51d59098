set_option maxRecDepth 20000
set_option maxHeartbeats 2000000
/-! the next order by numbers, as the class makes it -/
/-- the greatest place up to i with a lesser one ahead of a greater; i counts places from the end's -/
def nx_fall (f : Nat → Nat) : Nat → Option Nat
  | 0 => none
  | i + 1 => if f (i + 1) < f i then nx_fall f i else some i
def nx_above (f : Nat → Nat) (fall : Nat) : Nat → Nat
  | 0 => 0
  | i + 1 => if fall < i + 1 ∧ f (i + 1) < f fall then nx_above f fall i else i + 1
def nx_swap (f : Nat → Nat) (i j : Nat) : Nat → Nat := fun k => if k = j then f i else if k = i then f j else f k
def nx_turn (f : Nat → Nat) (low high : Nat) : Nat → Nat → Nat
  | 0 => f
  | n + 1 => if low < high then nx_turn (nx_swap f low high) (low + 1) (high - 1) n else f
def nx (n : Nat) (f : Nat → Nat) : Option (Nat → Nat) := match nx_fall f (n - 1) with
  | none => none
  | some i => some (nx_turn (nx_swap f i (nx_above f i (n - 1))) (i + 1) (n - 1) 6)
def nx_l (n : Nat) (p : List Nat) : Option (List Nat) := (nx n (fun i => p.getD i 0)).map fun f => (List.range n).map f
def nx_ok (n : Nat) : List (List Nat) → Bool
  | [] => true
  | [p] => (nx_l n p).isNone
  | p :: q :: r => decide (nx_l n p = some q) && nx_ok n (q :: r)
theorem nx_all : ∀ n : Nat, n < 7 → nx_ok n (wo_l n n []) = true ∧ (wo_l n n []).head? = some (List.range n) ∧ (wo_l n n []).length ≤ 720 ∧ (wo_l n n []).all (fun p => p.length == n && p.all (fun x => x < n)) = true := by decide +kernel
