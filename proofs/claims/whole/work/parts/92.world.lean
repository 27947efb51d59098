def g_0 : m_G := fun i k =>
  if i = 7 ∨ i = 14 ∨ i = 21 ∨ i = 28 ∨ i = 35 then (if k < 8 then m_tb 402 k else 0)
  else if 44 ≤ i ∧ i ≤ 49 then (if k = 6 ∨ k = 7 ∨ k = 11 then -1 else 0)
  else if i = 39 then (if k = 5 then -1 else if k = 7 then 29 else 0)
  else if i = 68 then (if k = 5 then 30 else if k = 7 then 40 else 0) else 0
def X_1 (e0 u w : Nat → Nat) (Y : va_G × ClassId × ClassId × ClassId) : m_X := (fun i => if i < 66 then u i else if i < 91 then w (i - 66) else e0 i, Y)
theorem n_fill_g {i : Nat} (h : i = 7 ∨ i = 14 ∨ i = 21 ∨ i = 28 ∨ i = 35) : n_fill 8 = fun j => Int32.ofInt (g_0 i j) := by
  funext j
  unfold n_fill g_0
  rw [if_pos h]
  split <;> rfl
theorem n_s_g : upd (upd (fun _ => 0) 5 30) 7 40 = fun j => Int32.ofInt (g_0 68 j) := by
  funext j
  have e : g_0 68 j = (if j = 5 then 30 else if j = 7 then 40 else 0) := rfl
  rw [e]
  unfold upd
  by_cases h : j = 7
  · subst h; rfl
  · by_cases h5 : j = 5
    · subst h5; rfl
    · simp only [if_neg h, if_neg h5]; rfl
theorem n_ls_c {cL : ClassId} {f : Nat → Option Nat} {a : Nat → Nat} (h : ∀ j, j < 6 → f j = some (a j)) : vp_cell cL (6, .inr (.inr (.inr (.inr f)))) = vp_cell cL (6, .inr (.inr (.inr (.inr (fun j => some (a j)))))) := by
  rw [vp_cell_q, vp_cell_q]
  unfold arrV
  congr 1
  apply Array.ext
  · simp
  · intro j h1 h2
    simp at h1
    simp [h j h1]
set_option maxHeartbeats 4000000 in
set_option maxRecDepth 100000 in
theorem lw_world {e0 u w : Nat → Nat} {Y : va_G × ClassId × ClassId × ClassId} {H : Heap} (hP : va_P Y.1 vwCl (V_8 (e0, Y) u ++ V_9 (e0, Y) w) H) : va_P (X_1 e0 u w Y).2.1 vwCl (m_ws (X_1 e0 u w Y) g_0) H := by
  intro k q hq
  have hk : k < 91 := by
    have := (List.getElem?_eq_some_iff.mp hq).1
    simpa [m_ws] using this
  rw [m_ws_at _ _ hk] at hq
  cases hq
  match k, hk with
  | 0, _ => exact hP 0 _ rfl
  | 1, _ => exact hP 1 _ rfl
  | 2, _ => exact hP 2 _ rfl
  | 3, _ => exact hP 3 _ rfl
  | 4, _ => exact hP 4 _ rfl
  | 5, _ => exact hP 5 _ rfl
  | 6, _ => exact hP 6 _ rfl
  | 7, _ => have h := hP 7 _ rfl; rw [n_fill_g (i := 7) (by decide)] at h; exact h
  | 8, _ => exact hP 8 _ rfl
  | 9, _ => exact hP 9 _ rfl
  | 10, _ => exact hP 10 _ rfl
  | 11, _ => exact hP 11 _ rfl
  | 12, _ => exact hP 12 _ rfl
  | 13, _ => exact hP 13 _ rfl
  | 14, _ => have h := hP 14 _ rfl; rw [n_fill_g (i := 14) (by decide)] at h; exact h
  | 15, _ => exact hP 15 _ rfl
  | 16, _ => exact hP 16 _ rfl
  | 17, _ => exact hP 17 _ rfl
  | 18, _ => exact hP 18 _ rfl
  | 19, _ => exact hP 19 _ rfl
  | 20, _ => exact hP 20 _ rfl
  | 21, _ => have h := hP 21 _ rfl; rw [n_fill_g (i := 21) (by decide)] at h; exact h
  | 22, _ => exact hP 22 _ rfl
  | 23, _ => exact hP 23 _ rfl
  | 24, _ => exact hP 24 _ rfl
  | 25, _ => exact hP 25 _ rfl
  | 26, _ => exact hP 26 _ rfl
  | 27, _ => exact hP 27 _ rfl
  | 28, _ => have h := hP 28 _ rfl; rw [n_fill_g (i := 28) (by decide)] at h; exact h
  | 29, _ => exact hP 29 _ rfl
  | 30, _ => exact hP 30 _ rfl
  | 31, _ => exact hP 31 _ rfl
  | 32, _ => exact hP 32 _ rfl
  | 33, _ => exact hP 33 _ rfl
  | 34, _ => exact hP 34 _ rfl
  | 35, _ => have h := hP 35 _ rfl; rw [n_fill_g (i := 35) (by decide)] at h; exact h
  | 36, _ => exact hP 36 _ rfl
  | 37, _ => exact hP 37 _ rfl
  | 38, _ => exact hP 38 _ rfl
  | 39, _ => exact hP 39 _ rfl
  | 40, _ => exact hP 40 _ rfl
  | 41, _ => exact hP 41 _ rfl
  | 42, _ => exact hP 42 _ rfl
  | 43, _ =>
    have h := hP 43 _ rfl
    refine Eq.trans h ?_
    exact congrArg some (n_ls_c (a := fun j => (X_1 e0 u w Y).1 (44 + j)) (fun j hj => by
      match j, hj with
      | 0, _ => rfl
      | 1, _ => rfl
      | 2, _ => rfl
      | 3, _ => rfl
      | 4, _ => rfl
      | 5, _ => rfl))
  | 44, _ => exact hP 44 _ rfl
  | 45, _ => exact hP 45 _ rfl
  | 46, _ => exact hP 46 _ rfl
  | 47, _ => exact hP 47 _ rfl
  | 48, _ => exact hP 48 _ rfl
  | 49, _ => exact hP 49 _ rfl
  | 50, _ => exact hP 50 _ rfl
  | 51, _ => exact hP 51 _ rfl
  | 52, _ => exact hP 52 _ rfl
  | 53, _ => exact hP 53 _ rfl
  | 54, _ => exact hP 54 _ rfl
  | 55, _ => exact hP 55 _ rfl
  | 56, _ => exact hP 56 _ rfl
  | 57, _ => exact hP 57 _ rfl
  | 58, _ => exact hP 58 _ rfl
  | 59, _ => exact hP 59 _ rfl
  | 60, _ => exact hP 60 _ rfl
  | 61, _ => exact hP 61 _ rfl
  | 62, _ => exact hP 62 _ rfl
  | 63, _ => exact hP 63 _ rfl
  | 64, _ => exact hP 64 _ rfl
  | 65, _ => exact hP 65 _ rfl
  | 66, _ => exact hP 66 _ rfl
  | 67, _ => exact hP 67 _ rfl
  | 68, _ => have h := hP 68 _ rfl; rw [n_s_g] at h; exact h
  | 69, _ => exact hP 69 _ rfl
  | 70, _ => exact hP 70 _ rfl
  | 71, _ => exact hP 71 _ rfl
  | 72, _ => exact hP 72 _ rfl
  | 73, _ => exact hP 73 _ rfl
  | 74, _ => exact hP 74 _ rfl
  | 75, _ => exact hP 75 _ rfl
  | 76, _ => exact hP 76 _ rfl
  | 77, _ => exact hP 77 _ rfl
  | 78, _ => exact hP 78 _ rfl
  | 79, _ => exact hP 79 _ rfl
  | 80, _ => exact hP 80 _ rfl
  | 81, _ => exact hP 81 _ rfl
  | 82, _ => exact hP 82 _ rfl
  | 83, _ => exact hP 83 _ rfl
  | 84, _ => exact hP 84 _ rfl
  | 85, _ => exact hP 85 _ rfl
  | 86, _ => exact hP 86 _ rfl
  | 87, _ => exact hP 87 _ rfl
  | 88, _ => exact hP 88 _ rfl
  | 89, _ => exact hP 89 _ rfl
  | 90, _ => exact hP 90 _ rfl
  | k + 91, hk => omega
