theorem X_1_at (e0 u w : Nat → Nat) (Y : va_G × ClassId × ClassId × ClassId) : ∀ i, i < 91 → ((V_8 (e0, Y) u ++ V_9 (e0, Y) w).map Prod.fst)[i]? = some ((X_1 e0 u w Y).1 i) := by
  intro i hi
  have e : (V_8 (e0, Y) u ++ V_9 (e0, Y) w).map Prod.fst = (List.range 66).map u ++ (List.range 25).map w := rfl
  rw [e]
  unfold X_1
  by_cases h : i < 66
  · rw [List.getElem?_append_left (by rw [List.length_map, List.length_range]; exact h), List.getElem?_map, List.getElem?_range h]
    simp only [if_pos h]
    rfl
  · rw [List.getElem?_append_right (by rw [List.length_map, List.length_range]; omega), List.length_map, List.length_range, List.getElem?_map, List.getElem?_range (by omega)]
    simp only [if_neg h, if_pos hi]
    rfl
theorem X_1_D {e0 u w : Nat → Nat} {Y : va_G × ClassId × ClassId × ClassId} {A : Nat → Prop} (hD : va_D A (V_8 (e0, Y) u ++ V_9 (e0, Y) w)) : m_inj (X_1 e0 u w Y).1 ∧ ∀ i, i < 91 → A ((X_1 e0 u w Y).1 i) := by
  have key : ∀ i, i < 91 → ∃ q, (V_8 (e0, Y) u ++ V_9 (e0, Y) w)[i]? = some q ∧ q.1 = (X_1 e0 u w Y).1 i := by
    intro i hi
    have h := X_1_at e0 u w Y i hi
    rw [List.getElem?_map, Option.map_eq_some_iff] at h
    exact h
  refine ⟨fun i j hi hj e => ?_, fun i hi => ?_⟩
  · obtain ⟨q, h1, h2⟩ := key i hi
    obtain ⟨r, h3, h4⟩ := key j hj
    exact hD.1 i j q r h1 h3 (by rw [h2, h4, e])
  · obtain ⟨q, h1, h2⟩ := key i hi
    rw [← h2]
    exact hD.2 i q h1
