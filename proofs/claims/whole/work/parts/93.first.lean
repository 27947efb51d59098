theorem g_0_z {i : Nat} (h : i < 7 ∨ 50 ≤ i) (h2 : i ≠ 68) (k : Nat) : g_0 i k = 0 := by
  unfold g_0
  rw [if_neg (by omega), if_neg (by omega), if_neg (by omega), if_neg h2]
theorem g_0_s (k : Nat) : g_0 68 k = (if k = 5 then 30 else if k = 7 then 40 else 0) := rfl
theorem g_0_W : h_W5 (g_0 68) := by
  refine ⟨⟨⟨by decide, by decide⟩, by decide, fun t h => ?_, fun l h => ?_, by decide⟩, fun t k h _ => ?_⟩
  · rw [g_0_s] at h; simp at h; omega
  · rw [g_0_s] at h; simp at h; omega
  · rw [g_0_s] at h; simp at h; omega
theorem g_0_I : lw_I g_0 g_0 := by
  refine ⟨⟨⟨⟨⟨rfl, rfl⟩, ⟨by decide, by decide⟩, ?_, fun t h => ?_, fun l h => ?_⟩, fun k hk => g_0_z (by omega) (by omega) _⟩, ⟨rfl, fun h => absurd rfl h⟩, ⟨rfl, fun k h => ?_⟩, ⟨rfl, fun k _ => ?_⟩, fun k _ => ?_⟩, ⟨⟨rfl, rfl, rfl⟩, ⟨rfl, rfl, rfl, rfl⟩, fun k _ => rfl⟩, ⟨g_0_W, fun k hk => ?_⟩, ⟨Or.inl rfl, fun h => absurd rfl h⟩, ⟨by decide, by decide⟩, by decide, by decide⟩
  · decide
  · rw [g_0_s] at h; simp at h; omega
  · rw [g_0_s] at h; simp at h; omega
  · rw [g_0_z (by omega) (by decide)] at h; omega
  · rw [g_0_z (by omega) (by decide), g_0_z (by omega) (by decide)]
  · rw [g_0_z (by omega) (by decide), g_0_z (by omega) (by decide)]
  · rw [g_0_s, if_neg (by omega), if_neg (by omega)]
