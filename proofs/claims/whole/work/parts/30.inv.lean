set_option maxRecDepth 20000
set_option maxHeartbeats 2000000
/-- a car in range -/
def d_cI (s : Nat → Int) (n : Nat) (c : d_C) : Prop := (0 ≤ c.1 ∧ c.1 < s 0) ∧ (0 ≤ c.2.1 ∧ c.2.1 < 3600 ∧ c.2.1 ≤ n) ∧ (1 ≤ c.2.2.1 ∧ c.2.2.1 ≤ 99) ∧ (c.2.2.2 = 0 ∨ c.2.2.2 = 1)
theorem d_I.mono {s : Nat → Int} {n m : Nat} {σ : d_S} (h : d_I s n σ) (hm : n ≤ m) : d_I s m σ := by
  obtain ⟨h1, h2, h3⟩ := h
  refine ⟨fun l hl => ?_, h2, by omega⟩
  obtain ⟨a1, a2, a3, a4⟩ := h1 l hl
  exact ⟨a1, fun c hc => by obtain ⟨b1, b2, b3⟩ := a2 c hc; exact ⟨b1, by omega, b3⟩, by omega, a4⟩
/-- the same lanes, other numbers -/
theorem d_I.num {s : Nat → Int} {n : Nat} {σ : d_S} (h : d_I s n σ) {F : m_G} (h0 : F 0 = σ.2 0) (h1 : F 1 = σ.2 1) (h2 : F 2 = σ.2 2) (h3 : 0 ≤ F 8 1 ∧ F 8 1 < 100) (h4 : -9 ≤ F 8 2 ∧ F 8 2 ≤ n) : d_I s n (σ.1, F) := by
  refine ⟨fun l hl => ?_, h3, h4⟩
  simp only
  rw [h0, h1, h2]
  exact h.1 l hl
theorem d_I.cnt {s : Nat → Int} {n : Nat} {σ : d_S} (hW : h_W s) (h : d_I s n σ) : d_I s n (d_cnt s σ) := by
  have w := hW.2.1
  have hm : 0 ≤ d_more s ∧ d_more s ≤ 100 := by unfold d_more; split <;> omega
  have h2 := h.2
  refine h.num (m_up_ne (by decide)) (m_up_ne (by decide)) (m_up_ne (by decide)) ?_ ?_
  · rw [m_up_eq, m_us]; split <;> omega
  · rw [m_up_eq, m_un (by decide)]; exact h2.2
theorem d_I.stand {s : Nat → Int} {n : Nat} {σ : d_S} (h : d_I s n σ) {l : Nat} (hl : (l : Int) < s 1) (hlen : ((σ.1 l).length : Int) < s 7) {t came need stray : Int} (hc : d_cI s n (t, came, need, stray)) : d_I s n (d_stand l t came need stray σ) := by
  have h2 := h.2
  unfold d_stand
  refine ⟨fun a ha => ?_, ?_, ?_⟩
  · simp only
    rw [m_up_ne (show (0 : Nat) ≠ 7 by decide), m_up_ne (show (1 : Nat) ≠ 7 by decide), m_up_ne (show (2 : Nat) ≠ 7 by decide)]
    obtain ⟨⟨a1, a2⟩, a3, a4⟩ := h.1 a ha
    by_cases e : a = l
    · subst e
      unfold d_uq
      rw [if_pos rfl]
      refine ⟨⟨by rw [List.length_append]; simp; omega, fun z => absurd z (by omega)⟩, fun c hcm => ?_, a4⟩
      rcases List.mem_append.mp hcm with hcm | hcm
      · exact a3 c hcm
      · rw [List.mem_singleton.mp hcm]; exact hc
    · unfold d_uq
      rw [if_neg e]
      exact ⟨⟨a1, a2⟩, a3, a4⟩
  · simp only; rw [m_up_ne (show (8 : Nat) ≠ 7 by decide)]; exact h2.1
  · simp only; rw [m_up_ne (show (8 : Nat) ≠ 7 by decide)]; exact h2.2
theorem d_ch_open (s : Nat → Int) (σ : d_S) (t : Int) (now : Nat) : ∀ n : Nat, (d_ch s σ t now n).1 < 0 ∨ (0 ≤ (d_ch s σ t now n).1 ∧ (d_ch s σ t now n).1 < (n : Int) ∧ d_open s σ (d_ch s σ t now n).1.toNat t now)
  | 0 => Or.inl (by simp [d_ch])
  | n + 1 => by
    simp only [d_ch]
    split
    · rename_i h
      refine Or.inr ⟨by simp only; omega, by simp only; omega, ?_⟩
      simp only [Int.toNat_natCast]
      exact h.1
    · rcases d_ch_open s σ t now n with h | ⟨h1, h2, h3⟩
      · exact Or.inl h
      · exact Or.inr ⟨h1, by omega, h3⟩
theorem d_I.one {s : Nat → Int} {n : Nat} {σ : d_S} (hW : h_W s) (h : d_I s n σ) {t now : Nat} {need : Int} (ht : (t : Int) < s 0) (hnow : now < 3600) (hnn : now ≤ n) (hneed : 1 ≤ need ∧ need ≤ 99) : d_I s n (d_one s t now need σ) := by
  have hc := h.cnt hW
  have hz := hW.1.2
  unfold d_one
  have ho := d_ch_open s (d_cnt s σ) t now (s 1).toNat
  generalize (d_ch s (d_cnt s σ) (↑t) now (s 1).toNat).1 = b at ho ⊢
  generalize d_cnt s σ = σ1 at hc ho ⊢
  have h2 := hc.2
  have car : ∀ x : Int, x = 0 ∨ x = 1 → d_cI s n ((t : Int), (now : Int), need, x) := fun x hx => ⟨⟨by simp only; omega, ht⟩, ⟨by simp only; omega, by simp only; omega, by simp only; omega⟩, hneed, hx⟩
  unfold d_put
  by_cases e : b < 0
  · rw [if_pos e]
    refine hc.num (m_up_ne (by decide)) (m_up_ne (by decide)) (m_up_ne (by decide)) ?_ ?_
    · rw [m_up_ne (by decide)]; exact h2.1
    · rw [m_up_ne (by decide)]; exact h2.2
  · rw [if_neg e]
    rcases ho with ho | ⟨o1, o2, o3⟩
    · exact absurd ho e
    have hmod : 0 ≤ (b + 1) % s 1 ∧ (b + 1) % s 1 < s 1 := ⟨Int.emod_nonneg _ (by omega), Int.emod_lt_of_pos _ (by omega)⟩
    split
    · rename_i hh
      have hc' : d_I s n (σ1.1, m_up σ1.2 8 0 (m_wrap (σ1.2 8 0 + 1))) := by
        refine hc.num (m_up_ne (by decide)) (m_up_ne (by decide)) (m_up_ne (by decide)) ?_ ?_
        · rw [m_up_eq, m_un (by decide)]; exact h2.1
        · rw [m_up_eq, m_un (by decide)]; exact h2.2
      exact hc'.stand (by omega) hh.2.2 (car 1 (Or.inr rfl))
    · exact hc.stand (by omega) o3.2.1 (car 0 (Or.inl rfl))
theorem d_at_lt {s : Nat → Int} {t now : Nat} (h : d_at s t now = true) : now < 3600 := by
  unfold d_at at h
  simp only [Bool.and_eq_true, decide_eq_true_eq] at h
  exact h.1
theorem d_I.come {s : Nat → Int} {nd : Nat → Nat → Int} {n now : Nat} (hW : h_W s) (hN : d_nd s nd) (hnn : now ≤ n) : ∀ (T : Nat) {σ : d_S}, (T : Int) ≤ s 0 → d_I s n σ → d_I s n (d_come s nd now T σ)
  | 0, σ, _, h => h
  | T + 1, σ, hT, h => by
    have ih := d_I.come hW hN hnn T (by omega) h
    simp only [d_come]
    split
    · rename_i ha
      have hl := d_at_lt ha
      exact ih.one hW (by omega) hl hnn (hN T _ (by omega) (by omega))
    · exact ih
theorem d_I.leave {s : Nat → Int} {n l now : Nat} {σ : d_S} (h : d_I s n σ) (hnn : now ≤ n) : d_I s n (d_leave l now σ) := by
  unfold d_leave
  split
  · exact h
  · rename_i c r hq
    have h2 := h.2
    refine ⟨fun a ha => ?_, ?_, ?_⟩
    · simp only
      obtain ⟨⟨a1, a2⟩, a3, a4, a5, a6⟩ := h.1 a ha
      rw [m_up_eq, m_up_ne (show (0 : Nat) ≠ 8 by decide), m_up_ne (show (0 : Nat) ≠ 3 by decide), m_up_ne (show (0 : Nat) ≠ 5 by decide), m_up_ne (show (0 : Nat) ≠ 4 by decide)]
      rw [m_up_ne (show (1 : Nat) ≠ 0 by decide), m_up_ne (show (1 : Nat) ≠ 8 by decide), m_up_ne (show (1 : Nat) ≠ 3 by decide), m_up_ne (show (1 : Nat) ≠ 5 by decide), m_up_ne (show (1 : Nat) ≠ 4 by decide)]
      rw [m_up_ne (show (2 : Nat) ≠ 0 by decide), m_up_ne (show (2 : Nat) ≠ 8 by decide), m_up_ne (show (2 : Nat) ≠ 3 by decide), m_up_ne (show (2 : Nat) ≠ 5 by decide), m_up_ne (show (2 : Nat) ≠ 4 by decide)]
      by_cases e : a = l
      · subst e
        unfold d_uq
        rw [if_pos rfl, m_us]
        rw [hq] at a1 a2 a3
        simp only [List.length_cons] at a1
        refine ⟨⟨by omega, fun z => ?_⟩, fun x hx => a3 x (List.mem_cons_of_mem _ hx), by omega, a5, a6⟩
        have := a2 z
        cases this
      · unfold d_uq
        rw [if_neg e, m_un e]
        exact ⟨⟨a1, a2⟩, a3, a4, a5, a6⟩
    · simp only
      rw [m_up_ne (show (8 : Nat) ≠ 0 by decide), m_up_eq, m_un (by decide), m_up_ne (show (8 : Nat) ≠ 3 by decide), m_up_ne (show (8 : Nat) ≠ 5 by decide), m_up_ne (show (8 : Nat) ≠ 4 by decide)]; exact h2.1
    · simp only
      rw [m_up_ne (show (8 : Nat) ≠ 0 by decide), m_up_eq, m_us]; omega
theorem d_time_b {s : Nat → Int} {n l now : Nat} {c : d_C} {σ : d_S} (hW : h_W s) (hc : d_cI s n c) : 1 ≤ d_time s l now c σ ∧ d_time s l now c σ ≤ 260 := by
  have w := hW.2.1
  have h := hc.2.2.1
  unfold d_time
  split <;> split <;> omega
theorem d_I.serve {s : Nat → Int} {n l now : Nat} {σ : d_S} (hW : h_W s) (h : d_I s n σ) (hl : l < 6) (hnn : now ≤ n) : d_I s n (d_serve s l now σ) := by
  unfold d_serve
  split
  · exact h
  · rename_i c r hq
    have h2 := h.2
    have hc : d_cI s n c := (h.1 l hl).2.1 c (by rw [hq]; exact List.mem_cons_self)
    have ht := d_time_b (l := l) (now := now) (σ := σ) hW hc
    refine ⟨fun a ha => ?_, ?_, ?_⟩
    · simp only
      obtain ⟨a1, a3, a4, a5, a6⟩ := h.1 a ha
      rw [m_up_ne (show (0 : Nat) ≠ 1 by decide), m_up_eq, m_up_ne (show (0 : Nat) ≠ 4 by decide)]
      rw [m_up_eq, m_up_ne (show (1 : Nat) ≠ 0 by decide), m_up_ne (show (1 : Nat) ≠ 4 by decide)]
      rw [m_up_ne (show (2 : Nat) ≠ 1 by decide), m_up_ne (show (2 : Nat) ≠ 0 by decide), m_up_ne (show (2 : Nat) ≠ 4 by decide)]
      refine ⟨a1, a3, ?_, ?_, a6⟩
      · by_cases e : a = l
        · subst e; rw [m_us]; omega
        · rw [m_un e]; exact a4
      · by_cases e : a = l
        · subst e; rw [m_us]; have := hc.1; omega
        · rw [m_un e]; exact a5
    · simp only
      rw [m_up_ne (show (8 : Nat) ≠ 1 by decide), m_up_ne (show (8 : Nat) ≠ 0 by decide), m_up_ne (show (8 : Nat) ≠ 4 by decide)]; exact h2.1
    · simp only
      rw [m_up_ne (show (8 : Nat) ≠ 1 by decide), m_up_ne (show (8 : Nat) ≠ 0 by decide), m_up_ne (show (8 : Nat) ≠ 4 by decide)]; exact h2.2
theorem d_I.lg {s : Nat → Int} {n l : Nat} {σ : d_S} (hW : h_W s) (h : d_I s n σ) (hl : l < 6) : d_I s n (d_lg l σ) := by
  have h2 := h.2
  have w7 := hW.2.1.2.2.2.2.2.1.2
  unfold d_lg
  refine ⟨fun a ha => ?_, ?_, ?_⟩
  · simp only
    obtain ⟨a1, a3, a4, a5, a6⟩ := h.1 a ha
    rw [m_up_ne (show (0 : Nat) ≠ 2 by decide), m_up_ne (show (1 : Nat) ≠ 2 by decide), m_up_eq]
    refine ⟨a1, a3, a4, a5, ?_⟩
    by_cases e : a = l
    · subst e; rw [m_us]; split <;> omega
    · rw [m_un e]; exact a6
  · simp only; rw [m_up_ne (show (8 : Nat) ≠ 2 by decide)]; exact h2.1
  · simp only; rw [m_up_ne (show (8 : Nat) ≠ 2 by decide)]; exact h2.2
theorem d_I.lv {s : Nat → Int} {n l now : Nat} {σ : d_S} (h : d_I s n σ) (hnn : now ≤ n) : d_I s n (d_lv s l now σ) := by
  unfold d_lv
  split
  · exact h.leave hnn
  · exact h
theorem d_I.sv {s : Nat → Int} {n l now : Nat} {σ : d_S} (hW : h_W s) (h : d_I s n σ) (hl : l < 6) (hnn : now ≤ n) : d_I s n (d_sv s l now σ) := by
  unfold d_sv
  split
  · exact h.serve hW hl hnn
  · exact h
theorem d_I.lane {s : Nat → Int} {n l now : Nat} {σ : d_S} (hW : h_W s) (h : d_I s n σ) (hl : l < 6) (hnn : now ≤ n) : d_I s n (d_lane s l now σ) := ((h.lv hnn).sv hW hl hnn).lg hW hl
theorem d_I.lanes {s : Nat → Int} {n now : Nat} (hW : h_W s) (hnn : now ≤ n) : ∀ (L : Nat) {σ : d_S}, L ≤ 6 → d_I s n σ → d_I s n (d_lanes s now L σ)
  | 0, σ, _, h => h
  | L + 1, σ, hL, h => (d_I.lanes hW hnn L (by omega) h).lane hW (by omega) hnn
theorem d_I.sec {s : Nat → Int} {nd : Nat → Nat → Int} {n now : Nat} {σ : d_S} (hW : h_W s) (hN : d_nd s nd) (hnn : now ≤ n) (h : d_I s n σ) : d_I s n (d_sec s nd now σ) := by
  have hz := hW.1
  exact d_I.lanes hW hnn _ (by omega) (d_I.come hW hN hnn _ (by omega) h)
theorem d_I.run {s : Nat → Int} {nd : Nat → Nat → Int} (hW : h_W s) (hN : d_nd s nd) : ∀ n : Nat, d_I s n (d_run s nd n)
  | 0 => by
    have w7 := hW.2.1.2.2.2.2.2.1
    have w0 := hW.1
    refine ⟨fun l hl => ⟨⟨?_, fun _ => rfl⟩, (fun c hc => by cases hc), ?_, ?_, ?_⟩, ?_, ?_⟩
    · show ((0 : Nat) : Int) ≤ s 7; omega
    · show (-9 : Int) ≤ -9 ∧ (-9 : Int) ≤ ((0 : Nat) : Int) + 300; omega
    · show (-9 : Int) ≤ -9 ∧ (-9 : Int) < s 0; omega
    · show (0 : Int) ≤ 0 ∧ (0 : Int) ≤ 60; omega
    · show (0 : Int) ≤ 0 ∧ (0 : Int) < 100; omega
    · show (-9 : Int) ≤ -9 ∧ (-9 : Int) ≤ ((0 : Nat) : Int); omega
  | n + 1 => (d_I.sec hW hN (Nat.le_refl n) (d_I.run hW hN n)).mono (by omega)
