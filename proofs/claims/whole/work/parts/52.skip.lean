set_option maxRecDepth 20000
set_option maxHeartbeats 2000000
/-- one who is being served stands there -/
def d_J (σ : d_S) : Prop := ∀ l, l < 6 → 0 ≤ σ.2 0 l → σ.1 l ≠ []
/-- behind a second: who stands first is being served, the longest is known -/
def d_Jf (L : Nat) (σ : d_S) : Prop := ∀ l, l < L → (σ.1 l ≠ [] → 0 ≤ σ.2 0 l) ∧ ((σ.1 l).length : Int) ≤ σ.2 2 l
theorem d_J.of {σ σ' : d_S} (h : d_J σ) (h0 : ∀ l, l < 6 → 0 ≤ σ'.2 0 l → 0 ≤ σ.2 0 l) (h1 : ∀ l, l < 6 → σ.1 l ≠ [] → σ'.1 l ≠ []) : d_J σ' := fun l hl h2 => h1 l hl (h l hl (h0 l hl h2))
theorem d_J.stand {σ : d_S} (h : d_J σ) (l : Nat) (t came need stray : Int) : d_J (d_stand l t came need stray σ) := by
  refine h.of (fun a ha z => ?_) (fun a ha z => ?_)
  · unfold d_stand at z
    simp only at z
    rwa [m_up_ne (by decide)] at z
  · unfold d_stand d_uq
    simp only
    split
    · rename_i e; subst e; simp
    · exact z
theorem d_J.cnt {s : Nat → Int} {σ : d_S} (h : d_J σ) : d_J (d_cnt s σ) := by
  refine h.of (fun a ha z => ?_) (fun a ha z => z)
  unfold d_cnt at z
  simp only at z
  rwa [m_up_ne (by decide)] at z
theorem d_J.one {s : Nat → Int} {t : Int} {now : Nat} {need : Int} {σ : d_S} (h : d_J σ) : d_J (d_one s t now need σ) := by
  unfold d_one d_put
  have hc := h.cnt (s := s)
  generalize d_cnt s σ = σ1 at hc ⊢
  generalize (d_ch s σ1 t now (s 1).toNat).1 = b
  split
  · refine hc.of (fun a ha z => ?_) (fun a ha z => z)
    simp only at z
    rwa [m_up_ne (by decide)] at z
  · split
    · have hc' : d_J (σ1.1, m_up σ1.2 8 0 (m_wrap (σ1.2 8 0 + 1))) := by
        refine hc.of (fun a ha z => ?_) (fun a ha z => z)
        simp only at z
        rwa [m_up_ne (by decide)] at z
      exact hc'.stand _ _ _ _ _
    · exact hc.stand _ _ _ _ _
theorem d_J.come {s : Nat → Int} {nd : Nat → Nat → Int} {now : Nat} : ∀ (T : Nat) {σ : d_S}, d_J σ → d_J (d_come s nd now T σ)
  | 0, σ, h => h
  | T + 1, σ, h => by
    have ih := d_J.come (s := s) (nd := nd) (now := now) T h
    simp only [d_come]
    split
    · exact ih.one
    · exact ih
theorem d_leave_0 {l now : Nat} {σ : d_S} (hq : σ.1 l ≠ []) : ∀ a, (d_leave l now σ).2 0 a = if a = l then -9 else σ.2 0 a := by
  intro a
  unfold d_leave
  split
  · rename_i e; exact absurd e hq
  · simp only [m_upv]; simp
theorem d_leave_Q {l now : Nat} {σ : d_S} : ∀ a, (d_leave l now σ).1 a = if a = l then (σ.1 a).tail else σ.1 a := by
  intro a
  unfold d_leave
  split
  · rename_i e
    by_cases h : a = l
    · subst h; simp [e]
    · rw [if_neg h]
  · rename_i c r e
    unfold d_uq
    simp only
    by_cases h : a = l
    · subst h; simp [e]
    · rw [if_neg h, if_neg h]
theorem d_leave_2 {l now : Nat} {σ : d_S} : ∀ a, (d_leave l now σ).2 2 a = σ.2 2 a := by
  intro a
  unfold d_leave
  split
  · rfl
  · simp only [m_upv]; simp
theorem d_J.lv {s : Nat → Int} {l now : Nat} {σ : d_S} (h : d_J σ) : d_J (d_lv s l now σ) := by
  unfold d_lv
  split
  · rename_i hd
    intro a ha z
    rw [d_leave_0 hd.1.1] at z
    rw [d_leave_Q]
    by_cases e : a = l
    · rw [if_pos e] at z; omega
    · rw [if_neg e] at z ⊢; exact h a ha z
  · exact h
theorem d_serve_Q {s : Nat → Int} {l now : Nat} {σ : d_S} : (d_serve s l now σ).1 = σ.1 := by unfold d_serve; split <;> rfl
theorem d_serve_0 {s : Nat → Int} {l now : Nat} {σ : d_S} : ∀ a, a ≠ l → (d_serve s l now σ).2 0 a = σ.2 0 a := by
  intro a ha
  unfold d_serve
  split
  · rfl
  · simp only [m_upv]; simp [ha]
theorem d_serve_2 {s : Nat → Int} {l now : Nat} {σ : d_S} : ∀ a, (d_serve s l now σ).2 2 a = σ.2 2 a := by
  intro a
  unfold d_serve
  split
  · rfl
  · simp only [m_upv]; simp
theorem d_serve_l {s : Nat → Int} {l now n : Nat} {σ : d_S} (hW : h_W s) (hI : d_I s n σ) (hl : l < 6) (hq : σ.1 l ≠ []) : 0 ≤ (d_serve s l now σ).2 0 l := by
  unfold d_serve
  split
  · rename_i e; exact absurd e hq
  · rename_i c r e
    have hc : d_cI s n c := (hI.1 l hl).2.1 c (by rw [e]; exact List.mem_cons_self)
    have ht := d_time_b (l := l) (now := now) (σ := σ) hW hc
    simp only [m_upv]
    simp
    omega
theorem d_J.sv {s : Nat → Int} {l now : Nat} {σ : d_S} (h : d_J σ) : d_J (d_sv s l now σ) := by
  unfold d_sv
  split
  · rename_i hd
    intro a ha z
    rw [d_serve_Q]
    by_cases e : a = l
    · rw [e]; exact hd.1
    · rw [d_serve_0 a e] at z; exact h a ha z
  · exact h
theorem d_J.lg {l : Nat} {σ : d_S} (h : d_J σ) : d_J (d_lg l σ) := by
  refine h.of (fun a ha z => ?_) (fun a ha z => z)
  unfold d_lg at z
  simp only at z
  rwa [m_up_ne (by decide)] at z
theorem d_J.lanes {s : Nat → Int} {now : Nat} : ∀ (L : Nat) {σ : d_S}, d_J σ → d_J (d_lanes s now L σ)
  | 0, _, h => h
  | L + 1, _, h => ((d_J.lanes L h).lv.sv).lg
theorem d_J.sec {s : Nat → Int} {nd : Nat → Nat → Int} {now : Nat} {σ : d_S} (h : d_J σ) : d_J (d_sec s nd now σ) := d_J.lanes _ (d_J.come _ h)
theorem d_J.run {s : Nat → Int} {nd : Nat → Nat → Int} : ∀ n : Nat, d_J (d_run s nd n)
  | 0 => fun l _ h => absurd h (by show ¬ (0 : Int) ≤ -9; decide)
  | n + 1 => (d_J.run n).sec
/-- a lane's step, on other lanes -/
theorem d_lane_o {s : Nat → Int} {l now a : Nat} {σ : d_S} (ha : a ≠ l) : (d_lane s l now σ).1 a = σ.1 a ∧ (d_lane s l now σ).2 0 a = σ.2 0 a ∧ (d_lane s l now σ).2 2 a = σ.2 2 a := by
  have h1 : (d_lv s l now σ).1 a = σ.1 a ∧ (d_lv s l now σ).2 0 a = σ.2 0 a ∧ (d_lv s l now σ).2 2 a = σ.2 2 a := by
    unfold d_lv
    split
    · rename_i hd
      rw [d_leave_Q, d_leave_0 hd.1.1, d_leave_2, if_neg ha, if_neg ha]
      exact ⟨rfl, rfl, rfl⟩
    · exact ⟨rfl, rfl, rfl⟩
  unfold d_lane
  generalize d_lv s l now σ = σ1 at h1 ⊢
  have h2 : (d_sv s l now σ1).1 a = σ1.1 a ∧ (d_sv s l now σ1).2 0 a = σ1.2 0 a ∧ (d_sv s l now σ1).2 2 a = σ1.2 2 a := by
    unfold d_sv
    split
    · rw [d_serve_Q, d_serve_0 a ha, d_serve_2]; exact ⟨rfl, rfl, rfl⟩
    · exact ⟨rfl, rfl, rfl⟩
  generalize d_sv s l now σ1 = σ2 at h2 ⊢
  unfold d_lg
  simp only
  rw [m_up_ne (by decide), m_up_eq, m_un ha]
  exact ⟨h2.1.trans h1.1, h2.2.1.trans h1.2.1, h2.2.2.trans h1.2.2⟩
theorem d_lane_s {s : Nat → Int} {l now n : Nat} {σ : d_S} (hW : h_W s) (hI : d_I s n σ) (hnn : now ≤ n) (hl : l < 6) : ((d_lane s l now σ).1 l ≠ [] → 0 ≤ (d_lane s l now σ).2 0 l) ∧ (((d_lane s l now σ).1 l).length : Int) ≤ (d_lane s l now σ).2 2 l := by
  unfold d_lane
  have hI1 : d_I s n (d_lv s l now σ) := hI.lv hnn
  generalize d_lv s l now σ = σ1 at hI1 ⊢
  have h2 : (d_sv s l now σ1).1 l ≠ [] → 0 ≤ (d_sv s l now σ1).2 0 l := by
    unfold d_sv
    split
    · rename_i hd; exact fun _ => d_serve_l hW hI1 hl hd.1
    · rename_i hd; exact fun z => by
        by_cases c : σ1.2 0 l < 0
        · exact absurd ⟨z, c⟩ hd
        · omega
  generalize d_sv s l now σ1 = σ2 at h2 ⊢
  unfold d_lg
  simp only
  rw [m_up_ne (by decide), m_up_eq, m_us]
  refine ⟨h2, ?_⟩
  split <;> omega
theorem d_Jf.lanes {s : Nat → Int} {now n : Nat} (hW : h_W s) (hnn : now ≤ n) : ∀ (L : Nat) {σ : d_S}, L ≤ 6 → d_I s n σ → d_Jf L (d_lanes s now L σ)
  | 0, _, _, _ => fun l hl => absurd hl (by omega)
  | L + 1, σ, hL, hI => by
    have ih := d_Jf.lanes hW hnn L (by omega) hI
    have hI1 := d_I.lanes hW hnn L (by omega) hI
    simp only [d_lanes]
    intro l hl
    by_cases e : l = L
    · subst e; exact d_lane_s hW hI1 hnn (by omega)
    · obtain ⟨e1, e2, e3⟩ := d_lane_o (s := s) (now := now) (σ := d_lanes s now L σ) e
      rw [e1, e2, e3]
      exact ih l (by omega)
theorem d_Jf.sec {s : Nat → Int} {nd : Nat → Nat → Int} {now n : Nat} {σ : d_S} (hW : h_W s) (hN : d_nd s nd) (hnn : now ≤ n) (h : d_I s n σ) : d_Jf (s 1).toNat (d_sec s nd now σ) := by
  have hz := hW.1
  exact d_Jf.lanes hW hnn _ (by omega) (d_I.come hW hN hnn _ (by omega) h)
theorem d_Jf.run {s : Nat → Int} {nd : Nat → Nat → Int} (hW : h_W s) (hN : d_nd s nd) : ∀ n : Nat, d_Jf (s 1).toNat (d_run s nd n)
  | 0 => fun l hl => ⟨fun z => absurd rfl z, by show ((0 : Nat) : Int) ≤ 0; omega⟩
  | n + 1 => d_Jf.sec hW hN (Nat.le_refl n) (d_I.run hW hN n)
/-- nothing happens at a second -/
def d_quiet (s : Nat → Int) (now : Nat) (σ : d_S) : Prop := (∀ t : Nat, (t : Int) < s 0 → d_at s t now = false) ∧ ∀ l : Nat, (l : Int) < s 1 → ¬ d_due s l now σ
theorem m_up_self {g : m_G} {i k : Nat} {x : Int} (h : x = g i k) : m_up g i k x = g := by
  funext j n
  rw [m_upv]
  split
  · rename_i e; rw [h, e.1, e.2]
  · rfl
theorem d_come_q {s : Nat → Int} {nd : Nat → Nat → Int} {now : Nat} {σ : d_S} (h : ∀ t : Nat, (t : Int) < s 0 → d_at s t now = false) : ∀ T : Nat, (T : Int) ≤ s 0 → d_come s nd now T σ = σ
  | 0, _ => rfl
  | T + 1, hT => by
    simp only [d_come]
    rw [h T (by omega), if_neg (by decide)]
    exact d_come_q h T (by omega)
theorem d_lanes_q {s : Nat → Int} {now : Nat} {σ : d_S} {M : Nat} (hJ : d_Jf M σ) (h : ∀ l : Nat, l < M → ¬ d_due s l now σ) : ∀ L : Nat, L ≤ M → d_lanes s now L σ = σ
  | 0, _ => rfl
  | L + 1, hL => by
    simp only [d_lanes]
    rw [d_lanes_q hJ h L (by omega)]
    have hj := hJ L (by omega)
    unfold d_lane d_lv
    rw [if_neg (h L (by omega))]
    unfold d_sv
    rw [if_neg (fun z => by have := hj.1 z.1; omega)]
    unfold d_lg
    rw [m_up_self (by rw [if_neg (by omega)])]
theorem d_sec_q {s : Nat → Int} {nd : Nat → Nat → Int} {now : Nat} {σ : d_S} (hW : h_W s) (hJ : d_Jf (s 1).toNat σ) (h : d_quiet s now σ) : d_sec s nd now σ = σ := by
  have hz := hW.1
  unfold d_sec
  rw [d_come_q h.1 _ (by omega)]
  exact d_lanes_q hJ (fun l hl => h.2 l (by omega)) _ (Nat.le_refl _)
theorem d_run_q {s : Nat → Int} {nd : Nat → Nat → Int} (hW : h_W s) (hN : d_nd s nd) {n : Nat} : ∀ k : Nat, (∀ x, n ≤ x → x < n + k → d_quiet s x (d_run s nd n)) → d_run s nd (n + k) = d_run s nd n
  | 0, _ => rfl
  | k + 1, h => by
    have ih := d_run_q hW hN k (fun x h1 h2 => h x h1 (by omega))
    show d_sec s nd (n + k) (d_run s nd (n + k)) = _
    rw [ih]
    exact d_sec_q hW (d_Jf.run hW hN n) (h (n + k) (by omega) (by omega))
/-- places: five a second -/
theorem c_N_T {s : Nat → Int} {now T : Nat} : ∀ M : Nat, M ≤ 5 → T < 5 → c_n s (5 * now + T + 1) M = c_n s (5 * now + T) M + (if T < M ∧ d_at s T now = true then 1 else 0)
  | 0, _, _ => by simp [c_n]
  | M + 1, hM, hT => by
    have ih := c_N_T (s := s) (now := now) (T := T) M (by omega) hT
    simp only [c_n]
    rw [ih]
    by_cases e : T = M
    · subst e
      rw [show (5 * now + T + 1 + 4 - T) / 5 = now + 1 by omega, show (5 * now + T + 4 - T) / 5 = now by omega, d_arr_S, if_neg (fun z => absurd z.1 (by omega))]
      by_cases c : d_at s T now = true
      · rw [if_pos c, if_pos ⟨by omega, c⟩]; omega
      · rw [if_neg c, if_neg (fun z => c z.2)]; omega
    · rw [show (5 * now + T + 1 + 4 - M) / 5 = (5 * now + T + 4 - M) / 5 by omega]
      by_cases c : T < M ∧ d_at s T now = true
      · rw [if_pos c, if_pos ⟨by omega, c.2⟩]; omega
      · rw [if_neg c, if_neg (fun z => c ⟨by omega, z.2⟩)]; omega
theorem c_N_S {s : Nat → Int} (hW : h_W s) {now T : Nat} (hT : T < 5) : c_N s (5 * now + T + 1) = c_N s (5 * now + T) + (if (T : Int) < s 0 ∧ d_at s T now = true then 1 else 0) := by
  have hz := hW.1
  unfold c_N
  rw [c_N_T _ (by omega) hT]
  by_cases c : d_at s T now = true
  · by_cases e : (T : Int) < s 0
    · rw [if_pos ⟨by omega, c⟩, if_pos ⟨e, c⟩]
    · rw [if_neg (fun z => e (by omega)), if_neg (fun z => e z.1)]
  · rw [if_neg (fun z => c z.2), if_neg (fun z => c z.2)]
theorem c_N_mono {s : Nat → Int} {p p' : Nat} (h : p ≤ p') : c_N s p ≤ c_N s p' := c_n_mono h _
theorem c_N_5 {s : Nat → Int} (hW : h_W s) {now : Nat} : ∀ i : Nat, (s 0).toNat + i ≤ 5 → c_N s (5 * now + (s 0).toNat + i) = c_N s (5 * now + (s 0).toNat)
  | 0, _ => rfl
  | i + 1, h => by
    have hz := hW.1
    have := c_N_S hW (now := now) (T := (s 0).toNat + i) (by omega)
    rw [if_neg (fun z => absurd z.1 (by omega))] at this
    rw [show 5 * now + (s 0).toNat + (i + 1) = 5 * now + ((s 0).toNat + i) + 1 by omega, this, show 5 * now + ((s 0).toNat + i) = 5 * now + (s 0).toNat + i by omega, c_N_5 hW i (by omega), Nat.add_zero]
theorem c_N_end {s : Nat → Int} (hW : h_W s) {now : Nat} : c_N s (5 * now + (s 0).toNat) = c_N s (5 * (now + 1)) := by
  have hz := hW.1
  have := c_N_5 hW (now := now) (5 - (s 0).toNat) (by omega)
  rw [show 5 * now + (s 0).toNat + (5 - (s 0).toNat) = 5 * (now + 1) by omega] at this
  exact this.symm
theorem c_N_max {s : Nat → Int} (hW : h_W s) (p : Nat) : (c_N s p : Int) ≤ sumC s (s 0).toNat := by
  have hz := hW.1
  exact (c_n_max hW (s 0).toNat (by omega)).1
theorem c_N_up {s : Nat → Int} (hW : h_W s) {t m p : Nat} (ht : (t : Int) < s 0) (ha : d_at s t m = true) (hp : 5 * m + t < p) : c_N s (5 * m + t) + 1 ≤ c_N s p := by
  have hz := hW.1
  have := c_N_S hW (now := m) (T := t) (by omega)
  rw [if_pos ⟨ht, ha⟩] at this
  rw [← this]
  exact c_N_mono hp
theorem c_N_inj {s : Nat → Int} (hW : h_W s) {t m t' m' : Nat} (ht : (t : Int) < s 0) (ht' : (t' : Int) < s 0) (ha : d_at s t m = true) (ha' : d_at s t' m' = true) (h : c_N s (5 * m + t) = c_N s (5 * m' + t')) : m = m' ∧ t = t' := by
  have hz := hW.1
  by_cases c : 5 * m + t < 5 * m' + t'
  · have := c_N_up hW ht ha c; omega
  · by_cases c2 : 5 * m' + t' < 5 * m + t
    · have := c_N_up hW ht' ha' c2; omega
    · omega
