set_option maxRecDepth 20000
set_option maxHeartbeats 2000000
/-! THE DAY: cars (sort, came, need, stray), lanes as lists, numbers by kind: 0 done, 1 latest, 2 longest, 3 passes (by lane), 4 waits, 5 gone, 6 losses, 7 taken (by sort), 8: strays, their count, the latest that left. s: what is told (the reference's row), nd: what one of a sort needs in a quarter. -/
noncomputable section
abbrev d_C : Type := Int × Int × Int × Int
abbrev d_S : Type := (Nat → List d_C) × m_G
def d_uq (Q : Nat → List d_C) (l : Nat) (v : List d_C) : Nat → List d_C := fun j => if j = l then v else Q j
def d_q (now : Nat) : Nat := if now / 900 < 4 then now / 900 else 3
def d_wd (s : Nat → Int) (l now : Nat) : Int := wd s l (d_q now)
abbrev d_bit (w t : Int) : Prop := m_iand (m_ishr w t) 1 = 1
abbrev d_shut (s : Nat → Int) (l now : Nat) : Prop := (0 < now / 900 ∧ now / 900 < 4) ∧ ((now % 900 : Nat) : Int) < s 8 ∧ ¬ wd s l (now / 900) = wd s l (now / 900 - 1)
abbrev d_open (s : Nat → Int) (σ : d_S) (l : Nat) (t : Int) (now : Nat) : Prop := d_bit (d_wd s l now) t ∧ ((σ.1 l).length : Int) < s 7 ∧ ¬ d_shut s l now
def d_need : List d_C → Int
  | [] => 0
  | c :: r => c.2.2.1 + d_need r
def d_load (σ : d_S) (l now : Nat) : Int := match σ.1 l with
  | [] => 0
  | c :: r => (if 0 ≤ σ.2 0 l then (if (now : Int) < σ.2 0 l then σ.2 0 l - now else 0) else c.2.2.1) + d_need r
def d_bits (w : Int) : Int := w % 2 + w / 2 % 2 + w / 4 % 2 + w / 8 % 2 + w / 16 % 2
def d_rank (s : Nat → Int) (σ : d_S) (l now : Nat) : Int :=
  if s 6 = 1 then 100 * d_bits (d_wd s l now) + (σ.1 l).length else if s 6 = 2 then d_load σ l now else if s 6 = 3 then l else if s 6 = 4 then -l else (σ.1 l).length
/-- the lane chosen among the first so many, and what it has -/
def d_ch (s : Nat → Int) (σ : d_S) (t : Int) (now : Nat) : Nat → Int × Int
  | 0 => (-9, 0)
  | l + 1 => if d_open s σ l t now ∧ ¬ (0 ≤ (d_ch s σ t now l).1 ∧ (d_ch s σ t now l).2 ≤ d_rank s σ l now) then ((l : Int), d_rank s σ l now) else d_ch s σ t now l
def d_stand (l : Nat) (t came need stray : Int) (σ : d_S) : d_S := (d_uq σ.1 l (σ.1 l ++ [(t, came, need, stray)]), m_up σ.2 7 t.toNat (m_wrap (σ.2 7 t.toNat + 1)))
/-- the count of strays behind one more that comes, and whether it strays -/
def d_more (s : Nat → Int) : Int := if 0 < s 4 - 8 * s 9 then s 4 - 8 * s 9 else 0
def d_cnt (s : Nat → Int) (σ : d_S) : d_S := (σ.1, m_up σ.2 8 1 (if σ.2 8 1 + d_more s < 100 then σ.2 8 1 + d_more s else σ.2 8 1 + d_more s - 100))
def d_put (s : Nat → Int) (t came need : Int) (stray : Prop) [Decidable stray] (l : Int) (σ : d_S) : d_S :=
  if l < 0 then (σ.1, m_up σ.2 6 t.toNat (m_wrap (σ.2 6 t.toNat + 1)))
  else if stray ∧ ¬ (l + 1) % s 1 = l ∧ ((σ.1 ((l + 1) % s 1).toNat).length : Int) < s 7 then d_stand ((l + 1) % s 1).toNat t came need 1 (σ.1, m_up σ.2 8 0 (m_wrap (σ.2 8 0 + 1)))
  else d_stand l.toNat t came need 0 σ
def d_one (s : Nat → Int) (t : Int) (now : Nat) (need : Int) (σ : d_S) : d_S :=
  d_put s t now need (¬ σ.2 8 1 + d_more s < 100) (d_ch s (d_cnt s σ) t now (s 1).toNat).1 (d_cnt s σ)
/-- whether one of sort t comes at a second -/
def d_at (s : Nat → Int) (t now : Nat) : Bool := decide (now < 3600) && (List.range (s (12 + 6 * t + now / 900)).toNat).any fun k => k * 900 / (s (12 + 6 * t + now / 900)).toNat == now % 900
def d_come (s : Nat → Int) (nd : Nat → Nat → Int) (now : Nat) : Nat → d_S → d_S
  | 0, σ => σ
  | t + 1, σ => if d_at s t now = true then d_one s t now (nd t (now / 900)) (d_come s nd now t σ) else d_come s nd now t σ
def d_leave (l now : Nat) (σ : d_S) : d_S := match σ.1 l with
  | [] => σ
  | c :: r => (d_uq σ.1 l r, m_up (m_up (m_up (m_up (m_up σ.2 4 c.1.toNat (m_wrap (σ.2 4 c.1.toNat + m_wrap (now - σ.2 0 l)))) 5 c.1.toNat (m_wrap (σ.2 5 c.1.toNat + 1))) 3 l (m_wrap (σ.2 3 l + 1))) 8 2 now) 0 l (-9))
def d_time (s : Nat → Int) (l now : Nat) (c : d_C) (σ : d_S) : Int := c.2.2.1 + (if 0 ≤ σ.2 1 l ∧ ¬ σ.2 1 l = c.1 then s 2 else 0) + (if c.2.2.2 = 1 ∧ ¬ d_bit (d_wd s l now) c.1 then s 5 else 0)
def d_serve (s : Nat → Int) (l now : Nat) (σ : d_S) : d_S := match σ.1 l with
  | [] => σ
  | c :: _ => (σ.1, m_up (m_up (m_up σ.2 4 c.1.toNat (m_wrap (σ.2 4 c.1.toNat + m_wrap (now - c.2.1)))) 0 l (now + d_time s l now c σ)) 1 l c.1)
abbrev d_due (s : Nat → Int) (l now : Nat) (σ : d_S) : Prop := (¬ σ.1 l = [] ∧ 0 ≤ σ.2 0 l ∧ σ.2 0 l ≤ now) ∧ (σ.2 8 2 < 0 ∨ s 3 ≤ now - σ.2 8 2)
def d_lv (s : Nat → Int) (l now : Nat) (σ : d_S) : d_S := if d_due s l now σ then d_leave l now σ else σ
def d_sv (s : Nat → Int) (l now : Nat) (σ : d_S) : d_S := if ¬ σ.1 l = [] ∧ σ.2 0 l < 0 then d_serve s l now σ else σ
def d_lg (l : Nat) (σ : d_S) : d_S := (σ.1, m_up σ.2 2 l (if σ.2 2 l < (σ.1 l).length then ((σ.1 l).length : Int) else σ.2 2 l))
def d_lane (s : Nat → Int) (l now : Nat) (σ : d_S) : d_S := d_lg l (d_sv s l now (d_lv s l now σ))
def d_lanes (s : Nat → Int) (now : Nat) : Nat → d_S → d_S
  | 0, σ => σ
  | l + 1, σ => d_lane s l now (d_lanes s now l σ)
def d_sec (s : Nat → Int) (nd : Nat → Nat → Int) (now : Nat) (σ : d_S) : d_S := d_lanes s now (s 1).toNat (d_come s nd now (s 0).toNat σ)
def d_0 : d_S := (fun _ => [], fun i k => if i = 0 ∨ i = 1 then -9 else if i = 8 ∧ k = 2 then -9 else 0)
def d_run (s : Nat → Int) (nd : Nat → Nat → Int) : Nat → d_S
  | 0 => d_0
  | n + 1 => d_sec s nd n (d_run s nd n)
/-- what is waited by the end -/
def d_wt (F : m_G) (t v : Int) : m_G := m_up F 4 t.toNat (m_wrap (F 4 t.toNat + m_wrap v))
def d_rest : List d_C → m_G → m_G
  | [], F => F
  | c :: r, F => d_rest r (d_wt F c.1 (7200 - c.2.1))
def d_endl (l : Nat) (σ : d_S) : d_S := match σ.1 l with
  | [] => σ
  | c :: r => (σ.1, d_rest r (if 0 ≤ σ.2 0 l then (if σ.2 0 l < 7200 then d_wt σ.2 c.1 (7200 - σ.2 0 l) else σ.2) else d_wt σ.2 c.1 (7200 - c.2.1)))
def d_end : Nat → d_S → d_S
  | 0, σ => σ
  | l + 1, σ => d_endl l (d_end l σ)
def d_day (s : Nat → Int) (nd : Nat → Nat → Int) : d_S := d_end (s 1).toNat (d_run s nd 7200)
def d_costs (s : Nat → Int) (σ : d_S) : Nat → Int
  | 0 => 0
  | t + 1 => m_wrap (d_costs s σ t + m_wrap (m_wrap (σ.2 4 t * s (11 + 6 * t)) + m_wrap (1000 * σ.2 6 t)))
def d_cost (s : Nat → Int) (nd : Nat → Nat → Int) : Int := d_costs s (d_day s nd) (s 0).toNat
end
/-- needs in range -/
def d_nd (s : Nat → Int) (nd : Nat → Nat → Int) : Prop := ∀ t k : Nat, (t : Int) < s 0 → k < 4 → 1 ≤ nd t k ∧ nd t k ≤ 99
/-- numbers in range, at a second -/
def d_I (s : Nat → Int) (n : Nat) (σ : d_S) : Prop :=
  (∀ l, l < 6 → (((σ.1 l).length : Int) ≤ s 7 ∧ (s 1 ≤ l → σ.1 l = [])) ∧ (∀ c ∈ σ.1 l, (0 ≤ c.1 ∧ c.1 < s 0) ∧ (0 ≤ c.2.1 ∧ c.2.1 < 3600 ∧ c.2.1 ≤ n) ∧ (1 ≤ c.2.2.1 ∧ c.2.2.1 ≤ 99) ∧ (c.2.2.2 = 0 ∨ c.2.2.2 = 1)) ∧ (-9 ≤ σ.2 0 l ∧ σ.2 0 l ≤ n + 300) ∧ (-9 ≤ σ.2 1 l ∧ σ.2 1 l < s 0) ∧ 0 ≤ σ.2 2 l ∧ σ.2 2 l ≤ 60) ∧
  (0 ≤ σ.2 8 1 ∧ σ.2 8 1 < 100) ∧ -9 ≤ σ.2 8 2 ∧ σ.2 8 2 ≤ n
