-- WHAT THE STATEMENT GIVES OF THE START: classes, array classes, static arrays, texts
set_option maxHeartbeats 4000000 in
set_option maxRecDepth 100000 in
theorem lw_cls {s : State} {args : Array Value} (hts : ∀ w ∈ lw_tbl, w.before args s = true) : ∃ Y : va_G × ClassId × ClassId × ClassId, ∀ e0 : Nat → Nat, va_K Y.1 vwCl (m_tys (e0, Y)) s := by
  obtain ⟨c0, i0, K0⟩ := u_known (C := RX0) (T := TX0) (N := 8) (n := 8) hts (fun w hw => (List.mem_filter.mp (ginX0 w hw)).1) (hts _ (List.mem_of_getElem? (i := 238) (by decide +kernel)))
  obtain ⟨c1, i1, K1⟩ := u_known (C := RX1) (T := TX1) (N := 11) (n := 11) hts (fun w hw => (List.mem_filter.mp (ginX1 w hw)).1) (hts _ (List.mem_of_getElem? (i := 177) (by decide +kernel)))
  obtain ⟨c2, i2, K2⟩ := u_known (C := RX2) (T := TX2) (N := 8) (n := 8) hts (fun w hw => (List.mem_filter.mp (ginX2 w hw)).1) (hts _ (List.mem_of_getElem? (i := 98) (by decide +kernel)))
  obtain ⟨c3, i3, K3⟩ := u_known (C := RX3) (T := TX3) (N := 12) (n := 12) hts (fun w hw => (List.mem_filter.mp (ginX3 w hw)).1) (hts _ (List.mem_of_getElem? (i := 184) (by decide +kernel)))
  obtain ⟨c4, i4, K4⟩ := u_known (C := RX4) (T := TX4) (N := 1) (n := 1) hts (fun w hw => (List.mem_filter.mp (ginX4 w hw)).1) (hts _ (List.mem_of_getElem? (i := 321) (by decide +kernel)))
  obtain ⟨c5, i5, K5⟩ := u_known (C := RX5) (T := TX5) (N := 1) (n := 1) hts (fun w hw => (List.mem_filter.mp (ginX5 w hw)).1) (hts _ (List.mem_of_getElem? (i := 351) (by decide +kernel)))
  obtain ⟨c6, i6, K6⟩ := u_known (C := RX6) (T := TX6) (N := 6) (n := 6) hts (fun w hw => (List.mem_filter.mp (ginX6 w hw)).1) (hts _ (List.mem_of_getElem? (i := 149) (by decide +kernel)))
  obtain ⟨c7, i7, K7⟩ := u_known (C := RX7) (T := TX7) (N := 3) (n := 3) hts (fun w hw => (List.mem_filter.mp (ginX7 w hw)).1) (hts _ (List.mem_of_getElem? (i := 333) (by decide +kernel)))
  obtain ⟨c8, i8, K8⟩ := u_known (C := RX8) (T := TX8) (N := 11) (n := 11) hts (fun w hw => (List.mem_filter.mp (ginX8 w hw)).1) (hts _ (List.mem_of_getElem? (i := 90) (by decide +kernel)))
  obtain ⟨c9, i9, K9⟩ := u_known (C := RX9) (T := TX9) (N := 35) (n := 35) hts (fun w hw => (List.mem_filter.mp (ginX9 w hw)).1) (hts _ (List.mem_of_getElem? (i := 921) (by decide +kernel)))
  obtain ⟨cI, kI, pI, f1, f2, f3⟩ := Cond.arrayClass_spec (type := .int) (args := args) (first := s) (o := none) (s := s) (idx := []) (hts _ (List.mem_of_getElem? (i := 147) (by decide +kernel)))
  obtain ⟨cZ, kZ, pZ, g1, g2, g3⟩ := Cond.arrayClass_spec (type := .boolean) (args := args) (first := s) (o := none) (s := s) (idx := []) (hts _ (List.mem_of_getElem? (i := 277) (by decide +kernel)))
  obtain ⟨pL, cL, kL, h1, h2, h3, h4, h5⟩ := Cond.arrayOver_spec (n := RX3) (args := args) (first := s) (o := none) (s := s) (idx := []) (hts _ (List.mem_of_getElem? (i := 183) (by decide +kernel)))
  refine ⟨((fun k => [c0, c1, c2, c3, c4, c5, c6, c7, c8, c9].getD k c0, fun k => [i0, i1, i2, i3, i4, i5, i6, i7, i8, i9].getD k i0), cI, cZ, cL), fun e0 => ⟨fun k q hq => ?_, fun k q hq => ?_⟩⟩
  · match k, hq with
    | 0, hq => cases hq; exact K0
    | 1, hq => cases hq; exact K1
    | 2, hq => cases hq; exact K2
    | 3, hq => cases hq; exact K3
    | 4, hq => cases hq; exact K4
    | 5, hq => cases hq; exact K5
    | 6, hq => cases hq; exact K6
    | 7, hq => cases hq; exact K7
    | 8, hq => cases hq; exact K8
    | 9, hq => cases hq; exact K9
    | k + 10, hq => simp [vwCl] at hq
  · match k, hq with
    | 0, hq => cases hq; exact ⟨fun n z => ⟨fun k h => (by cases h), kI, f2, pI, f3⟩, f1⟩
    | 1, hq => cases hq; exact ⟨fun n z => ⟨fun k h => (by cases h), kZ, g2, pZ, g3⟩, g1⟩
    | 2, hq => cases hq; exact ⟨fun n z => ⟨fun k h => (by cases h), kL, h3, pL, h4⟩, kL, pL, h3, h4, h1, h5⟩
    | k + 3, hq => simp [m_tys] at hq
theorem lw_ao {s : State} {args : Array Value} (hts : ∀ w ∈ lw_tbl, w.before args s = true) : va_AO RX3 s := va_AO.of (hts _ (List.mem_of_getElem? (i := 183) (by decide +kernel)))
theorem vk_S.re {N : Nat} {len : List Nat} {byt : List (List Int32)} {adK adV aK aV : Nat → Nat} {A : Nat → Prop} {U : State} {H : Heap} (h : vk_S N len byt adK adV A U H) (e1 : ∀ i, i < N → aK i = adK i) (e2 : ∀ i, i < N → aV i = adV i) : vk_S N len byt aK aV A U H :=
  ⟨fun i hi => by rw [e1 i hi, e2 i hi]; exact h.1 i hi, fun i j hi hj hij => h.2 i j hi hj (by rw [← e1 i hi, ← e1 j hj]; exact hij)⟩
set_option maxHeartbeats 4000000 in
set_option maxRecDepth 100000 in
theorem lw_env {s : State} {args : Array Value} (b : Nat) (hts : ∀ w ∈ lw_tbl, w.before args s = true) (hgv : (Jvm.Cond.and given_1 narrow_1).before args s = true) : ∃ e0 : Nat → Nat, e0 500 = b ∧ ∀ Y : va_G × ClassId × ClassId × ClassId, m_Env (e0, Y) (fun q => s.heap.size ≤ q) s s.heap := by
  have hs := flat_of_before _ hgv
  have hA : ∀ a : Nat, a < s.heap.size → ¬ (fun q : Nat => s.heap.size ≤ q) a := fun a h => Nat.not_le.mpr h
  have elL : ∀ j : Nat, j < 8 → Cond.eq (.elem (Term.static "WhichLane" "LEAST_SETTING" "[I") (.int (Int32.ofNat j))) (.int (Int32.ofInt (m_tb 400 j))) ∈ flatC (Jvm.Cond.and given_1 narrow_1) := by decide +kernel
  obtain ⟨tL, vL, TL⟩ := va_Tof (tm := (Term.static "WhichLane" "LEAST_SETTING" "[I")) (ty := .int) (N := 8) (f := fun j => .int (Int32.ofInt (m_tb 400 j))) (A := fun q => s.heap.size ≤ q) (by decide) (hs _ (by decide +kernel)) (va_eqt (z := 8) (hs _ (by decide +kernel))) (fun j hj => va_eqt (hs _ (elL j hj))) hA
  have ZL := va_Zof (C := "WhichLane") (n := "LEAST_SETTING") (d := "[I") (A := fun q => s.heap.size ≤ q) (hts _ (List.mem_of_getElem? (i := 582) (by decide +kernel))) (hts _ (List.mem_of_getElem? (i := 72) (by decide +kernel))) vL hA
  have elM : ∀ j : Nat, j < 8 → Cond.eq (.elem (Term.static "WhichLane" "MOST_SETTING" "[I") (.int (Int32.ofNat j))) (.int (Int32.ofInt (m_tb 401 j))) ∈ flatC (Jvm.Cond.and given_1 narrow_1) := by decide +kernel
  obtain ⟨tM, vM, TM⟩ := va_Tof (tm := (Term.static "WhichLane" "MOST_SETTING" "[I")) (ty := .int) (N := 8) (f := fun j => .int (Int32.ofInt (m_tb 401 j))) (A := fun q => s.heap.size ≤ q) (by decide) (hs _ (by decide +kernel)) (va_eqt (z := 8) (hs _ (by decide +kernel))) (fun j hj => va_eqt (hs _ (elM j hj))) hA
  have ZM := va_Zof (C := "WhichLane") (n := "MOST_SETTING") (d := "[I") (A := fun q => s.heap.size ≤ q) (hts _ (List.mem_of_getElem? (i := 584) (by decide +kernel))) (hts _ (List.mem_of_getElem? (i := 72) (by decide +kernel))) vM hA
  have elF : ∀ j : Nat, j < 8 → Cond.eq (.elem (Term.static "WhichLane" "FIRST_SETTING" "[I") (.int (Int32.ofNat j))) (.int (Int32.ofInt (m_tb 402 j))) ∈ flatC (Jvm.Cond.and given_1 narrow_1) := by decide +kernel
  obtain ⟨tF, vF, TF⟩ := va_Tof (tm := (Term.static "WhichLane" "FIRST_SETTING" "[I")) (ty := .int) (N := 8) (f := fun j => .int (Int32.ofInt (m_tb 402 j))) (A := fun q => s.heap.size ≤ q) (by decide) (hs _ (by decide +kernel)) (va_eqt (z := 8) (hs _ (by decide +kernel))) (fun j hj => va_eqt (hs _ (elF j hj))) hA
  have ZF := va_Zof (C := "WhichLane") (n := "FIRST_SETTING") (d := "[I") (A := fun q => s.heap.size ≤ q) (hts _ (List.mem_of_getElem? (i := 104) (by decide +kernel))) (hts _ (List.mem_of_getElem? (i := 72) (by decide +kernel))) vF hA
  have x1 : ∀ i : Nat, i < 4 → Cond.exactly ((fun i : Nat => Term.string "WhichLane$Tape" (([101, 95, 97, 99] : List Nat).getD i 0)) i) "java/lang/String" ∈ flatC (Jvm.Cond.and given_1 narrow_1) := by decide +kernel
  have x2 : ∀ i : Nat, i < 4 → Cond.eq (.field ((fun i : Nat => Term.string "WhichLane$Tape" (([101, 95, 97, 99] : List Nat).getD i 0)) i) "java/lang/String" "coder" "B") (.int 0) ∈ flatC (Jvm.Cond.and given_1 narrow_1) := by decide +kernel
  have x3 : ∀ i : Nat, i < 4 → Cond.arrayOf (.field ((fun i : Nat => Term.string "WhichLane$Tape" (([101, 95, 97, 99] : List Nat).getD i 0)) i) "java/lang/String" "value" "[B") .byte ∈ flatC (Jvm.Cond.and given_1 narrow_1) := by decide +kernel
  have x4 : ∀ i : Nat, i < 4 → Cond.eq (.length (.field ((fun i : Nat => Term.string "WhichLane$Tape" (([101, 95, 97, 99] : List Nat).getD i 0)) i) "java/lang/String" "value" "[B")) (.int (Int32.ofNat (([0, 4, 2, 5] : List Nat).getD i 0))) ∈ flatC (Jvm.Cond.and given_1 narrow_1) := by decide +kernel
  have x5 : ∀ i : Nat, i < 4 → ∀ j : Nat, j < ([0, 4, 2, 5] : List Nat).getD i 0 → Cond.eq (.elem (.field ((fun i : Nat => Term.string "WhichLane$Tape" (([101, 95, 97, 99] : List Nat).getD i 0)) i) "java/lang/String" "value" "[B") (.int (Int32.ofNat j))) (.int ((([[], [110, 44, 110, 59], [110, 59], [100, 100, 44, 110, 59]] : List (List Int32)).getD i []).getD j 0)) ∈ flatC (Jvm.Cond.and given_1 narrow_1) := by decide +kernel
  have x6 : ∀ i : Nat, i < 4 → ∀ j : Nat, j < 4 → i ≠ j → Cond.not (Cond.eq ((fun i : Nat => Term.string "WhichLane$Tape" (([101, 95, 97, 99] : List Nat).getD i 0)) i) ((fun i : Nat => Term.string "WhichLane$Tape" (([101, 95, 97, 99] : List Nat).getD i 0)) j)) ∈ flatC (Jvm.Cond.and given_1 narrow_1) ∨ Cond.not (Cond.eq ((fun i : Nat => Term.string "WhichLane$Tape" (([101, 95, 97, 99] : List Nat).getD i 0)) j) ((fun i : Nat => Term.string "WhichLane$Tape" (([101, 95, 97, 99] : List Nat).getD i 0)) i)) ∈ flatC (Jvm.Cond.and given_1 narrow_1) := by decide +kernel
  obtain ⟨adK, adV, hSt, hev⟩ := vk_Sof (args := args) (s := s) (N := 4) (tm := (fun i : Nat => Term.string "WhichLane$Tape" (([101, 95, 97, 99] : List Nat).getD i 0))) (len := [0, 4, 2, 5]) (byt := [[], [110, 44, 110, 59], [110, 59], [100, 100, 44, 110, 59]]) (A := fun q => s.heap.size ≤ q) (by decide) (fun i hi => hs _ (x1 i hi)) (fun i hi => hs _ (x2 i hi)) (fun i hi => hs _ (x3 i hi)) (fun i hi => hs _ (x4 i hi)) (fun i hi j hj => hs _ (x5 i hi j hj)) (fun i j hi hj hij => (x6 i hi j hj hij).elim (fun z => Or.inl (hs _ z)) (fun z => Or.inr (hs _ z))) hA
  refine ⟨fun k => if k < 204 then adK (k - 200) else if k < 214 then adV (k - 210) else if k = 400 then tL else if k = 401 then tM else if k = 402 then tF else b, rfl, fun Y => ⟨⟨⟨ZL, TL⟩, ⟨ZM, TM⟩, ZF, TF⟩, ⟨va_Nw.of rfl (hts _ (List.mem_of_getElem? (i := 656) (by decide +kernel))), va_Nw.of rfl (hts _ (List.mem_of_getElem? (i := 529) (by decide +kernel))), va_Nw.of rfl (hts _ (List.mem_of_getElem? (i := 870) (by decide +kernel))), va_Nw.of rfl (hts _ (List.mem_of_getElem? (i := 103) (by decide +kernel))), va_Nw.of rfl (hts _ (List.mem_of_getElem? (i := 778) (by decide +kernel))), va_Nw.of rfl (hts _ (List.mem_of_getElem? (i := 791) (by decide +kernel)))⟩,
    ⟨vk_R.of (hts _ (List.mem_of_getElem? (i := 434) (by decide +kernel))) (hev 0 (by decide)), vk_R.of (hts _ (List.mem_of_getElem? (i := 431) (by decide +kernel))) (hev 1 (by decide)), vk_R.of (hts _ (List.mem_of_getElem? (i := 432) (by decide +kernel))) (hev 2 (by decide)), vk_R.of (hts _ (List.mem_of_getElem? (i := 433) (by decide +kernel))) (hev 3 (by decide))⟩,
    hSt.re (fun i hi => ?_) (fun i hi => ?_), ?_, ?_⟩⟩
  · show (if 200 + i < 204 then adK (200 + i - 200) else _) = _
    rw [if_pos (by omega), Nat.add_sub_cancel_left]
  · show (if 210 + i < 204 then _ else if 210 + i < 214 then adV (210 + i - 210) else _) = _
    rw [if_neg (by omega), if_pos (by omega), Nat.add_sub_cancel_left]
  · exact va_Zof (C := "java/lang/String") (n := "COMPACT_STRINGS") (d := "Z") (hts _ (List.mem_of_getElem? (i := 448) (by decide +kernel))) (hts _ (List.mem_of_getElem? (i := 82) (by decide +kernel))) (va_eqt (z := 1) (hs _ (by decide +kernel))) hA
  · exact va_Zqof (C := "jdk/internal/util/Preconditions") (n := "SIOOBE_FORMATTER") (d := "Ljava/util/function/BiFunction;") (hts _ (List.mem_of_getElem? (i := 464) (by decide +kernel))) (hts _ (List.mem_of_getElem? (i := 84) (by decide +kernel))) (hs _ (by decide +kernel)) hA
/-- the env speaks of the places from 200 on -/
theorem m_Env.re {e1 e0 : Nat → Nat} {Y : va_G × ClassId × ClassId × ClassId} {A : Nat → Prop} {U : State} {H : Heap} (h : m_Env (e0, Y) A U H) (he : ∀ k, 91 ≤ k → e1 k = e0 k) : m_Env (e1, Y) A U H := by
  have a : (fun i => e1 (200 + i)) = fun i => e0 (200 + i) := funext fun i => he _ (by omega)
  have b : (fun i => e1 (210 + i)) = fun i => e0 (210 + i) := funext fun i => he _ (by omega)
  unfold m_Env at h ⊢
  simp only [he 200 (by decide), he 201 (by decide), he 202 (by decide), he 203 (by decide), he 400 (by decide), he 401 (by decide), he 402 (by decide), a, b]
  exact h
