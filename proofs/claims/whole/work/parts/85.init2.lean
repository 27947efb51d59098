def V_0 (X : m_X) (u : Nat → Nat) : va_W := [(u 0, .inr (0, [.int 0, .ref (u 1), .ref (u 2), .ref (u 3), .ref (u 4), .ref (u 5), .ref (u 6), .ref (u 7)])), (u 1, .inl (X.2.2.1, 500, .inl (fun _ => 0))), (u 2, .inl (X.2.2.1, 500, .inl (fun _ => 0))), (u 3, .inl (X.2.2.1, 500, .inl (fun _ => 0))), (u 4, .inl (X.2.2.1, 500, .inl (fun _ => 0))), (u 5, .inl (X.2.2.2.1, 500, .inl (fun _ => 0))), (u 6, .inl (X.2.2.1, 5, .inl (fun _ => 0))), (u 7, .inl (X.2.2.1, 5, .inl (fun _ => 0)))]
set_option maxHeartbeats 4000000 in
set_option maxRecDepth 100000 in
theorem iX0 (l : Launch) (X : m_X) : n_Init l X 1 7 2510 yX0_init cX0_init 1 0 [.int 0, .null, .null, .null, .null, .null, .null, .null] (V_0 X) := by
  intro h0 sz
  refine Met.ofW (cc := cX0_init) (maxL := 1) (ret := none) (by decide) rfl ?_
  intro p e s m args below meth c s₁ B hml hv
  obtain ⟨rfl, hsz, hP, hK, hD0, hE, hO⟩ := hv
  have hts := atoms_spec (ws := .code yX0_init cX0_init 1 none :: m_tblG) B.pre
  have hown : s.vm.findClass "WhichLane$Crowd" = some m.cls := findClass_of_methodNamed B.named
  have hin : meth.name = "<init>" := (name_of_methodNamed B.named B.method).1
  have hr := B.returns
  have hlk := B.notSynchronized
  subst hsz
  have hD := hD0.self (sz := s.heap.size)
  have C : n_Cx p s m (([.ref h0] : List Value)).toArray c (va_A [(h0, .inr (0, [.int 0, .null, .null, .null, .null, .null, .null, .null]))] s.heap.size) X cX0_init 1 "WhichLane$Crowd" := ⟨B.exec, B.bytes, hml, hown, fun w hw => hts w (List.mem_cons_of_mem _ hw), hK, hE, hO, fun q h => Or.inr h⟩
  have hl := lv_entry ([.ref h0]) (n := 1) (Nat.le_of_ble_eq_true rfl)
  rw [lg_entry_eq]
  generalize (lg_sl ([.ref h0]) ++ List.replicate (1 - (lg_sl ([.ref h0])).length) Slot.unset).toArray = lsA at hl ⊢
  have hl : lv_has lsA 1 [(0, .ref h0)] := hl
  refine (?_ : n_J p l e _ s m _ below meth c _ _ X 0 0 [(h0, .inr (0, [.int 0, .null, .null, .null, .null, .null, .null, .null]))] 0 lsA []) s.heap [] hP hD va_S.rf
  refine n_aload C (i := 0) dX0_init_0 rfl (lv_at hl 0 rfl) ?_
  refine n_obj C hl.1 (m_tb_of 242 (by decide +kernel) rfl) (m_tb_of 95 (by decide +kernel) rfl) (m_tb_of 96 (by decide +kernel) rfl) dX0_init_1 ⟨Nat.le_of_ble_eq_true rfl, Nat.le_of_ble_eq_true rfl⟩ ?_
  refine n_aload C (i := 0) dX0_init_4 rfl (lv_at hl 0 rfl) ?_
  refine n_iconst C (v := 0) dX0_init_5 rfl ?_
  refine n_put C (rf := RX0) (T := TX0) (N := 8) (v := .int 0) 0 rfl rfl ginX0 0 (by decide) (m_tb_of 243 (by decide +kernel) rfl) (ty0 := tyX0) tyX0_ok nmX0 (Or.inl rfl) rfl rfl (Nat.le_of_ble_eq_true rfl) dX0_init_6 ?_
  refine n_norm (ws2 := [(h0, .inr (0, [.int 0, .null, .null, .null, .null, .null, .null, .null]))]) rfl ?_
  refine n_aload C (i := 0) dX0_init_9 rfl (lv_at hl 0 rfl) ?_
  refine n_sipush C (v := 500) dX0_init_10 rfl ?_
  refine n_newI C (m_tb_of 147 (by decide +kernel) rfl) 500 (by decide) (by decide) (by decide) (Nat.le_of_ble_eq_true rfl) (Nat.le_of_ble_eq_true rfl) dX0_init_13 (fun q1 => ?_)
  refine n_norm (ws2 := [(h0, .inr (0, [.int 0, .null, .null, .null, .null, .null, .null, .null])), (q1, .inl (X.2.2.1, 500, .inl (fun _ => 0)))]) rfl ?_
  refine n_put C (rf := RX0) (T := TX0) (N := 8) (v := .ref q1) 0 rfl rfl ginX0 1 (by decide) (m_tb_of 245 (by decide +kernel) rfl) (ty0 := tyX0) tyX0_ok nmX0 (Or.inr ⟨rfl, hin, rfl⟩) rfl rfl (Nat.le_of_ble_eq_true rfl) dX0_init_15 ?_
  refine n_norm (ws2 := [(h0, .inr (0, [.int 0, .ref q1, .null, .null, .null, .null, .null, .null])), (q1, .inl (X.2.2.1, 500, .inl (fun _ => 0)))]) rfl ?_
  refine n_aload C (i := 0) dX0_init_18 rfl (lv_at hl 0 rfl) ?_
  refine n_sipush C (v := 500) dX0_init_19 rfl ?_
  refine n_newI C (m_tb_of 147 (by decide +kernel) rfl) 500 (by decide) (by decide) (by decide) (Nat.le_of_ble_eq_true rfl) (Nat.le_of_ble_eq_true rfl) dX0_init_22 (fun q2 => ?_)
  refine n_norm (ws2 := [(h0, .inr (0, [.int 0, .ref q1, .null, .null, .null, .null, .null, .null])), (q1, .inl (X.2.2.1, 500, .inl (fun _ => 0))), (q2, .inl (X.2.2.1, 500, .inl (fun _ => 0)))]) rfl ?_
  refine n_put C (rf := RX0) (T := TX0) (N := 8) (v := .ref q2) 0 rfl rfl ginX0 2 (by decide) (m_tb_of 248 (by decide +kernel) rfl) (ty0 := tyX0) tyX0_ok nmX0 (Or.inr ⟨rfl, hin, rfl⟩) rfl rfl (Nat.le_of_ble_eq_true rfl) dX0_init_24 ?_
  refine n_norm (ws2 := [(h0, .inr (0, [.int 0, .ref q1, .ref q2, .null, .null, .null, .null, .null])), (q1, .inl (X.2.2.1, 500, .inl (fun _ => 0))), (q2, .inl (X.2.2.1, 500, .inl (fun _ => 0)))]) rfl ?_
  refine n_aload C (i := 0) dX0_init_27 rfl (lv_at hl 0 rfl) ?_
  refine n_sipush C (v := 500) dX0_init_28 rfl ?_
  refine n_newI C (m_tb_of 147 (by decide +kernel) rfl) 500 (by decide) (by decide) (by decide) (Nat.le_of_ble_eq_true rfl) (Nat.le_of_ble_eq_true rfl) dX0_init_31 (fun q3 => ?_)
  refine n_norm (ws2 := [(h0, .inr (0, [.int 0, .ref q1, .ref q2, .null, .null, .null, .null, .null])), (q1, .inl (X.2.2.1, 500, .inl (fun _ => 0))), (q2, .inl (X.2.2.1, 500, .inl (fun _ => 0))), (q3, .inl (X.2.2.1, 500, .inl (fun _ => 0)))]) rfl ?_
  refine n_put C (rf := RX0) (T := TX0) (N := 8) (v := .ref q3) 0 rfl rfl ginX0 3 (by decide) (m_tb_of 250 (by decide +kernel) rfl) (ty0 := tyX0) tyX0_ok nmX0 (Or.inr ⟨rfl, hin, rfl⟩) rfl rfl (Nat.le_of_ble_eq_true rfl) dX0_init_33 ?_
  refine n_norm (ws2 := [(h0, .inr (0, [.int 0, .ref q1, .ref q2, .ref q3, .null, .null, .null, .null])), (q1, .inl (X.2.2.1, 500, .inl (fun _ => 0))), (q2, .inl (X.2.2.1, 500, .inl (fun _ => 0))), (q3, .inl (X.2.2.1, 500, .inl (fun _ => 0)))]) rfl ?_
  refine n_aload C (i := 0) dX0_init_36 rfl (lv_at hl 0 rfl) ?_
  refine n_sipush C (v := 500) dX0_init_37 rfl ?_
  refine n_newI C (m_tb_of 147 (by decide +kernel) rfl) 500 (by decide) (by decide) (by decide) (Nat.le_of_ble_eq_true rfl) (Nat.le_of_ble_eq_true rfl) dX0_init_40 (fun q4 => ?_)
  refine n_norm (ws2 := [(h0, .inr (0, [.int 0, .ref q1, .ref q2, .ref q3, .null, .null, .null, .null])), (q1, .inl (X.2.2.1, 500, .inl (fun _ => 0))), (q2, .inl (X.2.2.1, 500, .inl (fun _ => 0))), (q3, .inl (X.2.2.1, 500, .inl (fun _ => 0))), (q4, .inl (X.2.2.1, 500, .inl (fun _ => 0)))]) rfl ?_
  refine n_put C (rf := RX0) (T := TX0) (N := 8) (v := .ref q4) 0 rfl rfl ginX0 4 (by decide) (m_tb_of 253 (by decide +kernel) rfl) (ty0 := tyX0) tyX0_ok nmX0 (Or.inr ⟨rfl, hin, rfl⟩) rfl rfl (Nat.le_of_ble_eq_true rfl) dX0_init_42 ?_
  refine n_norm (ws2 := [(h0, .inr (0, [.int 0, .ref q1, .ref q2, .ref q3, .ref q4, .null, .null, .null])), (q1, .inl (X.2.2.1, 500, .inl (fun _ => 0))), (q2, .inl (X.2.2.1, 500, .inl (fun _ => 0))), (q3, .inl (X.2.2.1, 500, .inl (fun _ => 0))), (q4, .inl (X.2.2.1, 500, .inl (fun _ => 0)))]) rfl ?_
  refine n_aload C (i := 0) dX0_init_45 rfl (lv_at hl 0 rfl) ?_
  refine n_sipush C (v := 500) dX0_init_46 rfl ?_
  refine n_newZ C (m_tb_of 277 (by decide +kernel) rfl) 500 (by decide) (by decide) (by decide) (Nat.le_of_ble_eq_true rfl) (Nat.le_of_ble_eq_true rfl) dX0_init_49 (fun q5 => ?_)
  refine n_norm (ws2 := [(h0, .inr (0, [.int 0, .ref q1, .ref q2, .ref q3, .ref q4, .null, .null, .null])), (q1, .inl (X.2.2.1, 500, .inl (fun _ => 0))), (q2, .inl (X.2.2.1, 500, .inl (fun _ => 0))), (q3, .inl (X.2.2.1, 500, .inl (fun _ => 0))), (q4, .inl (X.2.2.1, 500, .inl (fun _ => 0))), (q5, .inl (X.2.2.2.1, 500, .inl (fun _ => 0)))]) rfl ?_
  refine n_put C (rf := RX0) (T := TX0) (N := 8) (v := .ref q5) 0 rfl rfl ginX0 5 (by decide) (m_tb_of 256 (by decide +kernel) rfl) (ty0 := tyX0) tyX0_ok nmX0 (Or.inr ⟨rfl, hin, rfl⟩) rfl rfl (Nat.le_of_ble_eq_true rfl) dX0_init_51 ?_
  refine n_norm (ws2 := [(h0, .inr (0, [.int 0, .ref q1, .ref q2, .ref q3, .ref q4, .ref q5, .null, .null])), (q1, .inl (X.2.2.1, 500, .inl (fun _ => 0))), (q2, .inl (X.2.2.1, 500, .inl (fun _ => 0))), (q3, .inl (X.2.2.1, 500, .inl (fun _ => 0))), (q4, .inl (X.2.2.1, 500, .inl (fun _ => 0))), (q5, .inl (X.2.2.2.1, 500, .inl (fun _ => 0)))]) rfl ?_
  refine n_aload C (i := 0) dX0_init_54 rfl (lv_at hl 0 rfl) ?_
  refine n_iconst C (v := 5) dX0_init_55 rfl ?_
  refine n_newI C (m_tb_of 147 (by decide +kernel) rfl) 5 (by decide) (by decide) (by decide) (Nat.le_of_ble_eq_true rfl) (Nat.le_of_ble_eq_true rfl) dX0_init_56 (fun q6 => ?_)
  refine n_norm (ws2 := [(h0, .inr (0, [.int 0, .ref q1, .ref q2, .ref q3, .ref q4, .ref q5, .null, .null])), (q1, .inl (X.2.2.1, 500, .inl (fun _ => 0))), (q2, .inl (X.2.2.1, 500, .inl (fun _ => 0))), (q3, .inl (X.2.2.1, 500, .inl (fun _ => 0))), (q4, .inl (X.2.2.1, 500, .inl (fun _ => 0))), (q5, .inl (X.2.2.2.1, 500, .inl (fun _ => 0))), (q6, .inl (X.2.2.1, 5, .inl (fun _ => 0)))]) rfl ?_
  refine n_put C (rf := RX0) (T := TX0) (N := 8) (v := .ref q6) 0 rfl rfl ginX0 6 (by decide) (m_tb_of 258 (by decide +kernel) rfl) (ty0 := tyX0) tyX0_ok nmX0 (Or.inr ⟨rfl, hin, rfl⟩) rfl rfl (Nat.le_of_ble_eq_true rfl) dX0_init_58 ?_
  refine n_norm (ws2 := [(h0, .inr (0, [.int 0, .ref q1, .ref q2, .ref q3, .ref q4, .ref q5, .ref q6, .null])), (q1, .inl (X.2.2.1, 500, .inl (fun _ => 0))), (q2, .inl (X.2.2.1, 500, .inl (fun _ => 0))), (q3, .inl (X.2.2.1, 500, .inl (fun _ => 0))), (q4, .inl (X.2.2.1, 500, .inl (fun _ => 0))), (q5, .inl (X.2.2.2.1, 500, .inl (fun _ => 0))), (q6, .inl (X.2.2.1, 5, .inl (fun _ => 0)))]) rfl ?_
  refine n_aload C (i := 0) dX0_init_61 rfl (lv_at hl 0 rfl) ?_
  refine n_iconst C (v := 5) dX0_init_62 rfl ?_
  refine n_newI C (m_tb_of 147 (by decide +kernel) rfl) 5 (by decide) (by decide) (by decide) (Nat.le_of_ble_eq_true rfl) (Nat.le_of_ble_eq_true rfl) dX0_init_63 (fun q7 => ?_)
  refine n_norm (ws2 := [(h0, .inr (0, [.int 0, .ref q1, .ref q2, .ref q3, .ref q4, .ref q5, .ref q6, .null])), (q1, .inl (X.2.2.1, 500, .inl (fun _ => 0))), (q2, .inl (X.2.2.1, 500, .inl (fun _ => 0))), (q3, .inl (X.2.2.1, 500, .inl (fun _ => 0))), (q4, .inl (X.2.2.1, 500, .inl (fun _ => 0))), (q5, .inl (X.2.2.2.1, 500, .inl (fun _ => 0))), (q6, .inl (X.2.2.1, 5, .inl (fun _ => 0))), (q7, .inl (X.2.2.1, 5, .inl (fun _ => 0)))]) rfl ?_
  refine n_put C (rf := RX0) (T := TX0) (N := 8) (v := .ref q7) 0 rfl rfl ginX0 7 (by decide) (m_tb_of 259 (by decide +kernel) rfl) (ty0 := tyX0) tyX0_ok nmX0 (Or.inr ⟨rfl, hin, rfl⟩) rfl rfl (Nat.le_of_ble_eq_true rfl) dX0_init_65 ?_
  refine n_norm (ws2 := [(h0, .inr (0, [.int 0, .ref q1, .ref q2, .ref q3, .ref q4, .ref q5, .ref q6, .ref q7])), (q1, .inl (X.2.2.1, 500, .inl (fun _ => 0))), (q2, .inl (X.2.2.1, 500, .inl (fun _ => 0))), (q3, .inl (X.2.2.1, 500, .inl (fun _ => 0))), (q4, .inl (X.2.2.1, 500, .inl (fun _ => 0))), (q5, .inl (X.2.2.2.1, 500, .inl (fun _ => 0))), (q6, .inl (X.2.2.1, 5, .inl (fun _ => 0))), (q7, .inl (X.2.2.1, 5, .inl (fun _ => 0)))]) rfl ?_
  exact n_vret (V := V_0 X) C hr dX0_init_68 (fun i => ([h0, q1, q2, q3, q4, q5, q6, q7] : List Nat).getD i 0) rfl [0, 1, 2, 3, 4, 5, 6, 7] rfl rfl (by decide) hlk
def V_6 (X : m_X) (u : Nat → Nat) : va_W := [(u 0, .inr (6, [.int 0, .ref (u 1), .ref (u 2), .ref (u 3), .int 0, .int 0])), (u 1, .inl (X.2.2.1, 64, .inl (fun _ => 0))), (u 2, .inl (X.2.2.1, 3, .inl (fun _ => 0))), (u 3, .inr (2, [.int 0, .int 0, .ref (u 4), .ref (u 5), .ref (u 6), .ref (u 7), .ref (u 8), .ref (u 9)])), (u 4, .inl (X.2.2.1, 5, .inl (fun _ => 0))), (u 5, .inl (X.2.2.1, 5, .inl (fun _ => 0))), (u 6, .inl (X.2.2.1, 20, .inl (fun _ => 0))), (u 7, .inl (X.2.2.1, 20, .inl (fun _ => 0))), (u 8, .inl (X.2.2.1, 24, .inl (fun _ => 0))), (u 9, .inl (X.2.2.1, 8, .inl (n_fill 8)))]
set_option maxHeartbeats 4000000 in
set_option maxRecDepth 100000 in
theorem iX6 (l : Launch) (X : m_X) : n_Init l X 2 9 157 yX6_init cX6_init 1 6 [.int 0, .null, .null, .null, .int 0, .int 0] (V_6 X) := by
  intro h0 sz
  refine Met.ofW (cc := cX6_init) (maxL := 1) (ret := none) (by decide) rfl ?_
  intro p e s m args below meth c s₁ B hml hv
  obtain ⟨rfl, hsz, hP, hK, hD0, hE, hO⟩ := hv
  have hts := atoms_spec (ws := .code yX6_init cX6_init 1 none :: m_tblG) B.pre
  have hown : s.vm.findClass "WhichLane$Tape" = some m.cls := findClass_of_methodNamed B.named
  have hin : meth.name = "<init>" := (name_of_methodNamed B.named B.method).1
  have hr := B.returns
  have hlk := B.notSynchronized
  subst hsz
  have hD := hD0.self (sz := s.heap.size)
  have C : n_Cx p s m (([.ref h0] : List Value)).toArray c (va_A [(h0, .inr (6, [.int 0, .null, .null, .null, .int 0, .int 0]))] s.heap.size) X cX6_init 1 "WhichLane$Tape" := ⟨B.exec, B.bytes, hml, hown, fun w hw => hts w (List.mem_cons_of_mem _ hw), hK, hE, hO, fun q h => Or.inr h⟩
  have hl := lv_entry ([.ref h0]) (n := 1) (Nat.le_of_ble_eq_true rfl)
  rw [lg_entry_eq]
  generalize (lg_sl ([.ref h0]) ++ List.replicate (1 - (lg_sl ([.ref h0])).length) Slot.unset).toArray = lsA at hl ⊢
  have hl : lv_has lsA 1 [(0, .ref h0)] := hl
  refine (?_ : n_J p l e _ s m _ below meth c _ _ X 0 0 [(h0, .inr (6, [.int 0, .null, .null, .null, .int 0, .int 0]))] 0 lsA []) s.heap [] hP hD va_S.rf
  refine n_aload C (i := 0) dX6_init_0 rfl (lv_at hl 0 rfl) ?_
  refine n_obj C hl.1 (m_tb_of 153 (by decide +kernel) rfl) (m_tb_of 95 (by decide +kernel) rfl) (m_tb_of 96 (by decide +kernel) rfl) dX6_init_1 ⟨Nat.le_of_ble_eq_true rfl, Nat.le_of_ble_eq_true rfl⟩ ?_
  refine n_aload C (i := 0) dX6_init_4 rfl (lv_at hl 0 rfl) ?_
  refine n_iconst C (v := 0) dX6_init_5 rfl ?_
  refine n_put C (rf := RX6) (T := TX6) (N := 6) (v := .int 0) 0 rfl rfl ginX6 0 (by decide) (m_tb_of 156 (by decide +kernel) rfl) (ty0 := tyX6) tyX6_ok nmX6 (Or.inl rfl) rfl rfl (Nat.le_of_ble_eq_true rfl) dX6_init_6 ?_
  refine n_norm (ws2 := [(h0, .inr (6, [.int 0, .null, .null, .null, .int 0, .int 0]))]) rfl ?_
  refine n_aload C (i := 0) dX6_init_9 rfl (lv_at hl 0 rfl) ?_
  refine n_bipush C (v := 64) dX6_init_10 rfl ?_
  refine n_newI C (m_tb_of 147 (by decide +kernel) rfl) 64 (by decide) (by decide) (by decide) (Nat.le_of_ble_eq_true rfl) (Nat.le_of_ble_eq_true rfl) dX6_init_12 (fun q1 => ?_)
  refine n_norm (ws2 := [(h0, .inr (6, [.int 0, .null, .null, .null, .int 0, .int 0])), (q1, .inl (X.2.2.1, 64, .inl (fun _ => 0)))]) rfl ?_
  refine n_put C (rf := RX6) (T := TX6) (N := 6) (v := .ref q1) 0 rfl rfl ginX6 1 (by decide) (m_tb_of 158 (by decide +kernel) rfl) (ty0 := tyX6) tyX6_ok nmX6 (Or.inr ⟨rfl, hin, rfl⟩) rfl rfl (Nat.le_of_ble_eq_true rfl) dX6_init_14 ?_
  refine n_norm (ws2 := [(h0, .inr (6, [.int 0, .ref q1, .null, .null, .int 0, .int 0])), (q1, .inl (X.2.2.1, 64, .inl (fun _ => 0)))]) rfl ?_
  refine n_aload C (i := 0) dX6_init_17 rfl (lv_at hl 0 rfl) ?_
  refine n_iconst C (v := 3) dX6_init_18 rfl ?_
  refine n_newI C (m_tb_of 147 (by decide +kernel) rfl) 3 (by decide) (by decide) (by decide) (Nat.le_of_ble_eq_true rfl) (Nat.le_of_ble_eq_true rfl) dX6_init_19 (fun q2 => ?_)
  refine n_norm (ws2 := [(h0, .inr (6, [.int 0, .ref q1, .null, .null, .int 0, .int 0])), (q1, .inl (X.2.2.1, 64, .inl (fun _ => 0))), (q2, .inl (X.2.2.1, 3, .inl (fun _ => 0)))]) rfl ?_
  refine n_put C (rf := RX6) (T := TX6) (N := 6) (v := .ref q2) 0 rfl rfl ginX6 2 (by decide) (m_tb_of 159 (by decide +kernel) rfl) (ty0 := tyX6) tyX6_ok nmX6 (Or.inr ⟨rfl, hin, rfl⟩) rfl rfl (Nat.le_of_ble_eq_true rfl) dX6_init_21 ?_
  refine n_norm (ws2 := [(h0, .inr (6, [.int 0, .ref q1, .ref q2, .null, .int 0, .int 0])), (q1, .inl (X.2.2.1, 64, .inl (fun _ => 0))), (q2, .inl (X.2.2.1, 3, .inl (fun _ => 0)))]) rfl ?_
  refine n_aload C (i := 0) dX6_init_24 rfl (lv_at hl 0 rfl) ?_
  refine n_new C (ci := 2) (T := TX2) (N := 8) (ty0 := tyX2) rfl ginX2 tyX2_ok (m_tb_of 154 (by decide +kernel) rfl) (m_tb_of 98 (by decide +kernel) rfl) (m_tb_of 73 (by decide +kernel) rfl) [.int 0, .int 0, .null, .null, .null, .null, .null, .null] (by decide) (Nat.le_of_ble_eq_true rfl) (Nat.le_of_ble_eq_true rfl) dX6_init_25 (fun q3 => ?_)
  refine n_norm (ws2 := [(h0, .inr (6, [.int 0, .ref q1, .ref q2, .null, .int 0, .int 0])), (q1, .inl (X.2.2.1, 64, .inl (fun _ => 0))), (q2, .inl (X.2.2.1, 3, .inl (fun _ => 0))), (q3, .inr (2, [.int 0, .int 0, .null, .null, .null, .null, .null, .null]))]) rfl ?_
  refine n_dup C dX6_init_28 ?_
  refine n_init C (iX2 l X) 3 rfl [0, 1, 2] [(h0, .inr (6, [.int 0, .ref q1, .ref q2, .null, .int 0, .int 0])), (q1, .inl (X.2.2.1, 64, .inl (fun _ => 0))), (q2, .inl (X.2.2.1, 3, .inl (fun _ => 0)))] rfl (by decide) (by decide) (m_tb_of 73 (by decide +kernel) rfl) (m_tb_of 155 (by decide +kernel) rfl) (m_tb_of 100 (by decide +kernel) rfl) (m_tb_of 101 (by decide +kernel) rfl) rfl (by decide +kernel) ⟨Nat.le_of_ble_eq_true rfl, Nat.le_of_ble_eq_true rfl⟩ hl.1 (Nat.le_of_ble_eq_true rfl) ⟨Nat.le_of_ble_eq_true rfl, Nat.le_of_ble_eq_true rfl⟩ dX6_init_29 (fun uq3 huq3 => ?_)
  subst huq3
  refine n_norm (ws2 := [(h0, .inr (6, [.int 0, .ref q1, .ref q2, .null, .int 0, .int 0])), (q1, .inl (X.2.2.1, 64, .inl (fun _ => 0))), (q2, .inl (X.2.2.1, 3, .inl (fun _ => 0))), (uq3 0, .inr (2, [.int 0, .int 0, .ref (uq3 1), .ref (uq3 2), .ref (uq3 3), .ref (uq3 4), .ref (uq3 5), .ref (uq3 6)])), (uq3 1, .inl (X.2.2.1, 5, .inl (fun _ => 0))), (uq3 2, .inl (X.2.2.1, 5, .inl (fun _ => 0))), (uq3 3, .inl (X.2.2.1, 20, .inl (fun _ => 0))), (uq3 4, .inl (X.2.2.1, 20, .inl (fun _ => 0))), (uq3 5, .inl (X.2.2.1, 24, .inl (fun _ => 0))), (uq3 6, .inl (X.2.2.1, 8, .inl (n_fill 8)))]) rfl ?_
  refine n_put C (rf := RX6) (T := TX6) (N := 6) (v := .ref (uq3 0)) 0 rfl rfl ginX6 3 (by decide) (m_tb_of 160 (by decide +kernel) rfl) (ty0 := tyX6) tyX6_ok nmX6 (Or.inr ⟨rfl, hin, rfl⟩) rfl rfl (Nat.le_of_ble_eq_true rfl) dX6_init_32 ?_
  refine n_norm (ws2 := [(h0, .inr (6, [.int 0, .ref q1, .ref q2, .ref (uq3 0), .int 0, .int 0])), (q1, .inl (X.2.2.1, 64, .inl (fun _ => 0))), (q2, .inl (X.2.2.1, 3, .inl (fun _ => 0))), (uq3 0, .inr (2, [.int 0, .int 0, .ref (uq3 1), .ref (uq3 2), .ref (uq3 3), .ref (uq3 4), .ref (uq3 5), .ref (uq3 6)])), (uq3 1, .inl (X.2.2.1, 5, .inl (fun _ => 0))), (uq3 2, .inl (X.2.2.1, 5, .inl (fun _ => 0))), (uq3 3, .inl (X.2.2.1, 20, .inl (fun _ => 0))), (uq3 4, .inl (X.2.2.1, 20, .inl (fun _ => 0))), (uq3 5, .inl (X.2.2.1, 24, .inl (fun _ => 0))), (uq3 6, .inl (X.2.2.1, 8, .inl (n_fill 8)))]) rfl ?_
  refine n_aload C (i := 0) dX6_init_35 rfl (lv_at hl 0 rfl) ?_
  refine n_iconst C (v := 0) dX6_init_36 rfl ?_
  refine n_put C (rf := RX6) (T := TX6) (N := 6) (v := .int 0) 0 rfl rfl ginX6 4 (by decide) (m_tb_of 161 (by decide +kernel) rfl) (ty0 := tyX6) tyX6_ok nmX6 (Or.inl rfl) rfl rfl (Nat.le_of_ble_eq_true rfl) dX6_init_37 ?_
  refine n_norm (ws2 := [(h0, .inr (6, [.int 0, .ref q1, .ref q2, .ref (uq3 0), .int 0, .int 0])), (q1, .inl (X.2.2.1, 64, .inl (fun _ => 0))), (q2, .inl (X.2.2.1, 3, .inl (fun _ => 0))), (uq3 0, .inr (2, [.int 0, .int 0, .ref (uq3 1), .ref (uq3 2), .ref (uq3 3), .ref (uq3 4), .ref (uq3 5), .ref (uq3 6)])), (uq3 1, .inl (X.2.2.1, 5, .inl (fun _ => 0))), (uq3 2, .inl (X.2.2.1, 5, .inl (fun _ => 0))), (uq3 3, .inl (X.2.2.1, 20, .inl (fun _ => 0))), (uq3 4, .inl (X.2.2.1, 20, .inl (fun _ => 0))), (uq3 5, .inl (X.2.2.1, 24, .inl (fun _ => 0))), (uq3 6, .inl (X.2.2.1, 8, .inl (n_fill 8)))]) rfl ?_
  refine n_aload C (i := 0) dX6_init_40 rfl (lv_at hl 0 rfl) ?_
  refine n_iconst C (v := 0) dX6_init_41 rfl ?_
  refine n_put C (rf := RX6) (T := TX6) (N := 6) (v := .int 0) 0 rfl rfl ginX6 5 (by decide) (m_tb_of 162 (by decide +kernel) rfl) (ty0 := tyX6) tyX6_ok nmX6 (Or.inl rfl) rfl rfl (Nat.le_of_ble_eq_true rfl) dX6_init_42 ?_
  refine n_norm (ws2 := [(h0, .inr (6, [.int 0, .ref q1, .ref q2, .ref (uq3 0), .int 0, .int 0])), (q1, .inl (X.2.2.1, 64, .inl (fun _ => 0))), (q2, .inl (X.2.2.1, 3, .inl (fun _ => 0))), (uq3 0, .inr (2, [.int 0, .int 0, .ref (uq3 1), .ref (uq3 2), .ref (uq3 3), .ref (uq3 4), .ref (uq3 5), .ref (uq3 6)])), (uq3 1, .inl (X.2.2.1, 5, .inl (fun _ => 0))), (uq3 2, .inl (X.2.2.1, 5, .inl (fun _ => 0))), (uq3 3, .inl (X.2.2.1, 20, .inl (fun _ => 0))), (uq3 4, .inl (X.2.2.1, 20, .inl (fun _ => 0))), (uq3 5, .inl (X.2.2.1, 24, .inl (fun _ => 0))), (uq3 6, .inl (X.2.2.1, 8, .inl (n_fill 8)))]) rfl ?_
  exact n_vret (V := V_6 X) C hr dX6_init_45 (fun i => ([h0, q1, q2, uq3 0, uq3 1, uq3 2, uq3 3, uq3 4, uq3 5, uq3 6] : List Nat).getD i 0) rfl [0, 1, 2, 3, 4, 5, 6, 7, 8, 9] rfl rfl (by decide) hlk
def V_4 (X : m_X) (u : Nat → Nat) : va_W := [(u 0, .inr (4, [.ref (u 1)])), (u 1, .inr (2, [.int 0, .int 0, .ref (u 2), .ref (u 3), .ref (u 4), .ref (u 5), .ref (u 6), .ref (u 7)])), (u 2, .inl (X.2.2.1, 5, .inl (fun _ => 0))), (u 3, .inl (X.2.2.1, 5, .inl (fun _ => 0))), (u 4, .inl (X.2.2.1, 20, .inl (fun _ => 0))), (u 5, .inl (X.2.2.1, 20, .inl (fun _ => 0))), (u 6, .inl (X.2.2.1, 24, .inl (fun _ => 0))), (u 7, .inl (X.2.2.1, 8, .inl (n_fill 8)))]
set_option maxHeartbeats 4000000 in
set_option maxRecDepth 100000 in
theorem iX4 (l : Launch) (X : m_X) : n_Init l X 2 7 90 yX4_init cX4_init 1 4 [.null] (V_4 X) := by
  intro h0 sz
  refine Met.ofW (cc := cX4_init) (maxL := 1) (ret := none) (by decide) rfl ?_
  intro p e s m args below meth c s₁ B hml hv
  obtain ⟨rfl, hsz, hP, hK, hD0, hE, hO⟩ := hv
  have hts := atoms_spec (ws := .code yX4_init cX4_init 1 none :: m_tblG) B.pre
  have hown : s.vm.findClass "WhichLane$Planner" = some m.cls := findClass_of_methodNamed B.named
  have hin : meth.name = "<init>" := (name_of_methodNamed B.named B.method).1
  have hr := B.returns
  have hlk := B.notSynchronized
  subst hsz
  have hD := hD0.self (sz := s.heap.size)
  have C : n_Cx p s m (([.ref h0] : List Value)).toArray c (va_A [(h0, .inr (4, [.null]))] s.heap.size) X cX4_init 1 "WhichLane$Planner" := ⟨B.exec, B.bytes, hml, hown, fun w hw => hts w (List.mem_cons_of_mem _ hw), hK, hE, hO, fun q h => Or.inr h⟩
  have hl := lv_entry ([.ref h0]) (n := 1) (Nat.le_of_ble_eq_true rfl)
  rw [lg_entry_eq]
  generalize (lg_sl ([.ref h0]) ++ List.replicate (1 - (lg_sl ([.ref h0])).length) Slot.unset).toArray = lsA at hl ⊢
  have hl : lv_has lsA 1 [(0, .ref h0)] := hl
  refine (?_ : n_J p l e _ s m _ below meth c _ _ X 0 0 [(h0, .inr (4, [.null]))] 0 lsA []) s.heap [] hP hD va_S.rf
  refine n_aload C (i := 0) dX4_init_0 rfl (lv_at hl 0 rfl) ?_
  refine n_obj C hl.1 (m_tb_of 325 (by decide +kernel) rfl) (m_tb_of 95 (by decide +kernel) rfl) (m_tb_of 96 (by decide +kernel) rfl) dX4_init_1 ⟨Nat.le_of_ble_eq_true rfl, Nat.le_of_ble_eq_true rfl⟩ ?_
  refine n_aload C (i := 0) dX4_init_4 rfl (lv_at hl 0 rfl) ?_
  refine n_new C (ci := 2) (T := TX2) (N := 8) (ty0 := tyX2) rfl ginX2 tyX2_ok (m_tb_of 326 (by decide +kernel) rfl) (m_tb_of 98 (by decide +kernel) rfl) (m_tb_of 73 (by decide +kernel) rfl) [.int 0, .int 0, .null, .null, .null, .null, .null, .null] (by decide) (Nat.le_of_ble_eq_true rfl) (Nat.le_of_ble_eq_true rfl) dX4_init_5 (fun q1 => ?_)
  refine n_norm (ws2 := [(h0, .inr (4, [.null])), (q1, .inr (2, [.int 0, .int 0, .null, .null, .null, .null, .null, .null]))]) rfl ?_
  refine n_dup C dX4_init_8 ?_
  refine n_init C (iX2 l X) 1 rfl [0] [(h0, .inr (4, [.null]))] rfl (by decide) (by decide) (m_tb_of 73 (by decide +kernel) rfl) (m_tb_of 327 (by decide +kernel) rfl) (m_tb_of 100 (by decide +kernel) rfl) (m_tb_of 101 (by decide +kernel) rfl) rfl (by decide +kernel) ⟨Nat.le_of_ble_eq_true rfl, Nat.le_of_ble_eq_true rfl⟩ hl.1 (Nat.le_of_ble_eq_true rfl) ⟨Nat.le_of_ble_eq_true rfl, Nat.le_of_ble_eq_true rfl⟩ dX4_init_9 (fun uq1 huq1 => ?_)
  subst huq1
  refine n_norm (ws2 := [(h0, .inr (4, [.null])), (uq1 0, .inr (2, [.int 0, .int 0, .ref (uq1 1), .ref (uq1 2), .ref (uq1 3), .ref (uq1 4), .ref (uq1 5), .ref (uq1 6)])), (uq1 1, .inl (X.2.2.1, 5, .inl (fun _ => 0))), (uq1 2, .inl (X.2.2.1, 5, .inl (fun _ => 0))), (uq1 3, .inl (X.2.2.1, 20, .inl (fun _ => 0))), (uq1 4, .inl (X.2.2.1, 20, .inl (fun _ => 0))), (uq1 5, .inl (X.2.2.1, 24, .inl (fun _ => 0))), (uq1 6, .inl (X.2.2.1, 8, .inl (n_fill 8)))]) rfl ?_
  refine n_put C (rf := RX4) (T := TX4) (N := 1) (v := .ref (uq1 0)) 0 rfl rfl ginX4 0 (by decide) (m_tb_of 328 (by decide +kernel) rfl) (ty0 := tyX4) tyX4_ok nmX4 (Or.inr ⟨rfl, hin, rfl⟩) rfl rfl (Nat.le_of_ble_eq_true rfl) dX4_init_12 ?_
  refine n_norm (ws2 := [(h0, .inr (4, [.ref (uq1 0)])), (uq1 0, .inr (2, [.int 0, .int 0, .ref (uq1 1), .ref (uq1 2), .ref (uq1 3), .ref (uq1 4), .ref (uq1 5), .ref (uq1 6)])), (uq1 1, .inl (X.2.2.1, 5, .inl (fun _ => 0))), (uq1 2, .inl (X.2.2.1, 5, .inl (fun _ => 0))), (uq1 3, .inl (X.2.2.1, 20, .inl (fun _ => 0))), (uq1 4, .inl (X.2.2.1, 20, .inl (fun _ => 0))), (uq1 5, .inl (X.2.2.1, 24, .inl (fun _ => 0))), (uq1 6, .inl (X.2.2.1, 8, .inl (n_fill 8)))]) rfl ?_
  exact n_vret (V := V_4 X) C hr dX4_init_15 (fun i => ([h0, uq1 0, uq1 1, uq1 2, uq1 3, uq1 4, uq1 5, uq1 6] : List Nat).getD i 0) rfl [0, 1, 2, 3, 4, 5, 6, 7] rfl rfl (by decide) hlk
