set_option maxRecDepth 20000 in
def kX6_readPart : m_C := m_bt 25 (m_bt 12 (m_bt 6 (m_bt 1 (m_lf 0 (s_ild 1 1)) (m_bt 3 (m_lf 1 (s_push 3 (.inl (100)))) (m_lf 3 (s_icmp 6 12 (fun x y => ¬ x = y))))) (m_bt 8 (m_bt 7 (m_lf 6 (s_ald 7 0)) (m_lf 7 (s_push 8 (.inl (1))))) (m_bt 11 (m_lf 8 (s_callV 11 2 6 wX6_readNumber)) (m_lf 11 (s_retz))))) (m_bt 19 (m_bt 15 (m_bt 13 (m_lf 12 (s_ild 13 1)) (m_lf 13 (s_push 15 (.inl (110))))) (m_bt 18 (m_lf 15 (s_icmp 18 24 (fun x y => ¬ x = y))) (m_lf 18 (s_ald 19 0)))) (m_bt 23 (m_bt 20 (m_lf 19 (s_push 20 (.inl (2)))) (m_lf 20 (s_callV 23 2 6 wX6_readNumber))) (m_bt 24 (m_lf 23 (s_retz)) (m_lf 24 (s_ald 25 0)))))) (m_bt 38 (m_bt 32 (m_bt 26 (m_lf 25 (s_ald 26 0)) (m_bt 29 (m_lf 26 (s_get 29 6 4)) (m_lf 29 (s_callV 32 2 6 wX6_at)))) (m_bt 36 (m_bt 33 (m_lf 32 (s_ild 33 1)) (m_lf 33 (s_icmp 36 38 (fun x y => x = y)))) (m_bt 37 (m_lf 36 (s_push 37 (.inl (0)))) (m_lf 37 (s_retz))))) (m_bt 44 (m_bt 40 (m_bt 39 (m_lf 38 (s_ald 39 0)) (m_lf 39 (s_dup 40))) (m_bt 43 (m_lf 40 (s_get 43 6 4)) (m_lf 43 (s_push 44 (.inl (1)))))) (m_bt 48 (m_bt 45 (m_lf 44 (s_bin 45 (fun x y => m_wrap (x + y)))) (m_lf 45 (s_put 48 6 4))) (m_bt 49 (m_lf 48 (s_push 49 (.inl (1)))) (m_lf 49 (s_retz))))))
theorem kX6_readPart_0 : kX6_readPart 0 = some (s_ild 1 1) := rfl
theorem kX6_readPart_1 : kX6_readPart 1 = some (s_push 3 (.inl (100))) := rfl
theorem kX6_readPart_3 : kX6_readPart 3 = some (s_icmp 6 12 (fun x y => ¬ x = y)) := rfl
theorem kX6_readPart_6 : kX6_readPart 6 = some (s_ald 7 0) := rfl
theorem kX6_readPart_7 : kX6_readPart 7 = some (s_push 8 (.inl (1))) := rfl
theorem kX6_readPart_8 : kX6_readPart 8 = some (s_callV 11 2 6 wX6_readNumber) := rfl
theorem kX6_readPart_11 : kX6_readPart 11 = some (s_retz) := rfl
theorem kX6_readPart_12 : kX6_readPart 12 = some (s_ild 13 1) := rfl
theorem kX6_readPart_13 : kX6_readPart 13 = some (s_push 15 (.inl (110))) := rfl
theorem kX6_readPart_15 : kX6_readPart 15 = some (s_icmp 18 24 (fun x y => ¬ x = y)) := rfl
theorem kX6_readPart_18 : kX6_readPart 18 = some (s_ald 19 0) := rfl
theorem kX6_readPart_19 : kX6_readPart 19 = some (s_push 20 (.inl (2))) := rfl
theorem kX6_readPart_20 : kX6_readPart 20 = some (s_callV 23 2 6 wX6_readNumber) := rfl
theorem kX6_readPart_23 : kX6_readPart 23 = some (s_retz) := rfl
theorem kX6_readPart_24 : kX6_readPart 24 = some (s_ald 25 0) := rfl
theorem kX6_readPart_25 : kX6_readPart 25 = some (s_ald 26 0) := rfl
theorem kX6_readPart_26 : kX6_readPart 26 = some (s_get 29 6 4) := rfl
theorem kX6_readPart_29 : kX6_readPart 29 = some (s_callV 32 2 6 wX6_at) := rfl
theorem kX6_readPart_32 : kX6_readPart 32 = some (s_ild 33 1) := rfl
theorem kX6_readPart_33 : kX6_readPart 33 = some (s_icmp 36 38 (fun x y => x = y)) := rfl
theorem kX6_readPart_36 : kX6_readPart 36 = some (s_push 37 (.inl (0))) := rfl
theorem kX6_readPart_37 : kX6_readPart 37 = some (s_retz) := rfl
theorem kX6_readPart_38 : kX6_readPart 38 = some (s_ald 39 0) := rfl
theorem kX6_readPart_39 : kX6_readPart 39 = some (s_dup 40) := rfl
theorem kX6_readPart_40 : kX6_readPart 40 = some (s_get 43 6 4) := rfl
theorem kX6_readPart_43 : kX6_readPart 43 = some (s_push 44 (.inl (1))) := rfl
theorem kX6_readPart_44 : kX6_readPart 44 = some (s_bin 45 (fun x y => m_wrap (x + y))) := rfl
theorem kX6_readPart_45 : kX6_readPart 45 = some (s_put 48 6 4) := rfl
theorem kX6_readPart_48 : kX6_readPart 48 = some (s_push 49 (.inl (1))) := rfl
theorem kX6_readPart_49 : kX6_readPart 49 = some (s_retz) := rfl
def wX6_readPart : m_GK := m_wp 2 kX6_readPart
set_option maxRecDepth 100000 in
set_option maxHeartbeats 4000000 in
theorem sX6_readPart (l : Launch) (X : m_X) (hX : m_inj X.1) : m_Sound l X 3 yX6_readPart cX6_readPart 2 (some .boolean) wX6_readPart := m_sound_of hX (by decide) (fun p e s m args below meth c q C hr => m_bt_all (m_bt_all (m_bt_all (m_bt_all (m_lf_all (o_iload_n C (i := 1) rfl dX6_readPart_0 rfl)) (m_bt_all (m_lf_all (o_bipush C (x := (100)) (m_rngd rfl) rfl dX6_readPart_1 rfl)) (m_lf_all (o_icmp_ne C dX6_readPart_3 rfl rfl)))) (m_bt_all (m_bt_all (m_lf_all (o_aload_n C (i := 0) rfl dX6_readPart_6 rfl)) (m_lf_all (o_iconst C (x := (1)) (m_rngd rfl) dX6_readPart_7 rfl))) (m_bt_all (m_lf_all (o_callV C (T := TX6) (N := 6) (sX6_readNumber l X hX) rfl (m_in_of [491, 493, 5, 74] (by decide +kernel) (by decide +kernel)) (m_tb_of 494 (by decide +kernel) rfl) (by decide +kernel) rfl ⟨Nat.le_of_ble_eq_true rfl, Nat.le_of_ble_eq_true rfl⟩ dX6_readPart_8 rfl)) (m_lf_all (o_zret C hr dX6_readPart_11))))) (m_bt_all (m_bt_all (m_bt_all (m_lf_all (o_iload_n C (i := 1) rfl dX6_readPart_12 rfl)) (m_lf_all (o_bipush C (x := (110)) (m_rngd rfl) rfl dX6_readPart_13 rfl))) (m_bt_all (m_lf_all (o_icmp_ne C dX6_readPart_15 rfl rfl)) (m_lf_all (o_aload_n C (i := 0) rfl dX6_readPart_18 rfl)))) (m_bt_all (m_bt_all (m_lf_all (o_iconst C (x := (2)) (m_rngd rfl) dX6_readPart_19 rfl)) (m_lf_all (o_callV C (T := TX6) (N := 6) (sX6_readNumber l X hX) rfl (m_in_of [491, 493, 5, 74] (by decide +kernel) (by decide +kernel)) (m_tb_of 494 (by decide +kernel) rfl) (by decide +kernel) rfl ⟨Nat.le_of_ble_eq_true rfl, Nat.le_of_ble_eq_true rfl⟩ dX6_readPart_20 rfl))) (m_bt_all (m_lf_all (o_zret C hr dX6_readPart_23)) (m_lf_all (o_aload_n C (i := 0) rfl dX6_readPart_24 rfl)))))) (m_bt_all (m_bt_all (m_bt_all (m_lf_all (o_aload_n C (i := 0) rfl dX6_readPart_25 rfl)) (m_bt_all (m_lf_all (o_get C (ci := 6) (k := 4) (N := 6) (rf := RX6) (T := TX6) rfl ginX6 (Nat.le_of_ble_eq_true rfl) (m_tb_of 161 (by decide +kernel) rfl) dX6_readPart_26 rfl)) (m_lf_all (o_callV C (T := TX6) (N := 6) (sX6_at l X hX) rfl (m_in_of [424, 426, 3, 74] (by decide +kernel) (by decide +kernel)) (m_tb_of 427 (by decide +kernel) rfl) (by decide +kernel) rfl ⟨Nat.le_of_ble_eq_true rfl, Nat.le_of_ble_eq_true rfl⟩ dX6_readPart_29 rfl)))) (m_bt_all (m_bt_all (m_lf_all (o_iload_n C (i := 1) rfl dX6_readPart_32 rfl)) (m_lf_all (o_icmp_eq C dX6_readPart_33 rfl rfl))) (m_bt_all (m_lf_all (o_iconst C (x := (0)) (m_rngd rfl) dX6_readPart_36 rfl)) (m_lf_all (o_zret C hr dX6_readPart_37))))) (m_bt_all (m_bt_all (m_bt_all (m_lf_all (o_aload_n C (i := 0) rfl dX6_readPart_38 rfl)) (m_lf_all (o_dup C dX6_readPart_39 rfl))) (m_bt_all (m_lf_all (o_get C (ci := 6) (k := 4) (N := 6) (rf := RX6) (T := TX6) rfl ginX6 (Nat.le_of_ble_eq_true rfl) (m_tb_of 161 (by decide +kernel) rfl) dX6_readPart_40 rfl)) (m_lf_all (o_iconst C (x := (1)) (m_rngd rfl) dX6_readPart_43 rfl)))) (m_bt_all (m_bt_all (m_lf_all (o_iadd C dX6_readPart_44 rfl)) (m_lf_all (o_put C (ci := 6) (k := 4) (N := 6) (rf := RX6) (T := TX6) rfl ginX6 (Nat.le_of_ble_eq_true rfl) (m_tb_of 161 (by decide +kernel) rfl) (ty0 := tyX6) tyX6_ok nmX6 rfl rfl dX6_readPart_45 rfl))) (m_bt_all (m_lf_all (o_iconst C (x := (1)) (m_rngd rfl) dX6_readPart_48 rfl)) (m_lf_all (o_zret C hr dX6_readPart_49)))))))
set_option maxRecDepth 20000 in
def kX6_readStatement : m_C := m_bt 33 (m_bt 19 (m_bt 8 (m_bt 2 (m_bt 1 (m_lf 0 (s_ald 1 0)) (m_lf 1 (s_ald 2 0))) (m_bt 5 (m_lf 2 (s_get 5 6 4)) (m_lf 5 (s_callV 8 2 6 wX6_at)))) (m_bt 12 (m_bt 11 (m_lf 8 (s_callS 11 1 wX6_formOf)) (m_lf 11 (s_ast 12 1))) (m_bt 13 (m_lf 12 (s_ald 13 1)) (m_bt 16 (m_lf 13 (s_callT 16 1 wJ0_isEmpty_aae02)) (m_lf 16 (s_if 19 21 (fun x => x = 0))))))) (m_bt 26 (m_bt 21 (m_bt 20 (m_lf 19 (s_push 20 (.inl (0)))) (m_lf 20 (s_retz))) (m_bt 22 (m_lf 21 (s_ald 22 0)) (m_bt 23 (m_lf 22 (s_dup 23)) (m_lf 23 (s_get 26 6 4))))) (m_bt 28 (m_bt 27 (m_lf 26 (s_push 27 (.inl (1)))) (m_lf 27 (s_bin 28 (fun x y => m_wrap (x + y))))) (m_bt 31 (m_lf 28 (s_put 31 6 4)) (m_bt 32 (m_lf 31 (s_ald 32 0)) (m_lf 32 (s_push 33 (.inl (0))))))))) (m_bt 48 (m_bt 39 (m_bt 37 (m_bt 36 (m_lf 33 (s_put 36 6 5)) (m_lf 36 (s_push 37 (.inl (0))))) (m_bt 38 (m_lf 37 (s_ist 38 2)) (m_lf 38 (s_ild 39 2)))) (m_bt 43 (m_bt 40 (m_lf 39 (s_ald 40 1)) (m_lf 40 (s_callT 43 1 wJ0_length_8abf5))) (m_bt 46 (m_lf 43 (s_icmp 46 66 (fun x y => y ≤ x))) (m_bt 47 (m_lf 46 (s_ald 47 0)) (m_lf 47 (s_ald 48 1)))))) (m_bt 59 (m_bt 52 (m_bt 49 (m_lf 48 (s_ild 49 2)) (m_lf 49 (s_callT 52 2 wJ0_charAt_5068e))) (m_bt 55 (m_lf 52 (s_callV 55 2 6 wX6_readPart)) (m_bt 58 (m_lf 55 (s_if 58 60 (fun x => ¬ x = 0))) (m_lf 58 (s_push 59 (.inl (0))))))) (m_bt 63 (m_bt 60 (m_lf 59 (s_retz)) (m_lf 60 (s_inc 63 2 (1)))) (m_bt 66 (m_lf 63 (s_goto 38)) (m_bt 67 (m_lf 66 (s_push 67 (.inl (1)))) (m_lf 67 (s_retz)))))))
theorem kX6_readStatement_0 : kX6_readStatement 0 = some (s_ald 1 0) := rfl
theorem kX6_readStatement_1 : kX6_readStatement 1 = some (s_ald 2 0) := rfl
theorem kX6_readStatement_2 : kX6_readStatement 2 = some (s_get 5 6 4) := rfl
theorem kX6_readStatement_5 : kX6_readStatement 5 = some (s_callV 8 2 6 wX6_at) := rfl
theorem kX6_readStatement_8 : kX6_readStatement 8 = some (s_callS 11 1 wX6_formOf) := rfl
theorem kX6_readStatement_11 : kX6_readStatement 11 = some (s_ast 12 1) := rfl
theorem kX6_readStatement_12 : kX6_readStatement 12 = some (s_ald 13 1) := rfl
theorem kX6_readStatement_13 : kX6_readStatement 13 = some (s_callT 16 1 wJ0_isEmpty_aae02) := rfl
theorem kX6_readStatement_16 : kX6_readStatement 16 = some (s_if 19 21 (fun x => x = 0)) := rfl
theorem kX6_readStatement_19 : kX6_readStatement 19 = some (s_push 20 (.inl (0))) := rfl
theorem kX6_readStatement_20 : kX6_readStatement 20 = some (s_retz) := rfl
theorem kX6_readStatement_21 : kX6_readStatement 21 = some (s_ald 22 0) := rfl
theorem kX6_readStatement_22 : kX6_readStatement 22 = some (s_dup 23) := rfl
theorem kX6_readStatement_23 : kX6_readStatement 23 = some (s_get 26 6 4) := rfl
theorem kX6_readStatement_26 : kX6_readStatement 26 = some (s_push 27 (.inl (1))) := rfl
theorem kX6_readStatement_27 : kX6_readStatement 27 = some (s_bin 28 (fun x y => m_wrap (x + y))) := rfl
theorem kX6_readStatement_28 : kX6_readStatement 28 = some (s_put 31 6 4) := rfl
theorem kX6_readStatement_31 : kX6_readStatement 31 = some (s_ald 32 0) := rfl
theorem kX6_readStatement_32 : kX6_readStatement 32 = some (s_push 33 (.inl (0))) := rfl
theorem kX6_readStatement_33 : kX6_readStatement 33 = some (s_put 36 6 5) := rfl
theorem kX6_readStatement_36 : kX6_readStatement 36 = some (s_push 37 (.inl (0))) := rfl
theorem kX6_readStatement_37 : kX6_readStatement 37 = some (s_ist 38 2) := rfl
theorem kX6_readStatement_38 : kX6_readStatement 38 = some (s_ild 39 2) := rfl
theorem kX6_readStatement_39 : kX6_readStatement 39 = some (s_ald 40 1) := rfl
theorem kX6_readStatement_40 : kX6_readStatement 40 = some (s_callT 43 1 wJ0_length_8abf5) := rfl
theorem kX6_readStatement_43 : kX6_readStatement 43 = some (s_icmp 46 66 (fun x y => y ≤ x)) := rfl
theorem kX6_readStatement_46 : kX6_readStatement 46 = some (s_ald 47 0) := rfl
theorem kX6_readStatement_47 : kX6_readStatement 47 = some (s_ald 48 1) := rfl
theorem kX6_readStatement_48 : kX6_readStatement 48 = some (s_ild 49 2) := rfl
theorem kX6_readStatement_49 : kX6_readStatement 49 = some (s_callT 52 2 wJ0_charAt_5068e) := rfl
theorem kX6_readStatement_52 : kX6_readStatement 52 = some (s_callV 55 2 6 wX6_readPart) := rfl
theorem kX6_readStatement_55 : kX6_readStatement 55 = some (s_if 58 60 (fun x => ¬ x = 0)) := rfl
theorem kX6_readStatement_58 : kX6_readStatement 58 = some (s_push 59 (.inl (0))) := rfl
theorem kX6_readStatement_59 : kX6_readStatement 59 = some (s_retz) := rfl
theorem kX6_readStatement_60 : kX6_readStatement 60 = some (s_inc 63 2 (1)) := rfl
theorem kX6_readStatement_63 : kX6_readStatement 63 = some (s_goto 38) := rfl
theorem kX6_readStatement_66 : kX6_readStatement 66 = some (s_push 67 (.inl (1))) := rfl
theorem kX6_readStatement_67 : kX6_readStatement 67 = some (s_retz) := rfl
def wX6_readStatement : m_GK := m_wp 3 kX6_readStatement
set_option maxRecDepth 100000 in
set_option maxHeartbeats 4000000 in
theorem sX6_readStatement (l : Launch) (X : m_X) (hX : m_inj X.1) : m_Sound l X 5 yX6_readStatement cX6_readStatement 3 (some .boolean) wX6_readStatement := m_sound_of hX (by decide) (fun p e s m args below meth c q C hr => m_bt_all (m_bt_all (m_bt_all (m_bt_all (m_bt_all (m_lf_all (o_aload_n C (i := 0) rfl dX6_readStatement_0 rfl)) (m_lf_all (o_aload_n C (i := 0) rfl dX6_readStatement_1 rfl))) (m_bt_all (m_lf_all (o_get C (ci := 6) (k := 4) (N := 6) (rf := RX6) (T := TX6) rfl ginX6 (Nat.le_of_ble_eq_true rfl) (m_tb_of 161 (by decide +kernel) rfl) dX6_readStatement_2 rfl)) (m_lf_all (o_callV C (T := TX6) (N := 6) (sX6_at l X hX) rfl (m_in_of [424, 426, 3, 74] (by decide +kernel) (by decide +kernel)) (m_tb_of 427 (by decide +kernel) rfl) (by decide +kernel) rfl ⟨Nat.le_of_ble_eq_true rfl, Nat.le_of_ble_eq_true rfl⟩ dX6_readStatement_5 rfl)))) (m_bt_all (m_bt_all (m_lf_all (o_callS C (sX6_formOf l X hX) (m_in_of [428, 429, 74] (by decide +kernel) (by decide +kernel)) (m_tb_of 430 (by decide +kernel) rfl) (by decide +kernel) ⟨Nat.le_of_ble_eq_true rfl, Nat.le_of_ble_eq_true rfl⟩ dX6_readStatement_8 rfl)) (m_lf_all (o_astore_n C (i := 1) rfl dX6_readStatement_11 rfl))) (m_bt_all (m_lf_all (o_aload_n C (i := 1) rfl dX6_readStatement_12 rfl)) (m_bt_all (m_lf_all (o_callT C (sJ0_isEmpty_aae02 l X hX) rfl (m_in_of [435, 436, 437, 82] (by decide +kernel) (by decide +kernel)) (m_tb_of 438 (by decide +kernel) rfl) (by decide +kernel) rfl ⟨Nat.le_of_ble_eq_true rfl, Nat.le_of_ble_eq_true rfl⟩ dX6_readStatement_13 rfl)) (m_lf_all (o_if_eq C dX6_readStatement_16 rfl rfl)))))) (m_bt_all (m_bt_all (m_bt_all (m_lf_all (o_iconst C (x := (0)) (m_rngd rfl) dX6_readStatement_19 rfl)) (m_lf_all (o_zret C hr dX6_readStatement_20))) (m_bt_all (m_lf_all (o_aload_n C (i := 0) rfl dX6_readStatement_21 rfl)) (m_bt_all (m_lf_all (o_dup C dX6_readStatement_22 rfl)) (m_lf_all (o_get C (ci := 6) (k := 4) (N := 6) (rf := RX6) (T := TX6) rfl ginX6 (Nat.le_of_ble_eq_true rfl) (m_tb_of 161 (by decide +kernel) rfl) dX6_readStatement_23 rfl))))) (m_bt_all (m_bt_all (m_lf_all (o_iconst C (x := (1)) (m_rngd rfl) dX6_readStatement_26 rfl)) (m_lf_all (o_iadd C dX6_readStatement_27 rfl))) (m_bt_all (m_lf_all (o_put C (ci := 6) (k := 4) (N := 6) (rf := RX6) (T := TX6) rfl ginX6 (Nat.le_of_ble_eq_true rfl) (m_tb_of 161 (by decide +kernel) rfl) (ty0 := tyX6) tyX6_ok nmX6 rfl rfl dX6_readStatement_28 rfl)) (m_bt_all (m_lf_all (o_aload_n C (i := 0) rfl dX6_readStatement_31 rfl)) (m_lf_all (o_iconst C (x := (0)) (m_rngd rfl) dX6_readStatement_32 rfl))))))) (m_bt_all (m_bt_all (m_bt_all (m_bt_all (m_lf_all (o_put C (ci := 6) (k := 5) (N := 6) (rf := RX6) (T := TX6) rfl ginX6 (Nat.le_of_ble_eq_true rfl) (m_tb_of 162 (by decide +kernel) rfl) (ty0 := tyX6) tyX6_ok nmX6 rfl rfl dX6_readStatement_33 rfl)) (m_lf_all (o_iconst C (x := (0)) (m_rngd rfl) dX6_readStatement_36 rfl))) (m_bt_all (m_lf_all (o_istore_n C (i := 2) rfl dX6_readStatement_37 rfl)) (m_lf_all (o_iload_n C (i := 2) rfl dX6_readStatement_38 rfl)))) (m_bt_all (m_bt_all (m_lf_all (o_aload_n C (i := 1) rfl dX6_readStatement_39 rfl)) (m_lf_all (o_callT C (sJ0_length_8abf5 l X hX) rfl (m_in_of [439, 440, 441, 82] (by decide +kernel) (by decide +kernel)) (m_tb_of 442 (by decide +kernel) rfl) (by decide +kernel) rfl ⟨Nat.le_of_ble_eq_true rfl, Nat.le_of_ble_eq_true rfl⟩ dX6_readStatement_40 rfl))) (m_bt_all (m_lf_all (o_icmp_ge C dX6_readStatement_43 rfl rfl)) (m_bt_all (m_lf_all (o_aload_n C (i := 0) rfl dX6_readStatement_46 rfl)) (m_lf_all (o_aload_n C (i := 1) rfl dX6_readStatement_47 rfl)))))) (m_bt_all (m_bt_all (m_bt_all (m_lf_all (o_iload_n C (i := 2) rfl dX6_readStatement_48 rfl)) (m_lf_all (o_callT C (sJ0_charAt_5068e l X hX) rfl (m_in_of [449, 450, 451, 82] (by decide +kernel) (by decide +kernel)) (m_tb_of 452 (by decide +kernel) rfl) (by decide +kernel) rfl ⟨Nat.le_of_ble_eq_true rfl, Nat.le_of_ble_eq_true rfl⟩ dX6_readStatement_49 rfl))) (m_bt_all (m_lf_all (o_callV C (T := TX6) (N := 6) (sX6_readPart l X hX) rfl (m_in_of [487, 489, 4, 74] (by decide +kernel) (by decide +kernel)) (m_tb_of 490 (by decide +kernel) rfl) (by decide +kernel) rfl ⟨Nat.le_of_ble_eq_true rfl, Nat.le_of_ble_eq_true rfl⟩ dX6_readStatement_52 rfl)) (m_bt_all (m_lf_all (o_if_ne C dX6_readStatement_55 rfl rfl)) (m_lf_all (o_iconst C (x := (0)) (m_rngd rfl) dX6_readStatement_58 rfl))))) (m_bt_all (m_bt_all (m_lf_all (o_zret C hr dX6_readStatement_59)) (m_lf_all (o_iinc C dX6_readStatement_60 rfl))) (m_bt_all (m_lf_all (o_goto C dX6_readStatement_63 rfl)) (m_bt_all (m_lf_all (o_iconst C (x := (1)) (m_rngd rfl) dX6_readStatement_66 rfl)) (m_lf_all (o_zret C hr dX6_readStatement_67))))))))
set_option maxRecDepth 20000 in
def kX6_isWellFormed : m_C := m_bt 21 (m_bt 8 (m_bt 5 (m_bt 1 (m_lf 0 (s_ald 1 0)) (m_bt 2 (m_lf 1 (s_push 2 (.inl (0)))) (m_lf 2 (s_put 5 6 4)))) (m_bt 6 (m_lf 5 (s_push 6 (.inl (0)))) (m_bt 7 (m_lf 6 (s_ist 7 1)) (m_lf 7 (s_ild 8 1))))) (m_bt 14 (m_bt 10 (m_lf 8 (s_push 10 (.inl (64)))) (m_bt 13 (m_lf 10 (s_icmp 13 41 (fun x y => y ≤ x))) (m_lf 13 (s_ald 14 0)))) (m_bt 17 (m_lf 14 (s_callV 17 1 6 wX6_readStatement)) (m_bt 20 (m_lf 17 (s_if 20 22 (fun x => ¬ x = 0))) (m_lf 20 (s_push 21 (.inl (0)))))))) (m_bt 33 (m_bt 26 (m_bt 22 (m_lf 21 (s_retz)) (m_bt 23 (m_lf 22 (s_ald 23 0)) (m_lf 23 (s_get 26 6 4)))) (m_bt 27 (m_lf 26 (s_ald 27 0)) (m_bt 30 (m_lf 27 (s_get 30 6 0)) (m_lf 30 (s_icmp 33 35 (fun x y => x < y)))))) (m_bt 38 (m_bt 34 (m_lf 33 (s_push 34 (.inl (1)))) (m_bt 35 (m_lf 34 (s_retz)) (m_lf 35 (s_inc 38 1 (1))))) (m_bt 41 (m_lf 38 (s_goto 7)) (m_bt 42 (m_lf 41 (s_push 42 (.inl (0)))) (m_lf 42 (s_retz))))))
theorem kX6_isWellFormed_0 : kX6_isWellFormed 0 = some (s_ald 1 0) := rfl
theorem kX6_isWellFormed_1 : kX6_isWellFormed 1 = some (s_push 2 (.inl (0))) := rfl
theorem kX6_isWellFormed_2 : kX6_isWellFormed 2 = some (s_put 5 6 4) := rfl
theorem kX6_isWellFormed_5 : kX6_isWellFormed 5 = some (s_push 6 (.inl (0))) := rfl
theorem kX6_isWellFormed_6 : kX6_isWellFormed 6 = some (s_ist 7 1) := rfl
theorem kX6_isWellFormed_7 : kX6_isWellFormed 7 = some (s_ild 8 1) := rfl
theorem kX6_isWellFormed_8 : kX6_isWellFormed 8 = some (s_push 10 (.inl (64))) := rfl
theorem kX6_isWellFormed_10 : kX6_isWellFormed 10 = some (s_icmp 13 41 (fun x y => y ≤ x)) := rfl
theorem kX6_isWellFormed_13 : kX6_isWellFormed 13 = some (s_ald 14 0) := rfl
theorem kX6_isWellFormed_14 : kX6_isWellFormed 14 = some (s_callV 17 1 6 wX6_readStatement) := rfl
theorem kX6_isWellFormed_17 : kX6_isWellFormed 17 = some (s_if 20 22 (fun x => ¬ x = 0)) := rfl
theorem kX6_isWellFormed_20 : kX6_isWellFormed 20 = some (s_push 21 (.inl (0))) := rfl
theorem kX6_isWellFormed_21 : kX6_isWellFormed 21 = some (s_retz) := rfl
theorem kX6_isWellFormed_22 : kX6_isWellFormed 22 = some (s_ald 23 0) := rfl
theorem kX6_isWellFormed_23 : kX6_isWellFormed 23 = some (s_get 26 6 4) := rfl
theorem kX6_isWellFormed_26 : kX6_isWellFormed 26 = some (s_ald 27 0) := rfl
theorem kX6_isWellFormed_27 : kX6_isWellFormed 27 = some (s_get 30 6 0) := rfl
theorem kX6_isWellFormed_30 : kX6_isWellFormed 30 = some (s_icmp 33 35 (fun x y => x < y)) := rfl
theorem kX6_isWellFormed_33 : kX6_isWellFormed 33 = some (s_push 34 (.inl (1))) := rfl
theorem kX6_isWellFormed_34 : kX6_isWellFormed 34 = some (s_retz) := rfl
theorem kX6_isWellFormed_35 : kX6_isWellFormed 35 = some (s_inc 38 1 (1)) := rfl
theorem kX6_isWellFormed_38 : kX6_isWellFormed 38 = some (s_goto 7) := rfl
theorem kX6_isWellFormed_41 : kX6_isWellFormed 41 = some (s_push 42 (.inl (0))) := rfl
theorem kX6_isWellFormed_42 : kX6_isWellFormed 42 = some (s_retz) := rfl
def wX6_isWellFormed : m_GK := m_wp 2 kX6_isWellFormed
set_option maxRecDepth 100000 in
set_option maxHeartbeats 4000000 in
theorem sX6_isWellFormed (l : Launch) (X : m_X) (hX : m_inj X.1) : m_Sound l X 6 yX6_isWellFormed cX6_isWellFormed 2 (some .boolean) wX6_isWellFormed := m_sound_of hX (by decide) (fun p e s m args below meth c q C hr => m_bt_all (m_bt_all (m_bt_all (m_bt_all (m_lf_all (o_aload_n C (i := 0) rfl dX6_isWellFormed_0 rfl)) (m_bt_all (m_lf_all (o_iconst C (x := (0)) (m_rngd rfl) dX6_isWellFormed_1 rfl)) (m_lf_all (o_put C (ci := 6) (k := 4) (N := 6) (rf := RX6) (T := TX6) rfl ginX6 (Nat.le_of_ble_eq_true rfl) (m_tb_of 161 (by decide +kernel) rfl) (ty0 := tyX6) tyX6_ok nmX6 rfl rfl dX6_isWellFormed_2 rfl)))) (m_bt_all (m_lf_all (o_iconst C (x := (0)) (m_rngd rfl) dX6_isWellFormed_5 rfl)) (m_bt_all (m_lf_all (o_istore_n C (i := 1) rfl dX6_isWellFormed_6 rfl)) (m_lf_all (o_iload_n C (i := 1) rfl dX6_isWellFormed_7 rfl))))) (m_bt_all (m_bt_all (m_lf_all (o_bipush C (x := (64)) (m_rngd rfl) rfl dX6_isWellFormed_8 rfl)) (m_bt_all (m_lf_all (o_icmp_ge C dX6_isWellFormed_10 rfl rfl)) (m_lf_all (o_aload_n C (i := 0) rfl dX6_isWellFormed_13 rfl)))) (m_bt_all (m_lf_all (o_callV C (T := TX6) (N := 6) (sX6_readStatement l X hX) rfl (m_in_of [420, 422, 2, 74] (by decide +kernel) (by decide +kernel)) (m_tb_of 423 (by decide +kernel) rfl) (by decide +kernel) rfl ⟨Nat.le_of_ble_eq_true rfl, Nat.le_of_ble_eq_true rfl⟩ dX6_isWellFormed_14 rfl)) (m_bt_all (m_lf_all (o_if_ne C dX6_isWellFormed_17 rfl rfl)) (m_lf_all (o_iconst C (x := (0)) (m_rngd rfl) dX6_isWellFormed_20 rfl)))))) (m_bt_all (m_bt_all (m_bt_all (m_lf_all (o_zret C hr dX6_isWellFormed_21)) (m_bt_all (m_lf_all (o_aload_n C (i := 0) rfl dX6_isWellFormed_22 rfl)) (m_lf_all (o_get C (ci := 6) (k := 4) (N := 6) (rf := RX6) (T := TX6) rfl ginX6 (Nat.le_of_ble_eq_true rfl) (m_tb_of 161 (by decide +kernel) rfl) dX6_isWellFormed_23 rfl)))) (m_bt_all (m_lf_all (o_aload_n C (i := 0) rfl dX6_isWellFormed_26 rfl)) (m_bt_all (m_lf_all (o_get C (ci := 6) (k := 0) (N := 6) (rf := RX6) (T := TX6) rfl ginX6 (Nat.le_of_ble_eq_true rfl) (m_tb_of 156 (by decide +kernel) rfl) dX6_isWellFormed_27 rfl)) (m_lf_all (o_icmp_lt C dX6_isWellFormed_30 rfl rfl))))) (m_bt_all (m_bt_all (m_lf_all (o_iconst C (x := (1)) (m_rngd rfl) dX6_isWellFormed_33 rfl)) (m_bt_all (m_lf_all (o_zret C hr dX6_isWellFormed_34)) (m_lf_all (o_iinc C dX6_isWellFormed_35 rfl)))) (m_bt_all (m_lf_all (o_goto C dX6_isWellFormed_38 rfl)) (m_bt_all (m_lf_all (o_iconst C (x := (0)) (m_rngd rfl) dX6_isWellFormed_41 rfl)) (m_lf_all (o_zret C hr dX6_isWellFormed_42)))))))
set_option maxRecDepth 20000 in
def kX6_tell : m_C := m_bt 88 (m_bt 64 (m_bt 53 (m_bt 45 (m_bt 1 (m_lf 0 (s_ild 1 1)) (m_bt 44 (m_lf 1 (s_sw [(97, 78), (108, 64), (113, 104), (115, 44)] 130)) (m_lf 44 (s_ald 45 0)))) (m_bt 49 (m_bt 48 (m_lf 45 (s_get 48 6 3)) (m_lf 48 (s_ald 49 0))) (m_bt 52 (m_lf 49 (s_get 52 6 2)) (m_lf 52 (s_push 53 (.inl (0))))))) (m_bt 58 (m_bt 54 (m_lf 53 (s_iald 54)) (m_bt 55 (m_lf 54 (s_ald 55 0)) (m_lf 55 (s_get 58 6 2)))) (m_bt 60 (m_bt 59 (m_lf 58 (s_push 59 (.inl (1)))) (m_lf 59 (s_iald 60))) (m_bt 63 (m_lf 60 (s_callV 63 3 2 wX2_addSort)) (m_lf 63 (s_retz)))))) (m_bt 77 (m_bt 69 (m_bt 65 (m_lf 64 (s_ald 65 0)) (m_bt 68 (m_lf 65 (s_get 68 6 3)) (m_lf 68 (s_ald 69 0)))) (m_bt 73 (m_bt 72 (m_lf 69 (s_get 72 6 2)) (m_lf 72 (s_push 73 (.inl (0))))) (m_bt 74 (m_lf 73 (s_iald 74)) (m_lf 74 (s_callV 77 2 2 wX2_addLane))))) (m_bt 82 (m_bt 78 (m_lf 77 (s_retz)) (m_bt 79 (m_lf 78 (s_ald 79 0)) (m_lf 79 (s_get 82 6 3)))) (m_bt 86 (m_bt 83 (m_lf 82 (s_ald 83 0)) (m_lf 83 (s_get 86 6 2))) (m_bt 87 (m_lf 86 (s_push 87 (.inl (0)))) (m_lf 87 (s_iald 88))))))) (m_bt 112 (m_bt 99 (m_bt 93 (m_bt 89 (m_lf 88 (s_ald 89 0)) (m_bt 92 (m_lf 89 (s_get 92 6 2)) (m_lf 92 (s_push 93 (.inl (1)))))) (m_bt 95 (m_bt 94 (m_lf 93 (s_iald 94)) (m_lf 94 (s_ald 95 0))) (m_bt 98 (m_lf 95 (s_get 98 6 2)) (m_lf 98 (s_push 99 (.inl (2))))))) (m_bt 104 (m_bt 100 (m_lf 99 (s_iald 100)) (m_bt 103 (m_lf 100 (s_callV 103 4 2 wX2_addComers)) (m_lf 103 (s_retz)))) (m_bt 108 (m_bt 105 (m_lf 104 (s_ald 105 0)) (m_lf 105 (s_get 108 6 3))) (m_bt 109 (m_lf 108 (s_ald 109 0)) (m_lf 109 (s_get 112 6 2)))))) (m_bt 121 (m_bt 115 (m_bt 113 (m_lf 112 (s_push 113 (.inl (0)))) (m_bt 114 (m_lf 113 (s_iald 114)) (m_lf 114 (s_ald 115 0)))) (m_bt 119 (m_bt 118 (m_lf 115 (s_get 118 6 2)) (m_lf 118 (s_push 119 (.inl (1))))) (m_bt 120 (m_lf 119 (s_iald 120)) (m_lf 120 (s_ald 121 0))))) (m_bt 126 (m_bt 124 (m_lf 121 (s_get 124 6 2)) (m_bt 125 (m_lf 124 (s_push 125 (.inl (2)))) (m_lf 125 (s_iald 126)))) (m_bt 130 (m_bt 129 (m_lf 126 (s_callV 129 4 2 wX2_addChange)) (m_lf 129 (s_retz))) (m_bt 131 (m_lf 130 (s_push 131 (.inl (0)))) (m_lf 131 (s_retz)))))))
theorem kX6_tell_0 : kX6_tell 0 = some (s_ild 1 1) := rfl
theorem kX6_tell_1 : kX6_tell 1 = some (s_sw [(97, 78), (108, 64), (113, 104), (115, 44)] 130) := rfl
theorem kX6_tell_44 : kX6_tell 44 = some (s_ald 45 0) := rfl
theorem kX6_tell_45 : kX6_tell 45 = some (s_get 48 6 3) := rfl
theorem kX6_tell_48 : kX6_tell 48 = some (s_ald 49 0) := rfl
theorem kX6_tell_49 : kX6_tell 49 = some (s_get 52 6 2) := rfl
theorem kX6_tell_52 : kX6_tell 52 = some (s_push 53 (.inl (0))) := rfl
theorem kX6_tell_53 : kX6_tell 53 = some (s_iald 54) := rfl
theorem kX6_tell_54 : kX6_tell 54 = some (s_ald 55 0) := rfl
theorem kX6_tell_55 : kX6_tell 55 = some (s_get 58 6 2) := rfl
theorem kX6_tell_58 : kX6_tell 58 = some (s_push 59 (.inl (1))) := rfl
theorem kX6_tell_59 : kX6_tell 59 = some (s_iald 60) := rfl
theorem kX6_tell_60 : kX6_tell 60 = some (s_callV 63 3 2 wX2_addSort) := rfl
theorem kX6_tell_63 : kX6_tell 63 = some (s_retz) := rfl
theorem kX6_tell_64 : kX6_tell 64 = some (s_ald 65 0) := rfl
theorem kX6_tell_65 : kX6_tell 65 = some (s_get 68 6 3) := rfl
theorem kX6_tell_68 : kX6_tell 68 = some (s_ald 69 0) := rfl
theorem kX6_tell_69 : kX6_tell 69 = some (s_get 72 6 2) := rfl
theorem kX6_tell_72 : kX6_tell 72 = some (s_push 73 (.inl (0))) := rfl
theorem kX6_tell_73 : kX6_tell 73 = some (s_iald 74) := rfl
theorem kX6_tell_74 : kX6_tell 74 = some (s_callV 77 2 2 wX2_addLane) := rfl
theorem kX6_tell_77 : kX6_tell 77 = some (s_retz) := rfl
theorem kX6_tell_78 : kX6_tell 78 = some (s_ald 79 0) := rfl
theorem kX6_tell_79 : kX6_tell 79 = some (s_get 82 6 3) := rfl
theorem kX6_tell_82 : kX6_tell 82 = some (s_ald 83 0) := rfl
theorem kX6_tell_83 : kX6_tell 83 = some (s_get 86 6 2) := rfl
theorem kX6_tell_86 : kX6_tell 86 = some (s_push 87 (.inl (0))) := rfl
theorem kX6_tell_87 : kX6_tell 87 = some (s_iald 88) := rfl
theorem kX6_tell_88 : kX6_tell 88 = some (s_ald 89 0) := rfl
theorem kX6_tell_89 : kX6_tell 89 = some (s_get 92 6 2) := rfl
theorem kX6_tell_92 : kX6_tell 92 = some (s_push 93 (.inl (1))) := rfl
theorem kX6_tell_93 : kX6_tell 93 = some (s_iald 94) := rfl
theorem kX6_tell_94 : kX6_tell 94 = some (s_ald 95 0) := rfl
theorem kX6_tell_95 : kX6_tell 95 = some (s_get 98 6 2) := rfl
theorem kX6_tell_98 : kX6_tell 98 = some (s_push 99 (.inl (2))) := rfl
theorem kX6_tell_99 : kX6_tell 99 = some (s_iald 100) := rfl
theorem kX6_tell_100 : kX6_tell 100 = some (s_callV 103 4 2 wX2_addComers) := rfl
theorem kX6_tell_103 : kX6_tell 103 = some (s_retz) := rfl
theorem kX6_tell_104 : kX6_tell 104 = some (s_ald 105 0) := rfl
theorem kX6_tell_105 : kX6_tell 105 = some (s_get 108 6 3) := rfl
theorem kX6_tell_108 : kX6_tell 108 = some (s_ald 109 0) := rfl
theorem kX6_tell_109 : kX6_tell 109 = some (s_get 112 6 2) := rfl
theorem kX6_tell_112 : kX6_tell 112 = some (s_push 113 (.inl (0))) := rfl
theorem kX6_tell_113 : kX6_tell 113 = some (s_iald 114) := rfl
theorem kX6_tell_114 : kX6_tell 114 = some (s_ald 115 0) := rfl
theorem kX6_tell_115 : kX6_tell 115 = some (s_get 118 6 2) := rfl
theorem kX6_tell_118 : kX6_tell 118 = some (s_push 119 (.inl (1))) := rfl
theorem kX6_tell_119 : kX6_tell 119 = some (s_iald 120) := rfl
theorem kX6_tell_120 : kX6_tell 120 = some (s_ald 121 0) := rfl
theorem kX6_tell_121 : kX6_tell 121 = some (s_get 124 6 2) := rfl
theorem kX6_tell_124 : kX6_tell 124 = some (s_push 125 (.inl (2))) := rfl
theorem kX6_tell_125 : kX6_tell 125 = some (s_iald 126) := rfl
theorem kX6_tell_126 : kX6_tell 126 = some (s_callV 129 4 2 wX2_addChange) := rfl
theorem kX6_tell_129 : kX6_tell 129 = some (s_retz) := rfl
theorem kX6_tell_130 : kX6_tell 130 = some (s_push 131 (.inl (0))) := rfl
theorem kX6_tell_131 : kX6_tell 131 = some (s_retz) := rfl
def wX6_tell : m_GK := m_wp 2 kX6_tell
set_option maxRecDepth 100000 in
set_option maxHeartbeats 4000000 in
theorem sX6_tell (l : Launch) (X : m_X) (hX : m_inj X.1) : m_Sound l X 4 yX6_tell cX6_tell 2 (some .boolean) wX6_tell := m_sound_of hX (by decide) (fun p e s m args below meth c q C hr => m_bt_all (m_bt_all (m_bt_all (m_bt_all (m_bt_all (m_lf_all (o_iload_n C (i := 1) rfl dX6_tell_0 rfl)) (m_bt_all (m_lf_all (o_lsw C dX6_tell_1 rfl (by decide) (by decide))) (m_lf_all (o_aload_n C (i := 0) rfl dX6_tell_44 rfl)))) (m_bt_all (m_bt_all (m_lf_all (o_get C (ci := 6) (k := 3) (N := 6) (rf := RX6) (T := TX6) rfl ginX6 (Nat.le_of_ble_eq_true rfl) (m_tb_of 160 (by decide +kernel) rfl) dX6_tell_45 rfl)) (m_lf_all (o_aload_n C (i := 0) rfl dX6_tell_48 rfl))) (m_bt_all (m_lf_all (o_get C (ci := 6) (k := 2) (N := 6) (rf := RX6) (T := TX6) rfl ginX6 (Nat.le_of_ble_eq_true rfl) (m_tb_of 159 (by decide +kernel) rfl) dX6_tell_49 rfl)) (m_lf_all (o_iconst C (x := (0)) (m_rngd rfl) dX6_tell_52 rfl))))) (m_bt_all (m_bt_all (m_lf_all (o_iald C dX6_tell_53 rfl)) (m_bt_all (m_lf_all (o_aload_n C (i := 0) rfl dX6_tell_54 rfl)) (m_lf_all (o_get C (ci := 6) (k := 2) (N := 6) (rf := RX6) (T := TX6) rfl ginX6 (Nat.le_of_ble_eq_true rfl) (m_tb_of 159 (by decide +kernel) rfl) dX6_tell_55 rfl)))) (m_bt_all (m_bt_all (m_lf_all (o_iconst C (x := (1)) (m_rngd rfl) dX6_tell_58 rfl)) (m_lf_all (o_iald C dX6_tell_59 rfl))) (m_bt_all (m_lf_all (o_callV C (T := TX2) (N := 8) (sX2_addSort l X hX) rfl (m_in_of [513, 514, 515, 73] (by decide +kernel) (by decide +kernel)) (m_tb_of 516 (by decide +kernel) rfl) (by decide +kernel) rfl ⟨Nat.le_of_ble_eq_true rfl, Nat.le_of_ble_eq_true rfl⟩ dX6_tell_60 rfl)) (m_lf_all (o_zret C hr dX6_tell_63)))))) (m_bt_all (m_bt_all (m_bt_all (m_lf_all (o_aload_n C (i := 0) rfl dX6_tell_64 rfl)) (m_bt_all (m_lf_all (o_get C (ci := 6) (k := 3) (N := 6) (rf := RX6) (T := TX6) rfl ginX6 (Nat.le_of_ble_eq_true rfl) (m_tb_of 160 (by decide +kernel) rfl) dX6_tell_65 rfl)) (m_lf_all (o_aload_n C (i := 0) rfl dX6_tell_68 rfl)))) (m_bt_all (m_bt_all (m_lf_all (o_get C (ci := 6) (k := 2) (N := 6) (rf := RX6) (T := TX6) rfl ginX6 (Nat.le_of_ble_eq_true rfl) (m_tb_of 159 (by decide +kernel) rfl) dX6_tell_69 rfl)) (m_lf_all (o_iconst C (x := (0)) (m_rngd rfl) dX6_tell_72 rfl))) (m_bt_all (m_lf_all (o_iald C dX6_tell_73 rfl)) (m_lf_all (o_callV C (T := TX2) (N := 8) (sX2_addLane l X hX) rfl (m_in_of [517, 518, 519, 73] (by decide +kernel) (by decide +kernel)) (m_tb_of 520 (by decide +kernel) rfl) (by decide +kernel) rfl ⟨Nat.le_of_ble_eq_true rfl, Nat.le_of_ble_eq_true rfl⟩ dX6_tell_74 rfl))))) (m_bt_all (m_bt_all (m_lf_all (o_zret C hr dX6_tell_77)) (m_bt_all (m_lf_all (o_aload_n C (i := 0) rfl dX6_tell_78 rfl)) (m_lf_all (o_get C (ci := 6) (k := 3) (N := 6) (rf := RX6) (T := TX6) rfl ginX6 (Nat.le_of_ble_eq_true rfl) (m_tb_of 160 (by decide +kernel) rfl) dX6_tell_79 rfl)))) (m_bt_all (m_bt_all (m_lf_all (o_aload_n C (i := 0) rfl dX6_tell_82 rfl)) (m_lf_all (o_get C (ci := 6) (k := 2) (N := 6) (rf := RX6) (T := TX6) rfl ginX6 (Nat.le_of_ble_eq_true rfl) (m_tb_of 159 (by decide +kernel) rfl) dX6_tell_83 rfl))) (m_bt_all (m_lf_all (o_iconst C (x := (0)) (m_rngd rfl) dX6_tell_86 rfl)) (m_lf_all (o_iald C dX6_tell_87 rfl))))))) (m_bt_all (m_bt_all (m_bt_all (m_bt_all (m_lf_all (o_aload_n C (i := 0) rfl dX6_tell_88 rfl)) (m_bt_all (m_lf_all (o_get C (ci := 6) (k := 2) (N := 6) (rf := RX6) (T := TX6) rfl ginX6 (Nat.le_of_ble_eq_true rfl) (m_tb_of 159 (by decide +kernel) rfl) dX6_tell_89 rfl)) (m_lf_all (o_iconst C (x := (1)) (m_rngd rfl) dX6_tell_92 rfl)))) (m_bt_all (m_bt_all (m_lf_all (o_iald C dX6_tell_93 rfl)) (m_lf_all (o_aload_n C (i := 0) rfl dX6_tell_94 rfl))) (m_bt_all (m_lf_all (o_get C (ci := 6) (k := 2) (N := 6) (rf := RX6) (T := TX6) rfl ginX6 (Nat.le_of_ble_eq_true rfl) (m_tb_of 159 (by decide +kernel) rfl) dX6_tell_95 rfl)) (m_lf_all (o_iconst C (x := (2)) (m_rngd rfl) dX6_tell_98 rfl))))) (m_bt_all (m_bt_all (m_lf_all (o_iald C dX6_tell_99 rfl)) (m_bt_all (m_lf_all (o_callV C (T := TX2) (N := 8) (sX2_addComers l X hX) rfl (m_in_of [525, 526, 527, 73] (by decide +kernel) (by decide +kernel)) (m_tb_of 528 (by decide +kernel) rfl) (by decide +kernel) rfl ⟨Nat.le_of_ble_eq_true rfl, Nat.le_of_ble_eq_true rfl⟩ dX6_tell_100 rfl)) (m_lf_all (o_zret C hr dX6_tell_103)))) (m_bt_all (m_bt_all (m_lf_all (o_aload_n C (i := 0) rfl dX6_tell_104 rfl)) (m_lf_all (o_get C (ci := 6) (k := 3) (N := 6) (rf := RX6) (T := TX6) rfl ginX6 (Nat.le_of_ble_eq_true rfl) (m_tb_of 160 (by decide +kernel) rfl) dX6_tell_105 rfl))) (m_bt_all (m_lf_all (o_aload_n C (i := 0) rfl dX6_tell_108 rfl)) (m_lf_all (o_get C (ci := 6) (k := 2) (N := 6) (rf := RX6) (T := TX6) rfl ginX6 (Nat.le_of_ble_eq_true rfl) (m_tb_of 159 (by decide +kernel) rfl) dX6_tell_109 rfl)))))) (m_bt_all (m_bt_all (m_bt_all (m_lf_all (o_iconst C (x := (0)) (m_rngd rfl) dX6_tell_112 rfl)) (m_bt_all (m_lf_all (o_iald C dX6_tell_113 rfl)) (m_lf_all (o_aload_n C (i := 0) rfl dX6_tell_114 rfl)))) (m_bt_all (m_bt_all (m_lf_all (o_get C (ci := 6) (k := 2) (N := 6) (rf := RX6) (T := TX6) rfl ginX6 (Nat.le_of_ble_eq_true rfl) (m_tb_of 159 (by decide +kernel) rfl) dX6_tell_115 rfl)) (m_lf_all (o_iconst C (x := (1)) (m_rngd rfl) dX6_tell_118 rfl))) (m_bt_all (m_lf_all (o_iald C dX6_tell_119 rfl)) (m_lf_all (o_aload_n C (i := 0) rfl dX6_tell_120 rfl))))) (m_bt_all (m_bt_all (m_lf_all (o_get C (ci := 6) (k := 2) (N := 6) (rf := RX6) (T := TX6) rfl ginX6 (Nat.le_of_ble_eq_true rfl) (m_tb_of 159 (by decide +kernel) rfl) dX6_tell_121 rfl)) (m_bt_all (m_lf_all (o_iconst C (x := (2)) (m_rngd rfl) dX6_tell_124 rfl)) (m_lf_all (o_iald C dX6_tell_125 rfl)))) (m_bt_all (m_bt_all (m_lf_all (o_callV C (T := TX2) (N := 8) (sX2_addChange l X hX) rfl (m_in_of [540, 541, 542, 73] (by decide +kernel) (by decide +kernel)) (m_tb_of 543 (by decide +kernel) rfl) (by decide +kernel) rfl ⟨Nat.le_of_ble_eq_true rfl, Nat.le_of_ble_eq_true rfl⟩ dX6_tell_126 rfl)) (m_lf_all (o_zret C hr dX6_tell_129))) (m_bt_all (m_lf_all (o_iconst C (x := (0)) (m_rngd rfl) dX6_tell_130 rfl)) (m_lf_all (o_zret C hr dX6_tell_131))))))))
set_option maxRecDepth 20000 in
def kX6_tellAll : m_C := m_bt 40 (m_bt 17 (m_bt 7 (m_bt 2 (m_bt 1 (m_lf 0 (s_push 1 (.inl (0)))) (m_lf 1 (s_ist 2 2))) (m_bt 3 (m_lf 2 (s_ald 3 0)) (m_bt 6 (m_lf 3 (s_get 6 6 3)) (m_lf 6 (s_ald 7 1))))) (m_bt 12 (m_bt 10 (m_lf 7 (s_callV 10 2 2 wX2_copy)) (m_bt 11 (m_lf 10 (s_ald 11 0)) (m_lf 11 (s_push 12 (.inl (0)))))) (m_bt 15 (m_lf 12 (s_put 15 6 4)) (m_bt 16 (m_lf 15 (s_push 16 (.inl (0)))) (m_lf 16 (s_ist 17 3)))))) (m_bt 27 (m_bt 20 (m_bt 18 (m_lf 17 (s_ild 18 3)) (m_lf 18 (s_push 20 (.inl (64))))) (m_bt 23 (m_lf 20 (s_icmp 23 76 (fun x y => y ≤ x))) (m_bt 24 (m_lf 23 (s_ald 24 0)) (m_lf 24 (s_get 27 6 4))))) (m_bt 34 (m_bt 28 (m_lf 27 (s_ald 28 0)) (m_bt 31 (m_lf 28 (s_get 31 6 0)) (m_lf 31 (s_icmp 34 76 (fun x y => y ≤ x))))) (m_bt 35 (m_lf 34 (s_ald 35 0)) (m_bt 38 (m_lf 35 (s_get 38 6 4)) (m_lf 38 (s_ist 40 4))))))) (m_bt 65 (m_bt 49 (m_bt 44 (m_bt 41 (m_lf 40 (s_ald 41 0)) (m_lf 41 (s_callV 44 1 6 wX6_readStatement))) (m_bt 47 (m_lf 44 (s_if 47 60 (fun x => x = 0))) (m_bt 48 (m_lf 47 (s_ald 48 0)) (m_lf 48 (s_ald 49 0))))) (m_bt 57 (m_bt 51 (m_lf 49 (s_ild 51 4)) (m_bt 54 (m_lf 51 (s_callV 54 2 6 wX6_at)) (m_lf 54 (s_callV 57 2 6 wX6_tell)))) (m_bt 60 (m_lf 57 (s_if 60 67 (fun x => ¬ x = 0))) (m_bt 63 (m_lf 60 (s_push 63 (.inl (-2000)))) (m_lf 63 (s_ild 65 4)))))) (m_bt 76 (m_bt 67 (m_bt 66 (m_lf 65 (s_bin 66 (fun x y => m_wrap (x - y)))) (m_lf 66 (s_ret))) (m_bt 70 (m_lf 67 (s_inc 70 2 (1))) (m_bt 73 (m_lf 70 (s_inc 73 3 (1))) (m_lf 73 (s_goto 17))))) (m_bt 81 (m_bt 77 (m_lf 76 (s_ald 77 1)) (m_bt 78 (m_lf 77 (s_ald 78 0)) (m_lf 78 (s_get 81 6 3)))) (m_bt 84 (m_lf 81 (s_callV 84 2 2 wX2_copy)) (m_bt 85 (m_lf 84 (s_ild 85 2)) (m_lf 85 (s_ret)))))))
theorem kX6_tellAll_0 : kX6_tellAll 0 = some (s_push 1 (.inl (0))) := rfl
theorem kX6_tellAll_1 : kX6_tellAll 1 = some (s_ist 2 2) := rfl
theorem kX6_tellAll_2 : kX6_tellAll 2 = some (s_ald 3 0) := rfl
theorem kX6_tellAll_3 : kX6_tellAll 3 = some (s_get 6 6 3) := rfl
theorem kX6_tellAll_6 : kX6_tellAll 6 = some (s_ald 7 1) := rfl
theorem kX6_tellAll_7 : kX6_tellAll 7 = some (s_callV 10 2 2 wX2_copy) := rfl
theorem kX6_tellAll_10 : kX6_tellAll 10 = some (s_ald 11 0) := rfl
theorem kX6_tellAll_11 : kX6_tellAll 11 = some (s_push 12 (.inl (0))) := rfl
theorem kX6_tellAll_12 : kX6_tellAll 12 = some (s_put 15 6 4) := rfl
theorem kX6_tellAll_15 : kX6_tellAll 15 = some (s_push 16 (.inl (0))) := rfl
theorem kX6_tellAll_16 : kX6_tellAll 16 = some (s_ist 17 3) := rfl
theorem kX6_tellAll_17 : kX6_tellAll 17 = some (s_ild 18 3) := rfl
theorem kX6_tellAll_18 : kX6_tellAll 18 = some (s_push 20 (.inl (64))) := rfl
theorem kX6_tellAll_20 : kX6_tellAll 20 = some (s_icmp 23 76 (fun x y => y ≤ x)) := rfl
theorem kX6_tellAll_23 : kX6_tellAll 23 = some (s_ald 24 0) := rfl
theorem kX6_tellAll_24 : kX6_tellAll 24 = some (s_get 27 6 4) := rfl
theorem kX6_tellAll_27 : kX6_tellAll 27 = some (s_ald 28 0) := rfl
theorem kX6_tellAll_28 : kX6_tellAll 28 = some (s_get 31 6 0) := rfl
theorem kX6_tellAll_31 : kX6_tellAll 31 = some (s_icmp 34 76 (fun x y => y ≤ x)) := rfl
theorem kX6_tellAll_34 : kX6_tellAll 34 = some (s_ald 35 0) := rfl
theorem kX6_tellAll_35 : kX6_tellAll 35 = some (s_get 38 6 4) := rfl
theorem kX6_tellAll_38 : kX6_tellAll 38 = some (s_ist 40 4) := rfl
theorem kX6_tellAll_40 : kX6_tellAll 40 = some (s_ald 41 0) := rfl
theorem kX6_tellAll_41 : kX6_tellAll 41 = some (s_callV 44 1 6 wX6_readStatement) := rfl
theorem kX6_tellAll_44 : kX6_tellAll 44 = some (s_if 47 60 (fun x => x = 0)) := rfl
theorem kX6_tellAll_47 : kX6_tellAll 47 = some (s_ald 48 0) := rfl
theorem kX6_tellAll_48 : kX6_tellAll 48 = some (s_ald 49 0) := rfl
theorem kX6_tellAll_49 : kX6_tellAll 49 = some (s_ild 51 4) := rfl
theorem kX6_tellAll_51 : kX6_tellAll 51 = some (s_callV 54 2 6 wX6_at) := rfl
theorem kX6_tellAll_54 : kX6_tellAll 54 = some (s_callV 57 2 6 wX6_tell) := rfl
theorem kX6_tellAll_57 : kX6_tellAll 57 = some (s_if 60 67 (fun x => ¬ x = 0)) := rfl
theorem kX6_tellAll_60 : kX6_tellAll 60 = some (s_push 63 (.inl (-2000))) := rfl
theorem kX6_tellAll_63 : kX6_tellAll 63 = some (s_ild 65 4) := rfl
theorem kX6_tellAll_65 : kX6_tellAll 65 = some (s_bin 66 (fun x y => m_wrap (x - y))) := rfl
theorem kX6_tellAll_66 : kX6_tellAll 66 = some (s_ret) := rfl
theorem kX6_tellAll_67 : kX6_tellAll 67 = some (s_inc 70 2 (1)) := rfl
theorem kX6_tellAll_70 : kX6_tellAll 70 = some (s_inc 73 3 (1)) := rfl
theorem kX6_tellAll_73 : kX6_tellAll 73 = some (s_goto 17) := rfl
theorem kX6_tellAll_76 : kX6_tellAll 76 = some (s_ald 77 1) := rfl
theorem kX6_tellAll_77 : kX6_tellAll 77 = some (s_ald 78 0) := rfl
theorem kX6_tellAll_78 : kX6_tellAll 78 = some (s_get 81 6 3) := rfl
theorem kX6_tellAll_81 : kX6_tellAll 81 = some (s_callV 84 2 2 wX2_copy) := rfl
theorem kX6_tellAll_84 : kX6_tellAll 84 = some (s_ild 85 2) := rfl
theorem kX6_tellAll_85 : kX6_tellAll 85 = some (s_ret) := rfl
def wX6_tellAll : m_GK := m_wp 5 kX6_tellAll
set_option maxRecDepth 100000 in
set_option maxHeartbeats 4000000 in
theorem sX6_tellAll (l : Launch) (X : m_X) (hX : m_inj X.1) : m_Sound l X 6 yX6_tellAll cX6_tellAll 5 (some .int) wX6_tellAll := m_sound_of hX (by decide) (fun p e s m args below meth c q C hr => m_bt_all (m_bt_all (m_bt_all (m_bt_all (m_bt_all (m_lf_all (o_iconst C (x := (0)) (m_rngd rfl) dX6_tellAll_0 rfl)) (m_lf_all (o_istore_n C (i := 2) rfl dX6_tellAll_1 rfl))) (m_bt_all (m_lf_all (o_aload_n C (i := 0) rfl dX6_tellAll_2 rfl)) (m_bt_all (m_lf_all (o_get C (ci := 6) (k := 3) (N := 6) (rf := RX6) (T := TX6) rfl ginX6 (Nat.le_of_ble_eq_true rfl) (m_tb_of 160 (by decide +kernel) rfl) dX6_tellAll_3 rfl)) (m_lf_all (o_aload_n C (i := 1) rfl dX6_tellAll_6 rfl))))) (m_bt_all (m_bt_all (m_lf_all (o_callV C (T := TX2) (N := 8) (sX2_copy l X hX) rfl (m_in_of [502, 503, 504, 73] (by decide +kernel) (by decide +kernel)) (m_tb_of 505 (by decide +kernel) rfl) (by decide +kernel) rfl ⟨Nat.le_of_ble_eq_true rfl, Nat.le_of_ble_eq_true rfl⟩ dX6_tellAll_7 rfl)) (m_bt_all (m_lf_all (o_aload_n C (i := 0) rfl dX6_tellAll_10 rfl)) (m_lf_all (o_iconst C (x := (0)) (m_rngd rfl) dX6_tellAll_11 rfl)))) (m_bt_all (m_lf_all (o_put C (ci := 6) (k := 4) (N := 6) (rf := RX6) (T := TX6) rfl ginX6 (Nat.le_of_ble_eq_true rfl) (m_tb_of 161 (by decide +kernel) rfl) (ty0 := tyX6) tyX6_ok nmX6 rfl rfl dX6_tellAll_12 rfl)) (m_bt_all (m_lf_all (o_iconst C (x := (0)) (m_rngd rfl) dX6_tellAll_15 rfl)) (m_lf_all (o_istore_n C (i := 3) rfl dX6_tellAll_16 rfl)))))) (m_bt_all (m_bt_all (m_bt_all (m_lf_all (o_iload_n C (i := 3) rfl dX6_tellAll_17 rfl)) (m_lf_all (o_bipush C (x := (64)) (m_rngd rfl) rfl dX6_tellAll_18 rfl))) (m_bt_all (m_lf_all (o_icmp_ge C dX6_tellAll_20 rfl rfl)) (m_bt_all (m_lf_all (o_aload_n C (i := 0) rfl dX6_tellAll_23 rfl)) (m_lf_all (o_get C (ci := 6) (k := 4) (N := 6) (rf := RX6) (T := TX6) rfl ginX6 (Nat.le_of_ble_eq_true rfl) (m_tb_of 161 (by decide +kernel) rfl) dX6_tellAll_24 rfl))))) (m_bt_all (m_bt_all (m_lf_all (o_aload_n C (i := 0) rfl dX6_tellAll_27 rfl)) (m_bt_all (m_lf_all (o_get C (ci := 6) (k := 0) (N := 6) (rf := RX6) (T := TX6) rfl ginX6 (Nat.le_of_ble_eq_true rfl) (m_tb_of 156 (by decide +kernel) rfl) dX6_tellAll_28 rfl)) (m_lf_all (o_icmp_ge C dX6_tellAll_31 rfl rfl)))) (m_bt_all (m_lf_all (o_aload_n C (i := 0) rfl dX6_tellAll_34 rfl)) (m_bt_all (m_lf_all (o_get C (ci := 6) (k := 4) (N := 6) (rf := RX6) (T := TX6) rfl ginX6 (Nat.le_of_ble_eq_true rfl) (m_tb_of 161 (by decide +kernel) rfl) dX6_tellAll_35 rfl)) (m_lf_all (o_istore C dX6_tellAll_38 rfl))))))) (m_bt_all (m_bt_all (m_bt_all (m_bt_all (m_lf_all (o_aload_n C (i := 0) rfl dX6_tellAll_40 rfl)) (m_lf_all (o_callV C (T := TX6) (N := 6) (sX6_readStatement l X hX) rfl (m_in_of [420, 422, 2, 74] (by decide +kernel) (by decide +kernel)) (m_tb_of 423 (by decide +kernel) rfl) (by decide +kernel) rfl ⟨Nat.le_of_ble_eq_true rfl, Nat.le_of_ble_eq_true rfl⟩ dX6_tellAll_41 rfl))) (m_bt_all (m_lf_all (o_if_eq C dX6_tellAll_44 rfl rfl)) (m_bt_all (m_lf_all (o_aload_n C (i := 0) rfl dX6_tellAll_47 rfl)) (m_lf_all (o_aload_n C (i := 0) rfl dX6_tellAll_48 rfl))))) (m_bt_all (m_bt_all (m_lf_all (o_iload C dX6_tellAll_49 rfl)) (m_bt_all (m_lf_all (o_callV C (T := TX6) (N := 6) (sX6_at l X hX) rfl (m_in_of [424, 426, 3, 74] (by decide +kernel) (by decide +kernel)) (m_tb_of 427 (by decide +kernel) rfl) (by decide +kernel) rfl ⟨Nat.le_of_ble_eq_true rfl, Nat.le_of_ble_eq_true rfl⟩ dX6_tellAll_51 rfl)) (m_lf_all (o_callV C (T := TX6) (N := 6) (sX6_tell l X hX) rfl (m_in_of [509, 511, 7, 74] (by decide +kernel) (by decide +kernel)) (m_tb_of 512 (by decide +kernel) rfl) (by decide +kernel) rfl ⟨Nat.le_of_ble_eq_true rfl, Nat.le_of_ble_eq_true rfl⟩ dX6_tellAll_54 rfl)))) (m_bt_all (m_lf_all (o_if_ne C dX6_tellAll_57 rfl rfl)) (m_bt_all (m_lf_all (o_sipush C (x := (-2000)) (m_rngd rfl) rfl dX6_tellAll_60 rfl)) (m_lf_all (o_iload C dX6_tellAll_63 rfl)))))) (m_bt_all (m_bt_all (m_bt_all (m_lf_all (o_isub C dX6_tellAll_65 rfl)) (m_lf_all (o_iret C hr dX6_tellAll_66))) (m_bt_all (m_lf_all (o_iinc C dX6_tellAll_67 rfl)) (m_bt_all (m_lf_all (o_iinc C dX6_tellAll_70 rfl)) (m_lf_all (o_goto C dX6_tellAll_73 rfl))))) (m_bt_all (m_bt_all (m_lf_all (o_aload_n C (i := 1) rfl dX6_tellAll_76 rfl)) (m_bt_all (m_lf_all (o_aload_n C (i := 0) rfl dX6_tellAll_77 rfl)) (m_lf_all (o_get C (ci := 6) (k := 3) (N := 6) (rf := RX6) (T := TX6) rfl ginX6 (Nat.le_of_ble_eq_true rfl) (m_tb_of 160 (by decide +kernel) rfl) dX6_tellAll_78 rfl)))) (m_bt_all (m_lf_all (o_callV C (T := TX2) (N := 8) (sX2_copy l X hX) rfl (m_in_of [502, 503, 504, 73] (by decide +kernel) (by decide +kernel)) (m_tb_of 505 (by decide +kernel) rfl) (by decide +kernel) rfl ⟨Nat.le_of_ble_eq_true rfl, Nat.le_of_ble_eq_true rfl⟩ dX6_tellAll_81 rfl)) (m_bt_all (m_lf_all (o_iload_n C (i := 2) rfl dX6_tellAll_84 rfl)) (m_lf_all (o_iret C hr dX6_tellAll_85))))))))
set_option maxRecDepth 20000 in
def kX6_build : m_C := m_bt 18 (m_bt 8 (m_bt 4 (m_bt 1 (m_lf 0 (s_ald 1 0)) (m_lf 1 (s_callV 4 1 6 wX6_isWellFormed))) (m_bt 7 (m_lf 4 (s_if 7 15 (fun x => x = 0))) (m_lf 7 (s_ald 8 0)))) (m_bt 12 (m_bt 9 (m_lf 8 (s_ald 9 1)) (m_lf 9 (s_callV 12 2 6 wX6_tellAll))) (m_bt 15 (m_lf 12 (s_goto 23)) (m_lf 15 (s_push 18 (.inl (-1000))))))) (m_bt 24 (m_bt 22 (m_bt 19 (m_lf 18 (s_ald 19 0)) (m_lf 19 (s_get 22 6 4))) (m_bt 23 (m_lf 22 (s_bin 23 (fun x y => m_wrap (x - y)))) (m_lf 23 (s_ist 24 2)))) (m_bt 26 (m_bt 25 (m_lf 24 (s_ald 25 0)) (m_lf 25 (s_push 26 (.inl (0))))) (m_bt 29 (m_lf 26 (s_put 29 6 0)) (m_bt 30 (m_lf 29 (s_ild 30 2)) (m_lf 30 (s_ret))))))
theorem kX6_build_0 : kX6_build 0 = some (s_ald 1 0) := rfl
theorem kX6_build_1 : kX6_build 1 = some (s_callV 4 1 6 wX6_isWellFormed) := rfl
theorem kX6_build_4 : kX6_build 4 = some (s_if 7 15 (fun x => x = 0)) := rfl
theorem kX6_build_7 : kX6_build 7 = some (s_ald 8 0) := rfl
theorem kX6_build_8 : kX6_build 8 = some (s_ald 9 1) := rfl
theorem kX6_build_9 : kX6_build 9 = some (s_callV 12 2 6 wX6_tellAll) := rfl
theorem kX6_build_12 : kX6_build 12 = some (s_goto 23) := rfl
theorem kX6_build_15 : kX6_build 15 = some (s_push 18 (.inl (-1000))) := rfl
theorem kX6_build_18 : kX6_build 18 = some (s_ald 19 0) := rfl
theorem kX6_build_19 : kX6_build 19 = some (s_get 22 6 4) := rfl
theorem kX6_build_22 : kX6_build 22 = some (s_bin 23 (fun x y => m_wrap (x - y))) := rfl
theorem kX6_build_23 : kX6_build 23 = some (s_ist 24 2) := rfl
theorem kX6_build_24 : kX6_build 24 = some (s_ald 25 0) := rfl
theorem kX6_build_25 : kX6_build 25 = some (s_push 26 (.inl (0))) := rfl
theorem kX6_build_26 : kX6_build 26 = some (s_put 29 6 0) := rfl
theorem kX6_build_29 : kX6_build 29 = some (s_ild 30 2) := rfl
theorem kX6_build_30 : kX6_build 30 = some (s_ret) := rfl
def wX6_build : m_GK := m_wp 3 kX6_build
set_option maxRecDepth 100000 in
set_option maxHeartbeats 4000000 in
theorem sX6_build (l : Launch) (X : m_X) (hX : m_inj X.1) : m_Sound l X 7 yX6_build cX6_build 3 (some .int) wX6_build := m_sound_of hX (by decide) (fun p e s m args below meth c q C hr => m_bt_all (m_bt_all (m_bt_all (m_bt_all (m_lf_all (o_aload_n C (i := 0) rfl dX6_build_0 rfl)) (m_lf_all (o_callV C (T := TX6) (N := 6) (sX6_isWellFormed l X hX) rfl (m_in_of [416, 418, 1, 74] (by decide +kernel) (by decide +kernel)) (m_tb_of 419 (by decide +kernel) rfl) (by decide +kernel) rfl ⟨Nat.le_of_ble_eq_true rfl, Nat.le_of_ble_eq_true rfl⟩ dX6_build_1 rfl))) (m_bt_all (m_lf_all (o_if_eq C dX6_build_4 rfl rfl)) (m_lf_all (o_aload_n C (i := 0) rfl dX6_build_7 rfl)))) (m_bt_all (m_bt_all (m_lf_all (o_aload_n C (i := 1) rfl dX6_build_8 rfl)) (m_lf_all (o_callV C (T := TX6) (N := 6) (sX6_tellAll l X hX) rfl (m_in_of [498, 500, 6, 74] (by decide +kernel) (by decide +kernel)) (m_tb_of 501 (by decide +kernel) rfl) (by decide +kernel) rfl ⟨Nat.le_of_ble_eq_true rfl, Nat.le_of_ble_eq_true rfl⟩ dX6_build_9 rfl))) (m_bt_all (m_lf_all (o_goto C dX6_build_12 rfl)) (m_lf_all (o_sipush C (x := (-1000)) (m_rngd rfl) rfl dX6_build_15 rfl))))) (m_bt_all (m_bt_all (m_bt_all (m_lf_all (o_aload_n C (i := 0) rfl dX6_build_18 rfl)) (m_lf_all (o_get C (ci := 6) (k := 4) (N := 6) (rf := RX6) (T := TX6) rfl ginX6 (Nat.le_of_ble_eq_true rfl) (m_tb_of 161 (by decide +kernel) rfl) dX6_build_19 rfl))) (m_bt_all (m_lf_all (o_isub C dX6_build_22 rfl)) (m_lf_all (o_istore_n C (i := 2) rfl dX6_build_23 rfl)))) (m_bt_all (m_bt_all (m_lf_all (o_aload_n C (i := 0) rfl dX6_build_24 rfl)) (m_lf_all (o_iconst C (x := (0)) (m_rngd rfl) dX6_build_25 rfl))) (m_bt_all (m_lf_all (o_put C (ci := 6) (k := 0) (N := 6) (rf := RX6) (T := TX6) rfl ginX6 (Nat.le_of_ble_eq_true rfl) (m_tb_of 156 (by decide +kernel) rfl) (ty0 := tyX6) tyX6_ok nmX6 rfl rfl dX6_build_26 rfl)) (m_bt_all (m_lf_all (o_iload_n C (i := 2) rfl dX6_build_29 rfl)) (m_lf_all (o_iret C hr dX6_build_30)))))))
set_option maxRecDepth 20000 in
def kX7_startOrder : m_C := m_bt 9 (m_bt 3 (m_bt 1 (m_lf 0 (s_push 1 (.inl (0)))) (m_bt 2 (m_lf 1 (s_ist 2 1)) (m_lf 2 (s_ild 3 1)))) (m_bt 5 (m_lf 3 (s_push 5 (.inl (6)))) (m_bt 8 (m_lf 5 (s_icmp 8 21 (fun x y => y ≤ x))) (m_lf 8 (s_ald 9 0))))) (m_bt 14 (m_bt 12 (m_lf 9 (s_get 12 7 2)) (m_bt 13 (m_lf 12 (s_ild 13 1)) (m_lf 13 (s_ild 14 1)))) (m_bt 18 (m_bt 15 (m_lf 14 (s_iast 15)) (m_lf 15 (s_inc 18 1 (1)))) (m_bt 21 (m_lf 18 (s_goto 2)) (m_lf 21 (s_retv)))))
theorem kX7_startOrder_0 : kX7_startOrder 0 = some (s_push 1 (.inl (0))) := rfl
theorem kX7_startOrder_1 : kX7_startOrder 1 = some (s_ist 2 1) := rfl
theorem kX7_startOrder_2 : kX7_startOrder 2 = some (s_ild 3 1) := rfl
theorem kX7_startOrder_3 : kX7_startOrder 3 = some (s_push 5 (.inl (6))) := rfl
theorem kX7_startOrder_5 : kX7_startOrder 5 = some (s_icmp 8 21 (fun x y => y ≤ x)) := rfl
theorem kX7_startOrder_8 : kX7_startOrder 8 = some (s_ald 9 0) := rfl
theorem kX7_startOrder_9 : kX7_startOrder 9 = some (s_get 12 7 2) := rfl
theorem kX7_startOrder_12 : kX7_startOrder 12 = some (s_ild 13 1) := rfl
theorem kX7_startOrder_13 : kX7_startOrder 13 = some (s_ild 14 1) := rfl
theorem kX7_startOrder_14 : kX7_startOrder 14 = some (s_iast 15) := rfl
theorem kX7_startOrder_15 : kX7_startOrder 15 = some (s_inc 18 1 (1)) := rfl
theorem kX7_startOrder_18 : kX7_startOrder 18 = some (s_goto 2) := rfl
theorem kX7_startOrder_21 : kX7_startOrder 21 = some (s_retv) := rfl
def wX7_startOrder : m_GK := m_wp 2 kX7_startOrder
set_option maxRecDepth 100000 in
set_option maxHeartbeats 4000000 in
theorem sX7_startOrder (l : Launch) (X : m_X) (hX : m_inj X.1) : m_Sound l X 1 yX7_startOrder cX7_startOrder 2 none wX7_startOrder := m_sound_of hX (by decide) (fun p e s m args below meth c q C hr => m_bt_all (m_bt_all (m_bt_all (m_lf_all (o_iconst C (x := (0)) (m_rngd rfl) dX7_startOrder_0 rfl)) (m_bt_all (m_lf_all (o_istore_n C (i := 1) rfl dX7_startOrder_1 rfl)) (m_lf_all (o_iload_n C (i := 1) rfl dX7_startOrder_2 rfl)))) (m_bt_all (m_lf_all (o_bipush C (x := (6)) (m_rngd rfl) rfl dX7_startOrder_3 rfl)) (m_bt_all (m_lf_all (o_icmp_ge C dX7_startOrder_5 rfl rfl)) (m_lf_all (o_aload_n C (i := 0) rfl dX7_startOrder_8 rfl))))) (m_bt_all (m_bt_all (m_lf_all (o_get C (ci := 7) (k := 2) (N := 3) (rf := RX7) (T := TX7) rfl ginX7 (Nat.le_of_ble_eq_true rfl) (m_tb_of 342 (by decide +kernel) rfl) dX7_startOrder_9 rfl)) (m_bt_all (m_lf_all (o_iload_n C (i := 1) rfl dX7_startOrder_12 rfl)) (m_lf_all (o_iload_n C (i := 1) rfl dX7_startOrder_13 rfl)))) (m_bt_all (m_bt_all (m_lf_all (o_iast C dX7_startOrder_14 rfl)) (m_lf_all (o_iinc C dX7_startOrder_15 rfl))) (m_bt_all (m_lf_all (o_goto C dX7_startOrder_18 rfl)) (m_lf_all (o_vret C hr dX7_startOrder_21))))))
set_option maxRecDepth 20000 in
def kX7_weaveOf : m_C := m_bt 23 (m_bt 8 (m_bt 4 (m_bt 2 (m_bt 1 (m_lf 0 (s_push 1 (.inl (0)))) (m_lf 1 (s_ist 2 2))) (m_bt 3 (m_lf 2 (s_push 3 (.inl (0)))) (m_lf 3 (s_ist 4 3)))) (m_bt 6 (m_bt 5 (m_lf 4 (s_ild 5 3)) (m_lf 5 (s_push 6 (.inl (1))))) (m_bt 7 (m_lf 6 (s_bin 7 (fun x y => m_wrap (x + y)))) (m_lf 7 (s_ald 8 1))))) (m_bt 16 (m_bt 14 (m_bt 11 (m_lf 8 (s_get 11 2 1)) (m_lf 11 (s_icmp 14 51 (fun x y => y ≤ x)))) (m_bt 15 (m_lf 14 (s_ild 15 2)) (m_lf 15 (s_ald 16 1)))) (m_bt 20 (m_bt 17 (m_lf 16 (s_ald 17 0)) (m_lf 17 (s_get 20 7 2))) (m_bt 21 (m_lf 20 (s_ild 21 3)) (m_bt 22 (m_lf 21 (s_iald 22)) (m_lf 22 (s_push 23 (.inl (0))))))))) (m_bt 36 (m_bt 31 (m_bt 27 (m_bt 26 (m_lf 23 (s_callV 26 3 2 wX2_wordOf)) (m_lf 26 (s_ald 27 1))) (m_bt 28 (m_lf 27 (s_ald 28 0)) (m_lf 28 (s_get 31 7 2)))) (m_bt 33 (m_bt 32 (m_lf 31 (s_ild 32 3)) (m_lf 32 (s_push 33 (.inl (1))))) (m_bt 34 (m_lf 33 (s_bin 34 (fun x y => m_wrap (x + y)))) (m_bt 35 (m_lf 34 (s_iald 35)) (m_lf 35 (s_push 36 (.inl (0)))))))) (m_bt 44 (m_bt 40 (m_bt 39 (m_lf 36 (s_callV 39 3 2 wX2_wordOf)) (m_lf 39 (s_bin 40 m_ixor))) (m_bt 43 (m_lf 40 (s_callS 43 1 wJ6_bitCount_0f7a4)) (m_lf 43 (s_bin 44 (fun x y => m_wrap (x + y)))))) (m_bt 48 (m_bt 45 (m_lf 44 (s_ist 45 2)) (m_lf 45 (s_inc 48 3 (1)))) (m_bt 51 (m_lf 48 (s_goto 4)) (m_bt 52 (m_lf 51 (s_ild 52 2)) (m_lf 52 (s_ret)))))))
theorem kX7_weaveOf_0 : kX7_weaveOf 0 = some (s_push 1 (.inl (0))) := rfl
theorem kX7_weaveOf_1 : kX7_weaveOf 1 = some (s_ist 2 2) := rfl
theorem kX7_weaveOf_2 : kX7_weaveOf 2 = some (s_push 3 (.inl (0))) := rfl
theorem kX7_weaveOf_3 : kX7_weaveOf 3 = some (s_ist 4 3) := rfl
theorem kX7_weaveOf_4 : kX7_weaveOf 4 = some (s_ild 5 3) := rfl
theorem kX7_weaveOf_5 : kX7_weaveOf 5 = some (s_push 6 (.inl (1))) := rfl
theorem kX7_weaveOf_6 : kX7_weaveOf 6 = some (s_bin 7 (fun x y => m_wrap (x + y))) := rfl
theorem kX7_weaveOf_7 : kX7_weaveOf 7 = some (s_ald 8 1) := rfl
theorem kX7_weaveOf_8 : kX7_weaveOf 8 = some (s_get 11 2 1) := rfl
theorem kX7_weaveOf_11 : kX7_weaveOf 11 = some (s_icmp 14 51 (fun x y => y ≤ x)) := rfl
theorem kX7_weaveOf_14 : kX7_weaveOf 14 = some (s_ild 15 2) := rfl
theorem kX7_weaveOf_15 : kX7_weaveOf 15 = some (s_ald 16 1) := rfl
theorem kX7_weaveOf_16 : kX7_weaveOf 16 = some (s_ald 17 0) := rfl
theorem kX7_weaveOf_17 : kX7_weaveOf 17 = some (s_get 20 7 2) := rfl
theorem kX7_weaveOf_20 : kX7_weaveOf 20 = some (s_ild 21 3) := rfl
theorem kX7_weaveOf_21 : kX7_weaveOf 21 = some (s_iald 22) := rfl
theorem kX7_weaveOf_22 : kX7_weaveOf 22 = some (s_push 23 (.inl (0))) := rfl
theorem kX7_weaveOf_23 : kX7_weaveOf 23 = some (s_callV 26 3 2 wX2_wordOf) := rfl
theorem kX7_weaveOf_26 : kX7_weaveOf 26 = some (s_ald 27 1) := rfl
theorem kX7_weaveOf_27 : kX7_weaveOf 27 = some (s_ald 28 0) := rfl
theorem kX7_weaveOf_28 : kX7_weaveOf 28 = some (s_get 31 7 2) := rfl
theorem kX7_weaveOf_31 : kX7_weaveOf 31 = some (s_ild 32 3) := rfl
theorem kX7_weaveOf_32 : kX7_weaveOf 32 = some (s_push 33 (.inl (1))) := rfl
theorem kX7_weaveOf_33 : kX7_weaveOf 33 = some (s_bin 34 (fun x y => m_wrap (x + y))) := rfl
theorem kX7_weaveOf_34 : kX7_weaveOf 34 = some (s_iald 35) := rfl
theorem kX7_weaveOf_35 : kX7_weaveOf 35 = some (s_push 36 (.inl (0))) := rfl
theorem kX7_weaveOf_36 : kX7_weaveOf 36 = some (s_callV 39 3 2 wX2_wordOf) := rfl
theorem kX7_weaveOf_39 : kX7_weaveOf 39 = some (s_bin 40 m_ixor) := rfl
theorem kX7_weaveOf_40 : kX7_weaveOf 40 = some (s_callS 43 1 wJ6_bitCount_0f7a4) := rfl
theorem kX7_weaveOf_43 : kX7_weaveOf 43 = some (s_bin 44 (fun x y => m_wrap (x + y))) := rfl
theorem kX7_weaveOf_44 : kX7_weaveOf 44 = some (s_ist 45 2) := rfl
theorem kX7_weaveOf_45 : kX7_weaveOf 45 = some (s_inc 48 3 (1)) := rfl
theorem kX7_weaveOf_48 : kX7_weaveOf 48 = some (s_goto 4) := rfl
theorem kX7_weaveOf_51 : kX7_weaveOf 51 = some (s_ild 52 2) := rfl
theorem kX7_weaveOf_52 : kX7_weaveOf 52 = some (s_ret) := rfl
def wX7_weaveOf : m_GK := m_wp 4 kX7_weaveOf
set_option maxRecDepth 100000 in
set_option maxHeartbeats 4000000 in
theorem sX7_weaveOf (l : Launch) (X : m_X) (hX : m_inj X.1) : m_Sound l X 3 yX7_weaveOf cX7_weaveOf 4 (some .int) wX7_weaveOf := m_sound_of hX (by decide) (fun p e s m args below meth c q C hr => m_bt_all (m_bt_all (m_bt_all (m_bt_all (m_bt_all (m_lf_all (o_iconst C (x := (0)) (m_rngd rfl) dX7_weaveOf_0 rfl)) (m_lf_all (o_istore_n C (i := 2) rfl dX7_weaveOf_1 rfl))) (m_bt_all (m_lf_all (o_iconst C (x := (0)) (m_rngd rfl) dX7_weaveOf_2 rfl)) (m_lf_all (o_istore_n C (i := 3) rfl dX7_weaveOf_3 rfl)))) (m_bt_all (m_bt_all (m_lf_all (o_iload_n C (i := 3) rfl dX7_weaveOf_4 rfl)) (m_lf_all (o_iconst C (x := (1)) (m_rngd rfl) dX7_weaveOf_5 rfl))) (m_bt_all (m_lf_all (o_iadd C dX7_weaveOf_6 rfl)) (m_lf_all (o_aload_n C (i := 1) rfl dX7_weaveOf_7 rfl))))) (m_bt_all (m_bt_all (m_bt_all (m_lf_all (o_get C (ci := 2) (k := 1) (N := 8) (rf := RX2) (T := TX2) rfl ginX2 (Nat.le_of_ble_eq_true rfl) (m_tb_of 114 (by decide +kernel) rfl) dX7_weaveOf_8 rfl)) (m_lf_all (o_icmp_ge C dX7_weaveOf_11 rfl rfl))) (m_bt_all (m_lf_all (o_iload_n C (i := 2) rfl dX7_weaveOf_14 rfl)) (m_lf_all (o_aload_n C (i := 1) rfl dX7_weaveOf_15 rfl)))) (m_bt_all (m_bt_all (m_lf_all (o_aload_n C (i := 0) rfl dX7_weaveOf_16 rfl)) (m_lf_all (o_get C (ci := 7) (k := 2) (N := 3) (rf := RX7) (T := TX7) rfl ginX7 (Nat.le_of_ble_eq_true rfl) (m_tb_of 342 (by decide +kernel) rfl) dX7_weaveOf_17 rfl))) (m_bt_all (m_lf_all (o_iload_n C (i := 3) rfl dX7_weaveOf_20 rfl)) (m_bt_all (m_lf_all (o_iald C dX7_weaveOf_21 rfl)) (m_lf_all (o_iconst C (x := (0)) (m_rngd rfl) dX7_weaveOf_22 rfl))))))) (m_bt_all (m_bt_all (m_bt_all (m_bt_all (m_lf_all (o_callV C (T := TX2) (N := 8) (sX2_wordOf l X hX) rfl (m_in_of [835, 569, 570, 73] (by decide +kernel) (by decide +kernel)) (m_tb_of 571 (by decide +kernel) rfl) (by decide +kernel) rfl ⟨Nat.le_of_ble_eq_true rfl, Nat.le_of_ble_eq_true rfl⟩ dX7_weaveOf_23 rfl)) (m_lf_all (o_aload_n C (i := 1) rfl dX7_weaveOf_26 rfl))) (m_bt_all (m_lf_all (o_aload_n C (i := 0) rfl dX7_weaveOf_27 rfl)) (m_lf_all (o_get C (ci := 7) (k := 2) (N := 3) (rf := RX7) (T := TX7) rfl ginX7 (Nat.le_of_ble_eq_true rfl) (m_tb_of 342 (by decide +kernel) rfl) dX7_weaveOf_28 rfl)))) (m_bt_all (m_bt_all (m_lf_all (o_iload_n C (i := 3) rfl dX7_weaveOf_31 rfl)) (m_lf_all (o_iconst C (x := (1)) (m_rngd rfl) dX7_weaveOf_32 rfl))) (m_bt_all (m_lf_all (o_iadd C dX7_weaveOf_33 rfl)) (m_bt_all (m_lf_all (o_iald C dX7_weaveOf_34 rfl)) (m_lf_all (o_iconst C (x := (0)) (m_rngd rfl) dX7_weaveOf_35 rfl)))))) (m_bt_all (m_bt_all (m_bt_all (m_lf_all (o_callV C (T := TX2) (N := 8) (sX2_wordOf l X hX) rfl (m_in_of [835, 569, 570, 73] (by decide +kernel) (by decide +kernel)) (m_tb_of 571 (by decide +kernel) rfl) (by decide +kernel) rfl ⟨Nat.le_of_ble_eq_true rfl, Nat.le_of_ble_eq_true rfl⟩ dX7_weaveOf_36 rfl)) (m_lf_all (o_ixor C dX7_weaveOf_39 rfl))) (m_bt_all (m_lf_all (o_callS C (sJ6_bitCount_0f7a4 l X hX) (m_in_of [836, 636, 88] (by decide +kernel) (by decide +kernel)) (m_tb_of 637 (by decide +kernel) rfl) (by decide +kernel) ⟨Nat.le_of_ble_eq_true rfl, Nat.le_of_ble_eq_true rfl⟩ dX7_weaveOf_40 rfl)) (m_lf_all (o_iadd C dX7_weaveOf_43 rfl)))) (m_bt_all (m_bt_all (m_lf_all (o_istore_n C (i := 2) rfl dX7_weaveOf_44 rfl)) (m_lf_all (o_iinc C dX7_weaveOf_45 rfl))) (m_bt_all (m_lf_all (o_goto C dX7_weaveOf_48 rfl)) (m_bt_all (m_lf_all (o_iload_n C (i := 2) rfl dX7_weaveOf_51 rfl)) (m_lf_all (o_iret C hr dX7_weaveOf_52))))))))
set_option maxRecDepth 20000 in
def kX7_weaveNow : m_C := m_bt 5 (m_bt 1 (m_lf 0 (s_ald 1 0)) (m_bt 4 (m_lf 1 (s_callV 4 1 7 wX7_startOrder)) (m_lf 4 (s_ald 5 0)))) (m_bt 6 (m_lf 5 (s_ald 6 1)) (m_bt 9 (m_lf 6 (s_callV 9 2 7 wX7_weaveOf)) (m_lf 9 (s_ret))))
theorem kX7_weaveNow_0 : kX7_weaveNow 0 = some (s_ald 1 0) := rfl
theorem kX7_weaveNow_1 : kX7_weaveNow 1 = some (s_callV 4 1 7 wX7_startOrder) := rfl
theorem kX7_weaveNow_4 : kX7_weaveNow 4 = some (s_ald 5 0) := rfl
theorem kX7_weaveNow_5 : kX7_weaveNow 5 = some (s_ald 6 1) := rfl
theorem kX7_weaveNow_6 : kX7_weaveNow 6 = some (s_callV 9 2 7 wX7_weaveOf) := rfl
theorem kX7_weaveNow_9 : kX7_weaveNow 9 = some (s_ret) := rfl
def wX7_weaveNow : m_GK := m_wp 2 kX7_weaveNow
set_option maxRecDepth 100000 in
set_option maxHeartbeats 4000000 in
theorem sX7_weaveNow (l : Launch) (X : m_X) (hX : m_inj X.1) : m_Sound l X 4 yX7_weaveNow cX7_weaveNow 2 (some .int) wX7_weaveNow := m_sound_of hX (by decide) (fun p e s m args below meth c q C hr => m_bt_all (m_bt_all (m_lf_all (o_aload_n C (i := 0) rfl dX7_weaveNow_0 rfl)) (m_bt_all (m_lf_all (o_callV C (T := TX7) (N := 3) (sX7_startOrder l X hX) rfl (m_in_of [827, 829, 22, 79] (by decide +kernel) (by decide +kernel)) (m_tb_of 830 (by decide +kernel) rfl) (by decide +kernel) rfl ⟨Nat.le_of_ble_eq_true rfl, Nat.le_of_ble_eq_true rfl⟩ dX7_weaveNow_1 rfl)) (m_lf_all (o_aload_n C (i := 0) rfl dX7_weaveNow_4 rfl)))) (m_bt_all (m_lf_all (o_aload_n C (i := 1) rfl dX7_weaveNow_5 rfl)) (m_bt_all (m_lf_all (o_callV C (T := TX7) (N := 3) (sX7_weaveOf l X hX) rfl (m_in_of [831, 833, 23, 79] (by decide +kernel) (by decide +kernel)) (m_tb_of 834 (by decide +kernel) rfl) (by decide +kernel) rfl ⟨Nat.le_of_ble_eq_true rfl, Nat.le_of_ble_eq_true rfl⟩ dX7_weaveNow_6 rfl)) (m_lf_all (o_iret C hr dX7_weaveNow_9)))))
set_option maxRecDepth 20000 in
def kX7_keep : m_C := m_bt 10 (m_bt 5 (m_bt 1 (m_lf 0 (s_ald 1 0)) (m_bt 2 (m_lf 1 (s_ild 2 1)) (m_lf 2 (s_put 5 7 1)))) (m_bt 6 (m_lf 5 (s_ald 6 0)) (m_bt 9 (m_lf 6 (s_get 9 7 2)) (m_lf 9 (s_push 10 (.inl (0))))))) (m_bt 15 (m_bt 11 (m_lf 10 (s_ald 11 0)) (m_bt 14 (m_lf 11 (s_get 14 7 0)) (m_lf 14 (s_push 15 (.inl (0)))))) (m_bt 17 (m_lf 15 (s_push 17 (.inl (6)))) (m_bt 20 (m_lf 17 (s_copy 20)) (m_lf 20 (s_retv)))))
theorem kX7_keep_0 : kX7_keep 0 = some (s_ald 1 0) := rfl
theorem kX7_keep_1 : kX7_keep 1 = some (s_ild 2 1) := rfl
theorem kX7_keep_2 : kX7_keep 2 = some (s_put 5 7 1) := rfl
theorem kX7_keep_5 : kX7_keep 5 = some (s_ald 6 0) := rfl
theorem kX7_keep_6 : kX7_keep 6 = some (s_get 9 7 2) := rfl
theorem kX7_keep_9 : kX7_keep 9 = some (s_push 10 (.inl (0))) := rfl
theorem kX7_keep_10 : kX7_keep 10 = some (s_ald 11 0) := rfl
theorem kX7_keep_11 : kX7_keep 11 = some (s_get 14 7 0) := rfl
theorem kX7_keep_14 : kX7_keep 14 = some (s_push 15 (.inl (0))) := rfl
theorem kX7_keep_15 : kX7_keep 15 = some (s_push 17 (.inl (6))) := rfl
theorem kX7_keep_17 : kX7_keep 17 = some (s_copy 20) := rfl
theorem kX7_keep_20 : kX7_keep 20 = some (s_retv) := rfl
def wX7_keep : m_GK := m_wp 2 kX7_keep
set_option maxRecDepth 100000 in
set_option maxHeartbeats 4000000 in
theorem sX7_keep (l : Launch) (X : m_X) (hX : m_inj X.1) : m_Sound l X 1 yX7_keep cX7_keep 2 none wX7_keep := m_sound_of hX (by decide) (fun p e s m args below meth c q C hr => m_bt_all (m_bt_all (m_bt_all (m_lf_all (o_aload_n C (i := 0) rfl dX7_keep_0 rfl)) (m_bt_all (m_lf_all (o_iload_n C (i := 1) rfl dX7_keep_1 rfl)) (m_lf_all (o_put C (ci := 7) (k := 1) (N := 3) (rf := RX7) (T := TX7) rfl ginX7 (Nat.le_of_ble_eq_true rfl) (m_tb_of 340 (by decide +kernel) rfl) (ty0 := tyX7) tyX7_ok nmX7 rfl rfl dX7_keep_2 rfl)))) (m_bt_all (m_lf_all (o_aload_n C (i := 0) rfl dX7_keep_5 rfl)) (m_bt_all (m_lf_all (o_get C (ci := 7) (k := 2) (N := 3) (rf := RX7) (T := TX7) rfl ginX7 (Nat.le_of_ble_eq_true rfl) (m_tb_of 342 (by decide +kernel) rfl) dX7_keep_6 rfl)) (m_lf_all (o_iconst C (x := (0)) (m_rngd rfl) dX7_keep_9 rfl))))) (m_bt_all (m_bt_all (m_lf_all (o_aload_n C (i := 0) rfl dX7_keep_10 rfl)) (m_bt_all (m_lf_all (o_get C (ci := 7) (k := 0) (N := 3) (rf := RX7) (T := TX7) rfl ginX7 (Nat.le_of_ble_eq_true rfl) (m_tb_of 338 (by decide +kernel) rfl) dX7_keep_11 rfl)) (m_lf_all (o_iconst C (x := (0)) (m_rngd rfl) dX7_keep_14 rfl)))) (m_bt_all (m_lf_all (o_bipush C (x := (6)) (m_rngd rfl) rfl dX7_keep_15 rfl)) (m_bt_all (m_lf_all (o_copy C (m_tb_of 849 (by decide +kernel) rfl) (m_tb_of 508 (by decide +kernel) rfl) (m_tb_of 507 (by decide +kernel) rfl) (m_tb_of 86 (by decide +kernel) rfl) ⟨Nat.le_of_ble_eq_true rfl, Nat.le_of_ble_eq_true rfl⟩ dX7_keep_17 rfl)) (m_lf_all (o_vret C hr dX7_keep_20))))))
set_option maxRecDepth 20000 in
def kX7_swap : m_C := m_bt 13 (m_bt 6 (m_bt 4 (m_bt 1 (m_lf 0 (s_ald 1 0)) (m_lf 1 (s_get 4 7 2))) (m_bt 5 (m_lf 4 (s_ild 5 1)) (m_lf 5 (s_iald 6)))) (m_bt 8 (m_bt 7 (m_lf 6 (s_ist 7 3)) (m_lf 7 (s_ald 8 0))) (m_bt 11 (m_lf 8 (s_get 11 7 2)) (m_bt 12 (m_lf 11 (s_ild 12 1)) (m_lf 12 (s_ald 13 0)))))) (m_bt 20 (m_bt 17 (m_bt 16 (m_lf 13 (s_get 16 7 2)) (m_lf 16 (s_ild 17 2))) (m_bt 18 (m_lf 17 (s_iald 18)) (m_bt 19 (m_lf 18 (s_iast 19)) (m_lf 19 (s_ald 20 0))))) (m_bt 24 (m_bt 23 (m_lf 20 (s_get 23 7 2)) (m_lf 23 (s_ild 24 2))) (m_bt 25 (m_lf 24 (s_ild 25 3)) (m_bt 26 (m_lf 25 (s_iast 26)) (m_lf 26 (s_retv))))))
theorem kX7_swap_0 : kX7_swap 0 = some (s_ald 1 0) := rfl
theorem kX7_swap_1 : kX7_swap 1 = some (s_get 4 7 2) := rfl
theorem kX7_swap_4 : kX7_swap 4 = some (s_ild 5 1) := rfl
theorem kX7_swap_5 : kX7_swap 5 = some (s_iald 6) := rfl
theorem kX7_swap_6 : kX7_swap 6 = some (s_ist 7 3) := rfl
theorem kX7_swap_7 : kX7_swap 7 = some (s_ald 8 0) := rfl
theorem kX7_swap_8 : kX7_swap 8 = some (s_get 11 7 2) := rfl
theorem kX7_swap_11 : kX7_swap 11 = some (s_ild 12 1) := rfl
theorem kX7_swap_12 : kX7_swap 12 = some (s_ald 13 0) := rfl
theorem kX7_swap_13 : kX7_swap 13 = some (s_get 16 7 2) := rfl
theorem kX7_swap_16 : kX7_swap 16 = some (s_ild 17 2) := rfl
theorem kX7_swap_17 : kX7_swap 17 = some (s_iald 18) := rfl
theorem kX7_swap_18 : kX7_swap 18 = some (s_iast 19) := rfl
theorem kX7_swap_19 : kX7_swap 19 = some (s_ald 20 0) := rfl
theorem kX7_swap_20 : kX7_swap 20 = some (s_get 23 7 2) := rfl
theorem kX7_swap_23 : kX7_swap 23 = some (s_ild 24 2) := rfl
theorem kX7_swap_24 : kX7_swap 24 = some (s_ild 25 3) := rfl
theorem kX7_swap_25 : kX7_swap 25 = some (s_iast 26) := rfl
theorem kX7_swap_26 : kX7_swap 26 = some (s_retv) := rfl
def wX7_swap : m_GK := m_wp 4 kX7_swap
set_option maxRecDepth 100000 in
set_option maxHeartbeats 4000000 in
theorem sX7_swap (l : Launch) (X : m_X) (hX : m_inj X.1) : m_Sound l X 1 yX7_swap cX7_swap 4 none wX7_swap := m_sound_of hX (by decide) (fun p e s m args below meth c q C hr => m_bt_all (m_bt_all (m_bt_all (m_bt_all (m_lf_all (o_aload_n C (i := 0) rfl dX7_swap_0 rfl)) (m_lf_all (o_get C (ci := 7) (k := 2) (N := 3) (rf := RX7) (T := TX7) rfl ginX7 (Nat.le_of_ble_eq_true rfl) (m_tb_of 342 (by decide +kernel) rfl) dX7_swap_1 rfl))) (m_bt_all (m_lf_all (o_iload_n C (i := 1) rfl dX7_swap_4 rfl)) (m_lf_all (o_iald C dX7_swap_5 rfl)))) (m_bt_all (m_bt_all (m_lf_all (o_istore_n C (i := 3) rfl dX7_swap_6 rfl)) (m_lf_all (o_aload_n C (i := 0) rfl dX7_swap_7 rfl))) (m_bt_all (m_lf_all (o_get C (ci := 7) (k := 2) (N := 3) (rf := RX7) (T := TX7) rfl ginX7 (Nat.le_of_ble_eq_true rfl) (m_tb_of 342 (by decide +kernel) rfl) dX7_swap_8 rfl)) (m_bt_all (m_lf_all (o_iload_n C (i := 1) rfl dX7_swap_11 rfl)) (m_lf_all (o_aload_n C (i := 0) rfl dX7_swap_12 rfl)))))) (m_bt_all (m_bt_all (m_bt_all (m_lf_all (o_get C (ci := 7) (k := 2) (N := 3) (rf := RX7) (T := TX7) rfl ginX7 (Nat.le_of_ble_eq_true rfl) (m_tb_of 342 (by decide +kernel) rfl) dX7_swap_13 rfl)) (m_lf_all (o_iload_n C (i := 2) rfl dX7_swap_16 rfl))) (m_bt_all (m_lf_all (o_iald C dX7_swap_17 rfl)) (m_bt_all (m_lf_all (o_iast C dX7_swap_18 rfl)) (m_lf_all (o_aload_n C (i := 0) rfl dX7_swap_19 rfl))))) (m_bt_all (m_bt_all (m_lf_all (o_get C (ci := 7) (k := 2) (N := 3) (rf := RX7) (T := TX7) rfl ginX7 (Nat.le_of_ble_eq_true rfl) (m_tb_of 342 (by decide +kernel) rfl) dX7_swap_20 rfl)) (m_lf_all (o_iload_n C (i := 2) rfl dX7_swap_23 rfl))) (m_bt_all (m_lf_all (o_iload_n C (i := 3) rfl dX7_swap_24 rfl)) (m_bt_all (m_lf_all (o_iast C dX7_swap_25 rfl)) (m_lf_all (o_vret C hr dX7_swap_26)))))))
set_option maxRecDepth 20000 in
def kX7_nextOrder : m_C := m_bt 50 (m_bt 22 (m_bt 12 (m_bt 4 (m_bt 2 (m_bt 1 (m_lf 0 (s_ild 1 1)) (m_lf 1 (s_push 2 (.inl (2))))) (m_bt 3 (m_lf 2 (s_bin 3 (fun x y => m_wrap (x - y)))) (m_lf 3 (s_ist 4 2)))) (m_bt 8 (m_bt 5 (m_lf 4 (s_ild 5 2)) (m_lf 5 (s_if 8 31 (fun x => x < 0)))) (m_bt 9 (m_lf 8 (s_ald 9 0)) (m_lf 9 (s_get 12 7 2))))) (m_bt 18 (m_bt 14 (m_bt 13 (m_lf 12 (s_ild 13 2)) (m_lf 13 (s_iald 14))) (m_bt 15 (m_lf 14 (s_ald 15 0)) (m_lf 15 (s_get 18 7 2)))) (m_bt 20 (m_bt 19 (m_lf 18 (s_ild 19 2)) (m_lf 19 (s_push 20 (.inl (1))))) (m_bt 21 (m_lf 20 (s_bin 21 (fun x y => m_wrap (x + y)))) (m_lf 21 (s_iald 22)))))) (m_bt 38 (m_bt 32 (m_bt 28 (m_bt 25 (m_lf 22 (s_icmp 25 31 (fun x y => x ≤ y))) (m_lf 25 (s_inc 28 2 (-1)))) (m_bt 31 (m_lf 28 (s_goto 4)) (m_lf 31 (s_ild 32 2)))) (m_bt 36 (m_bt 35 (m_lf 32 (s_if 35 37 (fun x => 0 ≤ x))) (m_lf 35 (s_push 36 (.inl (0))))) (m_bt 37 (m_lf 36 (s_retz)) (m_lf 37 (s_ild 38 1))))) (m_bt 42 (m_bt 40 (m_bt 39 (m_lf 38 (s_push 39 (.inl (1)))) (m_lf 39 (s_bin 40 (fun x y => m_wrap (x - y))))) (m_bt 41 (m_lf 40 (s_ist 41 3)) (m_lf 41 (s_ild 42 3)))) (m_bt 46 (m_bt 43 (m_lf 42 (s_ild 43 2)) (m_lf 43 (s_icmp 46 67 (fun x y => x ≤ y)))) (m_bt 47 (m_lf 46 (s_ald 47 0)) (m_lf 47 (s_get 50 7 2))))))) (m_bt 76 (m_bt 64 (m_bt 56 (m_bt 52 (m_bt 51 (m_lf 50 (s_ild 51 3)) (m_lf 51 (s_iald 52))) (m_bt 53 (m_lf 52 (s_ald 53 0)) (m_lf 53 (s_get 56 7 2)))) (m_bt 58 (m_bt 57 (m_lf 56 (s_ild 57 2)) (m_lf 57 (s_iald 58))) (m_bt 61 (m_lf 58 (s_icmp 61 67 (fun x y => y ≤ x))) (m_lf 61 (s_inc 64 3 (-1)))))) (m_bt 70 (m_bt 68 (m_bt 67 (m_lf 64 (s_goto 41)) (m_lf 67 (s_ald 68 0))) (m_bt 69 (m_lf 68 (s_ild 69 2)) (m_lf 69 (s_ild 70 3)))) (m_bt 74 (m_bt 73 (m_lf 70 (s_callV 73 3 7 wX7_swap)) (m_lf 73 (s_ild 74 2))) (m_bt 75 (m_lf 74 (s_push 75 (.inl (1)))) (m_lf 75 (s_bin 76 (fun x y => m_wrap (x + y)))))))) (m_bt 90 (m_bt 81 (m_bt 79 (m_bt 78 (m_lf 76 (s_ist 78 4)) (m_lf 78 (s_ild 79 1))) (m_bt 80 (m_lf 79 (s_push 80 (.inl (1)))) (m_lf 80 (s_bin 81 (fun x y => m_wrap (x - y)))))) (m_bt 85 (m_bt 83 (m_lf 81 (s_ist 83 5)) (m_lf 83 (s_ild 85 4))) (m_bt 87 (m_lf 85 (s_ild 87 5)) (m_lf 87 (s_icmp 90 107 (fun x y => y ≤ x)))))) (m_bt 98 (m_bt 93 (m_bt 91 (m_lf 90 (s_ald 91 0)) (m_lf 91 (s_ild 93 4))) (m_bt 95 (m_lf 93 (s_ild 95 5)) (m_lf 95 (s_callV 98 3 7 wX7_swap)))) (m_bt 104 (m_bt 101 (m_lf 98 (s_inc 101 4 (1))) (m_lf 101 (s_inc 104 5 (-1)))) (m_bt 107 (m_lf 104 (s_goto 83)) (m_bt 108 (m_lf 107 (s_push 108 (.inl (1)))) (m_lf 108 (s_retz))))))))
theorem kX7_nextOrder_0 : kX7_nextOrder 0 = some (s_ild 1 1) := rfl
theorem kX7_nextOrder_1 : kX7_nextOrder 1 = some (s_push 2 (.inl (2))) := rfl
theorem kX7_nextOrder_2 : kX7_nextOrder 2 = some (s_bin 3 (fun x y => m_wrap (x - y))) := rfl
theorem kX7_nextOrder_3 : kX7_nextOrder 3 = some (s_ist 4 2) := rfl
theorem kX7_nextOrder_4 : kX7_nextOrder 4 = some (s_ild 5 2) := rfl
theorem kX7_nextOrder_5 : kX7_nextOrder 5 = some (s_if 8 31 (fun x => x < 0)) := rfl
theorem kX7_nextOrder_8 : kX7_nextOrder 8 = some (s_ald 9 0) := rfl
theorem kX7_nextOrder_9 : kX7_nextOrder 9 = some (s_get 12 7 2) := rfl
theorem kX7_nextOrder_12 : kX7_nextOrder 12 = some (s_ild 13 2) := rfl
theorem kX7_nextOrder_13 : kX7_nextOrder 13 = some (s_iald 14) := rfl
theorem kX7_nextOrder_14 : kX7_nextOrder 14 = some (s_ald 15 0) := rfl
theorem kX7_nextOrder_15 : kX7_nextOrder 15 = some (s_get 18 7 2) := rfl
theorem kX7_nextOrder_18 : kX7_nextOrder 18 = some (s_ild 19 2) := rfl
theorem kX7_nextOrder_19 : kX7_nextOrder 19 = some (s_push 20 (.inl (1))) := rfl
theorem kX7_nextOrder_20 : kX7_nextOrder 20 = some (s_bin 21 (fun x y => m_wrap (x + y))) := rfl
theorem kX7_nextOrder_21 : kX7_nextOrder 21 = some (s_iald 22) := rfl
theorem kX7_nextOrder_22 : kX7_nextOrder 22 = some (s_icmp 25 31 (fun x y => x ≤ y)) := rfl
theorem kX7_nextOrder_25 : kX7_nextOrder 25 = some (s_inc 28 2 (-1)) := rfl
theorem kX7_nextOrder_28 : kX7_nextOrder 28 = some (s_goto 4) := rfl
theorem kX7_nextOrder_31 : kX7_nextOrder 31 = some (s_ild 32 2) := rfl
theorem kX7_nextOrder_32 : kX7_nextOrder 32 = some (s_if 35 37 (fun x => 0 ≤ x)) := rfl
theorem kX7_nextOrder_35 : kX7_nextOrder 35 = some (s_push 36 (.inl (0))) := rfl
theorem kX7_nextOrder_36 : kX7_nextOrder 36 = some (s_retz) := rfl
theorem kX7_nextOrder_37 : kX7_nextOrder 37 = some (s_ild 38 1) := rfl
theorem kX7_nextOrder_38 : kX7_nextOrder 38 = some (s_push 39 (.inl (1))) := rfl
theorem kX7_nextOrder_39 : kX7_nextOrder 39 = some (s_bin 40 (fun x y => m_wrap (x - y))) := rfl
theorem kX7_nextOrder_40 : kX7_nextOrder 40 = some (s_ist 41 3) := rfl
theorem kX7_nextOrder_41 : kX7_nextOrder 41 = some (s_ild 42 3) := rfl
theorem kX7_nextOrder_42 : kX7_nextOrder 42 = some (s_ild 43 2) := rfl
theorem kX7_nextOrder_43 : kX7_nextOrder 43 = some (s_icmp 46 67 (fun x y => x ≤ y)) := rfl
theorem kX7_nextOrder_46 : kX7_nextOrder 46 = some (s_ald 47 0) := rfl
theorem kX7_nextOrder_47 : kX7_nextOrder 47 = some (s_get 50 7 2) := rfl
theorem kX7_nextOrder_50 : kX7_nextOrder 50 = some (s_ild 51 3) := rfl
theorem kX7_nextOrder_51 : kX7_nextOrder 51 = some (s_iald 52) := rfl
theorem kX7_nextOrder_52 : kX7_nextOrder 52 = some (s_ald 53 0) := rfl
theorem kX7_nextOrder_53 : kX7_nextOrder 53 = some (s_get 56 7 2) := rfl
theorem kX7_nextOrder_56 : kX7_nextOrder 56 = some (s_ild 57 2) := rfl
theorem kX7_nextOrder_57 : kX7_nextOrder 57 = some (s_iald 58) := rfl
theorem kX7_nextOrder_58 : kX7_nextOrder 58 = some (s_icmp 61 67 (fun x y => y ≤ x)) := rfl
theorem kX7_nextOrder_61 : kX7_nextOrder 61 = some (s_inc 64 3 (-1)) := rfl
theorem kX7_nextOrder_64 : kX7_nextOrder 64 = some (s_goto 41) := rfl
theorem kX7_nextOrder_67 : kX7_nextOrder 67 = some (s_ald 68 0) := rfl
theorem kX7_nextOrder_68 : kX7_nextOrder 68 = some (s_ild 69 2) := rfl
theorem kX7_nextOrder_69 : kX7_nextOrder 69 = some (s_ild 70 3) := rfl
theorem kX7_nextOrder_70 : kX7_nextOrder 70 = some (s_callV 73 3 7 wX7_swap) := rfl
theorem kX7_nextOrder_73 : kX7_nextOrder 73 = some (s_ild 74 2) := rfl
theorem kX7_nextOrder_74 : kX7_nextOrder 74 = some (s_push 75 (.inl (1))) := rfl
theorem kX7_nextOrder_75 : kX7_nextOrder 75 = some (s_bin 76 (fun x y => m_wrap (x + y))) := rfl
theorem kX7_nextOrder_76 : kX7_nextOrder 76 = some (s_ist 78 4) := rfl
theorem kX7_nextOrder_78 : kX7_nextOrder 78 = some (s_ild 79 1) := rfl
theorem kX7_nextOrder_79 : kX7_nextOrder 79 = some (s_push 80 (.inl (1))) := rfl
theorem kX7_nextOrder_80 : kX7_nextOrder 80 = some (s_bin 81 (fun x y => m_wrap (x - y))) := rfl
theorem kX7_nextOrder_81 : kX7_nextOrder 81 = some (s_ist 83 5) := rfl
theorem kX7_nextOrder_83 : kX7_nextOrder 83 = some (s_ild 85 4) := rfl
theorem kX7_nextOrder_85 : kX7_nextOrder 85 = some (s_ild 87 5) := rfl
theorem kX7_nextOrder_87 : kX7_nextOrder 87 = some (s_icmp 90 107 (fun x y => y ≤ x)) := rfl
theorem kX7_nextOrder_90 : kX7_nextOrder 90 = some (s_ald 91 0) := rfl
theorem kX7_nextOrder_91 : kX7_nextOrder 91 = some (s_ild 93 4) := rfl
theorem kX7_nextOrder_93 : kX7_nextOrder 93 = some (s_ild 95 5) := rfl
theorem kX7_nextOrder_95 : kX7_nextOrder 95 = some (s_callV 98 3 7 wX7_swap) := rfl
theorem kX7_nextOrder_98 : kX7_nextOrder 98 = some (s_inc 101 4 (1)) := rfl
theorem kX7_nextOrder_101 : kX7_nextOrder 101 = some (s_inc 104 5 (-1)) := rfl
theorem kX7_nextOrder_104 : kX7_nextOrder 104 = some (s_goto 83) := rfl
theorem kX7_nextOrder_107 : kX7_nextOrder 107 = some (s_push 108 (.inl (1))) := rfl
theorem kX7_nextOrder_108 : kX7_nextOrder 108 = some (s_retz) := rfl
def wX7_nextOrder : m_GK := m_wp 6 kX7_nextOrder
set_option maxRecDepth 100000 in
set_option maxHeartbeats 4000000 in
theorem sX7_nextOrder (l : Launch) (X : m_X) (hX : m_inj X.1) : m_Sound l X 2 yX7_nextOrder cX7_nextOrder 6 (some .boolean) wX7_nextOrder := m_sound_of hX (by decide) (fun p e s m args below meth c q C hr => m_bt_all (m_bt_all (m_bt_all (m_bt_all (m_bt_all (m_bt_all (m_lf_all (o_iload_n C (i := 1) rfl dX7_nextOrder_0 rfl)) (m_lf_all (o_iconst C (x := (2)) (m_rngd rfl) dX7_nextOrder_1 rfl))) (m_bt_all (m_lf_all (o_isub C dX7_nextOrder_2 rfl)) (m_lf_all (o_istore_n C (i := 2) rfl dX7_nextOrder_3 rfl)))) (m_bt_all (m_bt_all (m_lf_all (o_iload_n C (i := 2) rfl dX7_nextOrder_4 rfl)) (m_lf_all (o_if_lt C dX7_nextOrder_5 rfl rfl))) (m_bt_all (m_lf_all (o_aload_n C (i := 0) rfl dX7_nextOrder_8 rfl)) (m_lf_all (o_get C (ci := 7) (k := 2) (N := 3) (rf := RX7) (T := TX7) rfl ginX7 (Nat.le_of_ble_eq_true rfl) (m_tb_of 342 (by decide +kernel) rfl) dX7_nextOrder_9 rfl))))) (m_bt_all (m_bt_all (m_bt_all (m_lf_all (o_iload_n C (i := 2) rfl dX7_nextOrder_12 rfl)) (m_lf_all (o_iald C dX7_nextOrder_13 rfl))) (m_bt_all (m_lf_all (o_aload_n C (i := 0) rfl dX7_nextOrder_14 rfl)) (m_lf_all (o_get C (ci := 7) (k := 2) (N := 3) (rf := RX7) (T := TX7) rfl ginX7 (Nat.le_of_ble_eq_true rfl) (m_tb_of 342 (by decide +kernel) rfl) dX7_nextOrder_15 rfl)))) (m_bt_all (m_bt_all (m_lf_all (o_iload_n C (i := 2) rfl dX7_nextOrder_18 rfl)) (m_lf_all (o_iconst C (x := (1)) (m_rngd rfl) dX7_nextOrder_19 rfl))) (m_bt_all (m_lf_all (o_iadd C dX7_nextOrder_20 rfl)) (m_lf_all (o_iald C dX7_nextOrder_21 rfl)))))) (m_bt_all (m_bt_all (m_bt_all (m_bt_all (m_lf_all (o_icmp_le C dX7_nextOrder_22 rfl rfl)) (m_lf_all (o_iinc C dX7_nextOrder_25 rfl))) (m_bt_all (m_lf_all (o_goto C dX7_nextOrder_28 rfl)) (m_lf_all (o_iload_n C (i := 2) rfl dX7_nextOrder_31 rfl)))) (m_bt_all (m_bt_all (m_lf_all (o_if_ge C dX7_nextOrder_32 rfl rfl)) (m_lf_all (o_iconst C (x := (0)) (m_rngd rfl) dX7_nextOrder_35 rfl))) (m_bt_all (m_lf_all (o_zret C hr dX7_nextOrder_36)) (m_lf_all (o_iload_n C (i := 1) rfl dX7_nextOrder_37 rfl))))) (m_bt_all (m_bt_all (m_bt_all (m_lf_all (o_iconst C (x := (1)) (m_rngd rfl) dX7_nextOrder_38 rfl)) (m_lf_all (o_isub C dX7_nextOrder_39 rfl))) (m_bt_all (m_lf_all (o_istore_n C (i := 3) rfl dX7_nextOrder_40 rfl)) (m_lf_all (o_iload_n C (i := 3) rfl dX7_nextOrder_41 rfl)))) (m_bt_all (m_bt_all (m_lf_all (o_iload_n C (i := 2) rfl dX7_nextOrder_42 rfl)) (m_lf_all (o_icmp_le C dX7_nextOrder_43 rfl rfl))) (m_bt_all (m_lf_all (o_aload_n C (i := 0) rfl dX7_nextOrder_46 rfl)) (m_lf_all (o_get C (ci := 7) (k := 2) (N := 3) (rf := RX7) (T := TX7) rfl ginX7 (Nat.le_of_ble_eq_true rfl) (m_tb_of 342 (by decide +kernel) rfl) dX7_nextOrder_47 rfl))))))) (m_bt_all (m_bt_all (m_bt_all (m_bt_all (m_bt_all (m_lf_all (o_iload_n C (i := 3) rfl dX7_nextOrder_50 rfl)) (m_lf_all (o_iald C dX7_nextOrder_51 rfl))) (m_bt_all (m_lf_all (o_aload_n C (i := 0) rfl dX7_nextOrder_52 rfl)) (m_lf_all (o_get C (ci := 7) (k := 2) (N := 3) (rf := RX7) (T := TX7) rfl ginX7 (Nat.le_of_ble_eq_true rfl) (m_tb_of 342 (by decide +kernel) rfl) dX7_nextOrder_53 rfl)))) (m_bt_all (m_bt_all (m_lf_all (o_iload_n C (i := 2) rfl dX7_nextOrder_56 rfl)) (m_lf_all (o_iald C dX7_nextOrder_57 rfl))) (m_bt_all (m_lf_all (o_icmp_ge C dX7_nextOrder_58 rfl rfl)) (m_lf_all (o_iinc C dX7_nextOrder_61 rfl))))) (m_bt_all (m_bt_all (m_bt_all (m_lf_all (o_goto C dX7_nextOrder_64 rfl)) (m_lf_all (o_aload_n C (i := 0) rfl dX7_nextOrder_67 rfl))) (m_bt_all (m_lf_all (o_iload_n C (i := 2) rfl dX7_nextOrder_68 rfl)) (m_lf_all (o_iload_n C (i := 3) rfl dX7_nextOrder_69 rfl)))) (m_bt_all (m_bt_all (m_lf_all (o_callV C (T := TX7) (N := 3) (sX7_swap l X hX) rfl (m_in_of [854, 856, 26, 79] (by decide +kernel) (by decide +kernel)) (m_tb_of 857 (by decide +kernel) rfl) (by decide +kernel) rfl ⟨Nat.le_of_ble_eq_true rfl, Nat.le_of_ble_eq_true rfl⟩ dX7_nextOrder_70 rfl)) (m_lf_all (o_iload_n C (i := 2) rfl dX7_nextOrder_73 rfl))) (m_bt_all (m_lf_all (o_iconst C (x := (1)) (m_rngd rfl) dX7_nextOrder_74 rfl)) (m_lf_all (o_iadd C dX7_nextOrder_75 rfl)))))) (m_bt_all (m_bt_all (m_bt_all (m_bt_all (m_lf_all (o_istore C dX7_nextOrder_76 rfl)) (m_lf_all (o_iload_n C (i := 1) rfl dX7_nextOrder_78 rfl))) (m_bt_all (m_lf_all (o_iconst C (x := (1)) (m_rngd rfl) dX7_nextOrder_79 rfl)) (m_lf_all (o_isub C dX7_nextOrder_80 rfl)))) (m_bt_all (m_bt_all (m_lf_all (o_istore C dX7_nextOrder_81 rfl)) (m_lf_all (o_iload C dX7_nextOrder_83 rfl))) (m_bt_all (m_lf_all (o_iload C dX7_nextOrder_85 rfl)) (m_lf_all (o_icmp_ge C dX7_nextOrder_87 rfl rfl))))) (m_bt_all (m_bt_all (m_bt_all (m_lf_all (o_aload_n C (i := 0) rfl dX7_nextOrder_90 rfl)) (m_lf_all (o_iload C dX7_nextOrder_91 rfl))) (m_bt_all (m_lf_all (o_iload C dX7_nextOrder_93 rfl)) (m_lf_all (o_callV C (T := TX7) (N := 3) (sX7_swap l X hX) rfl (m_in_of [854, 856, 26, 79] (by decide +kernel) (by decide +kernel)) (m_tb_of 857 (by decide +kernel) rfl) (by decide +kernel) rfl ⟨Nat.le_of_ble_eq_true rfl, Nat.le_of_ble_eq_true rfl⟩ dX7_nextOrder_95 rfl)))) (m_bt_all (m_bt_all (m_lf_all (o_iinc C dX7_nextOrder_98 rfl)) (m_lf_all (o_iinc C dX7_nextOrder_101 rfl))) (m_bt_all (m_lf_all (o_goto C dX7_nextOrder_104 rfl)) (m_bt_all (m_lf_all (o_iconst C (x := (1)) (m_rngd rfl) dX7_nextOrder_107 rfl)) (m_lf_all (o_zret C hr dX7_nextOrder_108)))))))))
set_option maxRecDepth 20000 in
def kX7_findBest : m_C := m_bt 27 (m_bt 13 (m_bt 5 (m_bt 1 (m_lf 0 (s_ald 1 0)) (m_bt 4 (m_lf 1 (s_callV 4 1 7 wX7_startOrder)) (m_lf 4 (s_ald 5 0)))) (m_bt 7 (m_bt 6 (m_lf 5 (s_ald 6 0)) (m_lf 6 (s_ald 7 1))) (m_bt 10 (m_lf 7 (s_callV 10 2 7 wX7_weaveOf)) (m_lf 10 (s_callV 13 2 7 wX7_keep))))) (m_bt 19 (m_bt 15 (m_bt 14 (m_lf 13 (s_push 14 (.inl (0)))) (m_lf 14 (s_ist 15 2))) (m_bt 16 (m_lf 15 (s_ild 16 2)) (m_lf 16 (s_push 19 (.inl (720)))))) (m_bt 23 (m_bt 22 (m_lf 19 (s_icmp 22 58 (fun x y => y ≤ x))) (m_lf 22 (s_ald 23 0))) (m_bt 24 (m_lf 23 (s_ald 24 1)) (m_lf 24 (s_get 27 2 1)))))) (m_bt 41 (m_bt 35 (m_bt 33 (m_bt 30 (m_lf 27 (s_callV 30 2 7 wX7_nextOrder)) (m_lf 30 (s_if 33 58 (fun x => x = 0)))) (m_bt 34 (m_lf 33 (s_ald 34 0)) (m_lf 34 (s_ald 35 1)))) (m_bt 39 (m_bt 38 (m_lf 35 (s_callV 38 2 7 wX7_weaveOf)) (m_lf 38 (s_ist 39 3))) (m_bt 40 (m_lf 39 (s_ild 40 3)) (m_lf 40 (s_ald 41 0))))) (m_bt 49 (m_bt 47 (m_bt 44 (m_lf 41 (s_get 44 7 1)) (m_lf 44 (s_icmp 47 52 (fun x y => y ≤ x)))) (m_bt 48 (m_lf 47 (s_ald 48 0)) (m_lf 48 (s_ild 49 3)))) (m_bt 55 (m_bt 52 (m_lf 49 (s_callV 52 2 7 wX7_keep)) (m_lf 52 (s_inc 55 2 (1)))) (m_bt 58 (m_lf 55 (s_goto 15)) (m_lf 58 (s_retv))))))
theorem kX7_findBest_0 : kX7_findBest 0 = some (s_ald 1 0) := rfl
theorem kX7_findBest_1 : kX7_findBest 1 = some (s_callV 4 1 7 wX7_startOrder) := rfl
theorem kX7_findBest_4 : kX7_findBest 4 = some (s_ald 5 0) := rfl
theorem kX7_findBest_5 : kX7_findBest 5 = some (s_ald 6 0) := rfl
theorem kX7_findBest_6 : kX7_findBest 6 = some (s_ald 7 1) := rfl
theorem kX7_findBest_7 : kX7_findBest 7 = some (s_callV 10 2 7 wX7_weaveOf) := rfl
theorem kX7_findBest_10 : kX7_findBest 10 = some (s_callV 13 2 7 wX7_keep) := rfl
theorem kX7_findBest_13 : kX7_findBest 13 = some (s_push 14 (.inl (0))) := rfl
theorem kX7_findBest_14 : kX7_findBest 14 = some (s_ist 15 2) := rfl
theorem kX7_findBest_15 : kX7_findBest 15 = some (s_ild 16 2) := rfl
theorem kX7_findBest_16 : kX7_findBest 16 = some (s_push 19 (.inl (720))) := rfl
theorem kX7_findBest_19 : kX7_findBest 19 = some (s_icmp 22 58 (fun x y => y ≤ x)) := rfl
theorem kX7_findBest_22 : kX7_findBest 22 = some (s_ald 23 0) := rfl
theorem kX7_findBest_23 : kX7_findBest 23 = some (s_ald 24 1) := rfl
theorem kX7_findBest_24 : kX7_findBest 24 = some (s_get 27 2 1) := rfl
theorem kX7_findBest_27 : kX7_findBest 27 = some (s_callV 30 2 7 wX7_nextOrder) := rfl
theorem kX7_findBest_30 : kX7_findBest 30 = some (s_if 33 58 (fun x => x = 0)) := rfl
theorem kX7_findBest_33 : kX7_findBest 33 = some (s_ald 34 0) := rfl
theorem kX7_findBest_34 : kX7_findBest 34 = some (s_ald 35 1) := rfl
theorem kX7_findBest_35 : kX7_findBest 35 = some (s_callV 38 2 7 wX7_weaveOf) := rfl
theorem kX7_findBest_38 : kX7_findBest 38 = some (s_ist 39 3) := rfl
theorem kX7_findBest_39 : kX7_findBest 39 = some (s_ild 40 3) := rfl
theorem kX7_findBest_40 : kX7_findBest 40 = some (s_ald 41 0) := rfl
theorem kX7_findBest_41 : kX7_findBest 41 = some (s_get 44 7 1) := rfl
theorem kX7_findBest_44 : kX7_findBest 44 = some (s_icmp 47 52 (fun x y => y ≤ x)) := rfl
theorem kX7_findBest_47 : kX7_findBest 47 = some (s_ald 48 0) := rfl
theorem kX7_findBest_48 : kX7_findBest 48 = some (s_ild 49 3) := rfl
theorem kX7_findBest_49 : kX7_findBest 49 = some (s_callV 52 2 7 wX7_keep) := rfl
theorem kX7_findBest_52 : kX7_findBest 52 = some (s_inc 55 2 (1)) := rfl
theorem kX7_findBest_55 : kX7_findBest 55 = some (s_goto 15) := rfl
theorem kX7_findBest_58 : kX7_findBest 58 = some (s_retv) := rfl
def wX7_findBest : m_GK := m_wp 4 kX7_findBest
set_option maxRecDepth 100000 in
set_option maxHeartbeats 4000000 in
theorem sX7_findBest (l : Launch) (X : m_X) (hX : m_inj X.1) : m_Sound l X 4 yX7_findBest cX7_findBest 4 none wX7_findBest := m_sound_of hX (by decide) (fun p e s m args below meth c q C hr => m_bt_all (m_bt_all (m_bt_all (m_bt_all (m_lf_all (o_aload_n C (i := 0) rfl dX7_findBest_0 rfl)) (m_bt_all (m_lf_all (o_callV C (T := TX7) (N := 3) (sX7_startOrder l X hX) rfl (m_in_of [827, 829, 22, 79] (by decide +kernel) (by decide +kernel)) (m_tb_of 830 (by decide +kernel) rfl) (by decide +kernel) rfl ⟨Nat.le_of_ble_eq_true rfl, Nat.le_of_ble_eq_true rfl⟩ dX7_findBest_1 rfl)) (m_lf_all (o_aload_n C (i := 0) rfl dX7_findBest_4 rfl)))) (m_bt_all (m_bt_all (m_lf_all (o_aload_n C (i := 0) rfl dX7_findBest_5 rfl)) (m_lf_all (o_aload_n C (i := 1) rfl dX7_findBest_6 rfl))) (m_bt_all (m_lf_all (o_callV C (T := TX7) (N := 3) (sX7_weaveOf l X hX) rfl (m_in_of [831, 833, 23, 79] (by decide +kernel) (by decide +kernel)) (m_tb_of 834 (by decide +kernel) rfl) (by decide +kernel) rfl ⟨Nat.le_of_ble_eq_true rfl, Nat.le_of_ble_eq_true rfl⟩ dX7_findBest_7 rfl)) (m_lf_all (o_callV C (T := TX7) (N := 3) (sX7_keep l X hX) rfl (m_in_of [845, 847, 24, 79] (by decide +kernel) (by decide +kernel)) (m_tb_of 848 (by decide +kernel) rfl) (by decide +kernel) rfl ⟨Nat.le_of_ble_eq_true rfl, Nat.le_of_ble_eq_true rfl⟩ dX7_findBest_10 rfl))))) (m_bt_all (m_bt_all (m_bt_all (m_lf_all (o_iconst C (x := (0)) (m_rngd rfl) dX7_findBest_13 rfl)) (m_lf_all (o_istore_n C (i := 2) rfl dX7_findBest_14 rfl))) (m_bt_all (m_lf_all (o_iload_n C (i := 2) rfl dX7_findBest_15 rfl)) (m_lf_all (o_sipush C (x := (720)) (m_rngd rfl) rfl dX7_findBest_16 rfl)))) (m_bt_all (m_bt_all (m_lf_all (o_icmp_ge C dX7_findBest_19 rfl rfl)) (m_lf_all (o_aload_n C (i := 0) rfl dX7_findBest_22 rfl))) (m_bt_all (m_lf_all (o_aload_n C (i := 1) rfl dX7_findBest_23 rfl)) (m_lf_all (o_get C (ci := 2) (k := 1) (N := 8) (rf := RX2) (T := TX2) rfl ginX2 (Nat.le_of_ble_eq_true rfl) (m_tb_of 114 (by decide +kernel) rfl) dX7_findBest_24 rfl)))))) (m_bt_all (m_bt_all (m_bt_all (m_bt_all (m_lf_all (o_callV C (T := TX7) (N := 3) (sX7_nextOrder l X hX) rfl (m_in_of [850, 852, 25, 79] (by decide +kernel) (by decide +kernel)) (m_tb_of 853 (by decide +kernel) rfl) (by decide +kernel) rfl ⟨Nat.le_of_ble_eq_true rfl, Nat.le_of_ble_eq_true rfl⟩ dX7_findBest_27 rfl)) (m_lf_all (o_if_eq C dX7_findBest_30 rfl rfl))) (m_bt_all (m_lf_all (o_aload_n C (i := 0) rfl dX7_findBest_33 rfl)) (m_lf_all (o_aload_n C (i := 1) rfl dX7_findBest_34 rfl)))) (m_bt_all (m_bt_all (m_lf_all (o_callV C (T := TX7) (N := 3) (sX7_weaveOf l X hX) rfl (m_in_of [831, 833, 23, 79] (by decide +kernel) (by decide +kernel)) (m_tb_of 834 (by decide +kernel) rfl) (by decide +kernel) rfl ⟨Nat.le_of_ble_eq_true rfl, Nat.le_of_ble_eq_true rfl⟩ dX7_findBest_35 rfl)) (m_lf_all (o_istore_n C (i := 3) rfl dX7_findBest_38 rfl))) (m_bt_all (m_lf_all (o_iload_n C (i := 3) rfl dX7_findBest_39 rfl)) (m_lf_all (o_aload_n C (i := 0) rfl dX7_findBest_40 rfl))))) (m_bt_all (m_bt_all (m_bt_all (m_lf_all (o_get C (ci := 7) (k := 1) (N := 3) (rf := RX7) (T := TX7) rfl ginX7 (Nat.le_of_ble_eq_true rfl) (m_tb_of 340 (by decide +kernel) rfl) dX7_findBest_41 rfl)) (m_lf_all (o_icmp_ge C dX7_findBest_44 rfl rfl))) (m_bt_all (m_lf_all (o_aload_n C (i := 0) rfl dX7_findBest_47 rfl)) (m_lf_all (o_iload_n C (i := 3) rfl dX7_findBest_48 rfl)))) (m_bt_all (m_bt_all (m_lf_all (o_callV C (T := TX7) (N := 3) (sX7_keep l X hX) rfl (m_in_of [845, 847, 24, 79] (by decide +kernel) (by decide +kernel)) (m_tb_of 848 (by decide +kernel) rfl) (by decide +kernel) rfl ⟨Nat.le_of_ble_eq_true rfl, Nat.le_of_ble_eq_true rfl⟩ dX7_findBest_49 rfl)) (m_lf_all (o_iinc C dX7_findBest_52 rfl))) (m_bt_all (m_lf_all (o_goto C dX7_findBest_55 rfl)) (m_lf_all (o_vret C hr dX7_findBest_58)))))))
set_option maxRecDepth 20000 in
def kX8_refuse : m_C := m_bt 14 (m_bt 4 (m_bt 2 (m_bt 1 (m_lf 0 (s_ild 1 1)) (m_lf 1 (s_neg 2))) (m_bt 3 (m_lf 2 (s_ist 3 2)) (m_lf 3 (s_ild 4 2)))) (m_bt 8 (m_bt 5 (m_lf 4 (s_push 5 (.inl (1)))) (m_lf 5 (s_icmp 8 24 (fun x y => x < y)))) (m_bt 9 (m_lf 8 (s_ild 9 2)) (m_bt 11 (m_lf 9 (s_push 11 (.inl (6)))) (m_lf 11 (s_icmp 14 24 (fun x y => y < x))))))) (m_bt 21 (m_bt 18 (m_bt 15 (m_lf 14 (s_ald 15 0)) (m_lf 15 (s_get 18 8 8))) (m_bt 19 (m_lf 18 (s_ild 19 2)) (m_bt 20 (m_lf 19 (s_dup2 20)) (m_lf 20 (s_iald 21))))) (m_bt 23 (m_bt 22 (m_lf 21 (s_push 22 (.inl (1)))) (m_lf 22 (s_bin 23 (fun x y => m_wrap (x + y))))) (m_bt 24 (m_lf 23 (s_iast 24)) (m_bt 25 (m_lf 24 (s_ild 25 1)) (m_lf 25 (s_ret))))))
theorem kX8_refuse_0 : kX8_refuse 0 = some (s_ild 1 1) := rfl
theorem kX8_refuse_1 : kX8_refuse 1 = some (s_neg 2) := rfl
theorem kX8_refuse_2 : kX8_refuse 2 = some (s_ist 3 2) := rfl
theorem kX8_refuse_3 : kX8_refuse 3 = some (s_ild 4 2) := rfl
theorem kX8_refuse_4 : kX8_refuse 4 = some (s_push 5 (.inl (1))) := rfl
theorem kX8_refuse_5 : kX8_refuse 5 = some (s_icmp 8 24 (fun x y => x < y)) := rfl
theorem kX8_refuse_8 : kX8_refuse 8 = some (s_ild 9 2) := rfl
theorem kX8_refuse_9 : kX8_refuse 9 = some (s_push 11 (.inl (6))) := rfl
theorem kX8_refuse_11 : kX8_refuse 11 = some (s_icmp 14 24 (fun x y => y < x)) := rfl
theorem kX8_refuse_14 : kX8_refuse 14 = some (s_ald 15 0) := rfl
theorem kX8_refuse_15 : kX8_refuse 15 = some (s_get 18 8 8) := rfl
theorem kX8_refuse_18 : kX8_refuse 18 = some (s_ild 19 2) := rfl
theorem kX8_refuse_19 : kX8_refuse 19 = some (s_dup2 20) := rfl
theorem kX8_refuse_20 : kX8_refuse 20 = some (s_iald 21) := rfl
theorem kX8_refuse_21 : kX8_refuse 21 = some (s_push 22 (.inl (1))) := rfl
theorem kX8_refuse_22 : kX8_refuse 22 = some (s_bin 23 (fun x y => m_wrap (x + y))) := rfl
theorem kX8_refuse_23 : kX8_refuse 23 = some (s_iast 24) := rfl
theorem kX8_refuse_24 : kX8_refuse 24 = some (s_ild 25 1) := rfl
theorem kX8_refuse_25 : kX8_refuse 25 = some (s_ret) := rfl
def wX8_refuse : m_GK := m_wp 3 kX8_refuse
set_option maxRecDepth 100000 in
set_option maxHeartbeats 4000000 in
theorem sX8_refuse (l : Launch) (X : m_X) (hX : m_inj X.1) : m_Sound l X 1 yX8_refuse cX8_refuse 3 (some .int) wX8_refuse := m_sound_of hX (by decide) (fun p e s m args below meth c q C hr => m_bt_all (m_bt_all (m_bt_all (m_bt_all (m_lf_all (o_iload_n C (i := 1) rfl dX8_refuse_0 rfl)) (m_lf_all (o_ineg C dX8_refuse_1 rfl))) (m_bt_all (m_lf_all (o_istore_n C (i := 2) rfl dX8_refuse_2 rfl)) (m_lf_all (o_iload_n C (i := 2) rfl dX8_refuse_3 rfl)))) (m_bt_all (m_bt_all (m_lf_all (o_iconst C (x := (1)) (m_rngd rfl) dX8_refuse_4 rfl)) (m_lf_all (o_icmp_lt C dX8_refuse_5 rfl rfl))) (m_bt_all (m_lf_all (o_iload_n C (i := 2) rfl dX8_refuse_8 rfl)) (m_bt_all (m_lf_all (o_bipush C (x := (6)) (m_rngd rfl) rfl dX8_refuse_9 rfl)) (m_lf_all (o_icmp_gt C dX8_refuse_11 rfl rfl)))))) (m_bt_all (m_bt_all (m_bt_all (m_lf_all (o_aload_n C (i := 0) rfl dX8_refuse_14 rfl)) (m_lf_all (o_get C (ci := 8) (k := 8) (N := 11) (rf := RX8) (T := TX8) rfl ginX8 (Nat.le_of_ble_eq_true rfl) (m_tb_of 369 (by decide +kernel) rfl) dX8_refuse_15 rfl))) (m_bt_all (m_lf_all (o_iload_n C (i := 2) rfl dX8_refuse_18 rfl)) (m_bt_all (m_lf_all (o_dup2 C dX8_refuse_19 rfl)) (m_lf_all (o_iald C dX8_refuse_20 rfl))))) (m_bt_all (m_bt_all (m_lf_all (o_iconst C (x := (1)) (m_rngd rfl) dX8_refuse_21 rfl)) (m_lf_all (o_iadd C dX8_refuse_22 rfl))) (m_bt_all (m_lf_all (o_iast C dX8_refuse_23 rfl)) (m_bt_all (m_lf_all (o_iload_n C (i := 1) rfl dX8_refuse_24 rfl)) (m_lf_all (o_iret C hr dX8_refuse_25)))))))
set_option maxRecDepth 20000 in
def kX8_feed : m_C := m_bt 25 (m_bt 11 (m_bt 5 (m_bt 1 (m_lf 0 (s_ild 1 1)) (m_bt 2 (m_lf 1 (s_push 2 (.inl (1)))) (m_lf 2 (s_icmp 5 12 (fun x y => y ≤ x))))) (m_bt 6 (m_lf 5 (s_ald 6 0)) (m_bt 8 (m_lf 6 (s_push 8 (.inl (-4)))) (m_lf 8 (s_callV 11 2 8 wX8_refuse))))) (m_bt 15 (m_bt 12 (m_lf 11 (s_ret)) (m_bt 13 (m_lf 12 (s_ild 13 1)) (m_lf 13 (s_push 15 (.inl (8)))))) (m_bt 19 (m_bt 18 (m_lf 15 (s_icmp 18 32 (fun x y => y < x))) (m_lf 18 (s_ald 19 0))) (m_bt 22 (m_lf 19 (s_get 22 8 2)) (m_lf 22 (s_get 25 6 0)))))) (m_bt 38 (m_bt 29 (m_bt 26 (m_lf 25 (s_ild 26 1)) (m_bt 27 (m_lf 26 (s_bin 27 (fun x y => m_wrap (x + y)))) (m_lf 27 (s_push 29 (.inl (64)))))) (m_bt 33 (m_bt 32 (m_lf 29 (s_icmp 32 39 (fun x y => x ≤ y))) (m_lf 32 (s_ald 33 0))) (m_bt 35 (m_lf 33 (s_push 35 (.inl (-6)))) (m_lf 35 (s_callV 38 2 8 wX8_refuse))))) (m_bt 43 (m_bt 39 (m_lf 38 (s_ret)) (m_bt 40 (m_lf 39 (s_ald 40 0)) (m_lf 40 (s_get 43 8 2)))) (m_bt 45 (m_bt 44 (m_lf 43 (s_ild 44 1)) (m_lf 44 (s_lld 45 2))) (m_bt 48 (m_lf 45 (s_callV 48 3 6 wX6_take)) (m_lf 48 (s_ret))))))
theorem kX8_feed_0 : kX8_feed 0 = some (s_ild 1 1) := rfl
theorem kX8_feed_1 : kX8_feed 1 = some (s_push 2 (.inl (1))) := rfl
theorem kX8_feed_2 : kX8_feed 2 = some (s_icmp 5 12 (fun x y => y ≤ x)) := rfl
theorem kX8_feed_5 : kX8_feed 5 = some (s_ald 6 0) := rfl
theorem kX8_feed_6 : kX8_feed 6 = some (s_push 8 (.inl (-4))) := rfl
theorem kX8_feed_8 : kX8_feed 8 = some (s_callV 11 2 8 wX8_refuse) := rfl
theorem kX8_feed_11 : kX8_feed 11 = some (s_ret) := rfl
theorem kX8_feed_12 : kX8_feed 12 = some (s_ild 13 1) := rfl
theorem kX8_feed_13 : kX8_feed 13 = some (s_push 15 (.inl (8))) := rfl
theorem kX8_feed_15 : kX8_feed 15 = some (s_icmp 18 32 (fun x y => y < x)) := rfl
theorem kX8_feed_18 : kX8_feed 18 = some (s_ald 19 0) := rfl
theorem kX8_feed_19 : kX8_feed 19 = some (s_get 22 8 2) := rfl
theorem kX8_feed_22 : kX8_feed 22 = some (s_get 25 6 0) := rfl
theorem kX8_feed_25 : kX8_feed 25 = some (s_ild 26 1) := rfl
theorem kX8_feed_26 : kX8_feed 26 = some (s_bin 27 (fun x y => m_wrap (x + y))) := rfl
theorem kX8_feed_27 : kX8_feed 27 = some (s_push 29 (.inl (64))) := rfl
theorem kX8_feed_29 : kX8_feed 29 = some (s_icmp 32 39 (fun x y => x ≤ y)) := rfl
theorem kX8_feed_32 : kX8_feed 32 = some (s_ald 33 0) := rfl
theorem kX8_feed_33 : kX8_feed 33 = some (s_push 35 (.inl (-6))) := rfl
theorem kX8_feed_35 : kX8_feed 35 = some (s_callV 38 2 8 wX8_refuse) := rfl
theorem kX8_feed_38 : kX8_feed 38 = some (s_ret) := rfl
theorem kX8_feed_39 : kX8_feed 39 = some (s_ald 40 0) := rfl
theorem kX8_feed_40 : kX8_feed 40 = some (s_get 43 8 2) := rfl
theorem kX8_feed_43 : kX8_feed 43 = some (s_ild 44 1) := rfl
theorem kX8_feed_44 : kX8_feed 44 = some (s_lld 45 2) := rfl
theorem kX8_feed_45 : kX8_feed 45 = some (s_callV 48 3 6 wX6_take) := rfl
theorem kX8_feed_48 : kX8_feed 48 = some (s_ret) := rfl
def wX8_feed : m_GK := m_wp 4 kX8_feed
set_option maxRecDepth 100000 in
set_option maxHeartbeats 4000000 in
theorem sX8_feed (l : Launch) (X : m_X) (hX : m_inj X.1) : m_Sound l X 2 yX8_feed cX8_feed 4 (some .int) wX8_feed := m_sound_of hX (by decide) (fun p e s m args below meth c q C hr => m_bt_all (m_bt_all (m_bt_all (m_bt_all (m_lf_all (o_iload_n C (i := 1) rfl dX8_feed_0 rfl)) (m_bt_all (m_lf_all (o_iconst C (x := (1)) (m_rngd rfl) dX8_feed_1 rfl)) (m_lf_all (o_icmp_ge C dX8_feed_2 rfl rfl)))) (m_bt_all (m_lf_all (o_aload_n C (i := 0) rfl dX8_feed_5 rfl)) (m_bt_all (m_lf_all (o_bipush C (x := (-4)) (m_rngd rfl) rfl dX8_feed_6 rfl)) (m_lf_all (o_callV C (T := TX8) (N := 11) (sX8_refuse l X hX) rfl (m_in_of [399, 401, 0, 72] (by decide +kernel) (by decide +kernel)) (m_tb_of 402 (by decide +kernel) rfl) (by decide +kernel) rfl ⟨Nat.le_of_ble_eq_true rfl, Nat.le_of_ble_eq_true rfl⟩ dX8_feed_8 rfl))))) (m_bt_all (m_bt_all (m_lf_all (o_iret C hr dX8_feed_11)) (m_bt_all (m_lf_all (o_iload_n C (i := 1) rfl dX8_feed_12 rfl)) (m_lf_all (o_bipush C (x := (8)) (m_rngd rfl) rfl dX8_feed_13 rfl)))) (m_bt_all (m_bt_all (m_lf_all (o_icmp_gt C dX8_feed_15 rfl rfl)) (m_lf_all (o_aload_n C (i := 0) rfl dX8_feed_18 rfl))) (m_bt_all (m_lf_all (o_get C (ci := 8) (k := 2) (N := 11) (rf := RX8) (T := TX8) rfl ginX8 (Nat.le_of_ble_eq_true rfl) (m_tb_of 363 (by decide +kernel) rfl) dX8_feed_19 rfl)) (m_lf_all (o_get C (ci := 6) (k := 0) (N := 6) (rf := RX6) (T := TX6) rfl ginX6 (Nat.le_of_ble_eq_true rfl) (m_tb_of 157 (by decide +kernel) rfl) dX8_feed_22 rfl)))))) (m_bt_all (m_bt_all (m_bt_all (m_lf_all (o_iload_n C (i := 1) rfl dX8_feed_25 rfl)) (m_bt_all (m_lf_all (o_iadd C dX8_feed_26 rfl)) (m_lf_all (o_bipush C (x := (64)) (m_rngd rfl) rfl dX8_feed_27 rfl)))) (m_bt_all (m_bt_all (m_lf_all (o_icmp_le C dX8_feed_29 rfl rfl)) (m_lf_all (o_aload_n C (i := 0) rfl dX8_feed_32 rfl))) (m_bt_all (m_lf_all (o_bipush C (x := (-6)) (m_rngd rfl) rfl dX8_feed_33 rfl)) (m_lf_all (o_callV C (T := TX8) (N := 11) (sX8_refuse l X hX) rfl (m_in_of [399, 401, 0, 72] (by decide +kernel) (by decide +kernel)) (m_tb_of 402 (by decide +kernel) rfl) (by decide +kernel) rfl ⟨Nat.le_of_ble_eq_true rfl, Nat.le_of_ble_eq_true rfl⟩ dX8_feed_35 rfl))))) (m_bt_all (m_bt_all (m_lf_all (o_iret C hr dX8_feed_38)) (m_bt_all (m_lf_all (o_aload_n C (i := 0) rfl dX8_feed_39 rfl)) (m_lf_all (o_get C (ci := 8) (k := 2) (N := 11) (rf := RX8) (T := TX8) rfl ginX8 (Nat.le_of_ble_eq_true rfl) (m_tb_of 363 (by decide +kernel) rfl) dX8_feed_40 rfl)))) (m_bt_all (m_bt_all (m_lf_all (o_iload_n C (i := 1) rfl dX8_feed_43 rfl)) (m_lf_all (o_lload_n C (i := 2) rfl dX8_feed_44 rfl))) (m_bt_all (m_lf_all (o_callV C (T := TX6) (N := 6) (sX6_take l X hX) rfl (m_in_of [403, 404, 405, 74] (by decide +kernel) (by decide +kernel)) (m_tb_of 406 (by decide +kernel) rfl) (by decide +kernel) rfl ⟨Nat.le_of_ble_eq_true rfl, Nat.le_of_ble_eq_true rfl⟩ dX8_feed_45 rfl)) (m_lf_all (o_iret C hr dX8_feed_48)))))))
set_option maxRecDepth 20000 in
def kX8_house : m_C := m_bt 5 (m_bt 1 (m_lf 0 (s_ald 1 0)) (m_bt 4 (m_lf 1 (s_get 4 8 2)) (m_lf 4 (s_ald 5 0)))) (m_bt 8 (m_lf 5 (s_get 8 8 0)) (m_bt 11 (m_lf 8 (s_callV 11 2 6 wX6_build)) (m_lf 11 (s_ret))))
theorem kX8_house_0 : kX8_house 0 = some (s_ald 1 0) := rfl
theorem kX8_house_1 : kX8_house 1 = some (s_get 4 8 2) := rfl
theorem kX8_house_4 : kX8_house 4 = some (s_ald 5 0) := rfl
theorem kX8_house_5 : kX8_house 5 = some (s_get 8 8 0) := rfl
theorem kX8_house_8 : kX8_house 8 = some (s_callV 11 2 6 wX6_build) := rfl
theorem kX8_house_11 : kX8_house 11 = some (s_ret) := rfl
def wX8_house : m_GK := m_wp 1 kX8_house
set_option maxRecDepth 100000 in
set_option maxHeartbeats 4000000 in
theorem sX8_house (l : Launch) (X : m_X) (hX : m_inj X.1) : m_Sound l X 8 yX8_house cX8_house 1 (some .int) wX8_house := m_sound_of hX (by decide) (fun p e s m args below meth c q C hr => m_bt_all (m_bt_all (m_lf_all (o_aload_n C (i := 0) rfl dX8_house_0 rfl)) (m_bt_all (m_lf_all (o_get C (ci := 8) (k := 2) (N := 11) (rf := RX8) (T := TX8) rfl ginX8 (Nat.le_of_ble_eq_true rfl) (m_tb_of 363 (by decide +kernel) rfl) dX8_house_1 rfl)) (m_lf_all (o_aload_n C (i := 0) rfl dX8_house_4 rfl)))) (m_bt_all (m_lf_all (o_get C (ci := 8) (k := 0) (N := 11) (rf := RX8) (T := TX8) rfl ginX8 (Nat.le_of_ble_eq_true rfl) (m_tb_of 361 (by decide +kernel) rfl) dX8_house_5 rfl)) (m_bt_all (m_lf_all (o_callV C (T := TX6) (N := 6) (sX6_build l X hX) rfl (m_in_of [412, 413, 414, 74] (by decide +kernel) (by decide +kernel)) (m_tb_of 415 (by decide +kernel) rfl) (by decide +kernel) rfl ⟨Nat.le_of_ble_eq_true rfl, Nat.le_of_ble_eq_true rfl⟩ dX8_house_8 rfl)) (m_lf_all (o_iret C hr dX8_house_11)))))
set_option maxRecDepth 20000 in
def kX8_sort : m_C := m_bt 38 (m_bt 18 (m_bt 11 (m_bt 4 (m_bt 1 (m_lf 0 (s_ald 1 0)) (m_lf 1 (s_get 4 8 0))) (m_bt 5 (m_lf 4 (s_ild 5 1)) (m_bt 8 (m_lf 5 (s_callV 8 2 2 wX2_hasSort)) (m_lf 8 (s_if 11 17 (fun x => ¬ x = 0)))))) (m_bt 13 (m_bt 12 (m_lf 11 (s_ald 12 0)) (m_lf 12 (s_push 13 (.inl (-1))))) (m_bt 16 (m_lf 13 (s_callV 16 2 8 wX8_refuse)) (m_bt 17 (m_lf 16 (s_ret)) (m_lf 17 (s_ild 18 2)))))) (m_bt 27 (m_bt 22 (m_bt 21 (m_lf 18 (s_if 21 26 (fun x => x < 0))) (m_lf 21 (s_ild 22 2))) (m_bt 23 (m_lf 22 (s_push 23 (.inl (5)))) (m_bt 26 (m_lf 23 (s_icmp 26 33 (fun x y => x ≤ y))) (m_lf 26 (s_ald 27 0))))) (m_bt 33 (m_bt 29 (m_lf 27 (s_push 29 (.inl (-2)))) (m_bt 32 (m_lf 29 (s_callV 32 2 8 wX8_refuse)) (m_lf 32 (s_ret)))) (m_bt 34 (m_lf 33 (s_ild 34 2)) (m_bt 37 (m_lf 34 (s_if 37 47 (fun x => ¬ x = 0))) (m_lf 37 (s_ald 38 0))))))) (m_bt 59 (m_bt 47 (m_bt 44 (m_bt 41 (m_lf 38 (s_get 41 8 0)) (m_lf 41 (s_get 44 2 2))) (m_bt 45 (m_lf 44 (s_ild 45 1)) (m_bt 46 (m_lf 45 (s_iald 46)) (m_lf 46 (s_ret))))) (m_bt 52 (m_bt 48 (m_lf 47 (s_ild 48 2)) (m_bt 49 (m_lf 48 (s_push 49 (.inl (1)))) (m_lf 49 (s_icmp 52 64 (fun x y => ¬ x = y))))) (m_bt 53 (m_lf 52 (s_ald 53 0)) (m_bt 56 (m_lf 53 (s_get 56 8 0)) (m_lf 56 (s_get 59 2 3)))))) (m_bt 68 (m_bt 61 (m_bt 60 (m_lf 59 (s_ild 60 1)) (m_lf 60 (s_iald 61))) (m_bt 64 (m_lf 61 (s_goto 75)) (m_bt 65 (m_lf 64 (s_ald 65 0)) (m_lf 65 (s_get 68 8 0))))) (m_bt 71 (m_bt 69 (m_lf 68 (s_ild 69 1)) (m_bt 70 (m_lf 69 (s_ild 70 2)) (m_lf 70 (s_push 71 (.inl (2)))))) (m_bt 72 (m_lf 71 (s_bin 72 (fun x y => m_wrap (x - y)))) (m_bt 75 (m_lf 72 (s_callV 75 3 2 wX2_comersOf)) (m_lf 75 (s_ret)))))))
theorem kX8_sort_0 : kX8_sort 0 = some (s_ald 1 0) := rfl
theorem kX8_sort_1 : kX8_sort 1 = some (s_get 4 8 0) := rfl
theorem kX8_sort_4 : kX8_sort 4 = some (s_ild 5 1) := rfl
theorem kX8_sort_5 : kX8_sort 5 = some (s_callV 8 2 2 wX2_hasSort) := rfl
theorem kX8_sort_8 : kX8_sort 8 = some (s_if 11 17 (fun x => ¬ x = 0)) := rfl
theorem kX8_sort_11 : kX8_sort 11 = some (s_ald 12 0) := rfl
theorem kX8_sort_12 : kX8_sort 12 = some (s_push 13 (.inl (-1))) := rfl
theorem kX8_sort_13 : kX8_sort 13 = some (s_callV 16 2 8 wX8_refuse) := rfl
theorem kX8_sort_16 : kX8_sort 16 = some (s_ret) := rfl
theorem kX8_sort_17 : kX8_sort 17 = some (s_ild 18 2) := rfl
theorem kX8_sort_18 : kX8_sort 18 = some (s_if 21 26 (fun x => x < 0)) := rfl
theorem kX8_sort_21 : kX8_sort 21 = some (s_ild 22 2) := rfl
theorem kX8_sort_22 : kX8_sort 22 = some (s_push 23 (.inl (5))) := rfl
theorem kX8_sort_23 : kX8_sort 23 = some (s_icmp 26 33 (fun x y => x ≤ y)) := rfl
theorem kX8_sort_26 : kX8_sort 26 = some (s_ald 27 0) := rfl
theorem kX8_sort_27 : kX8_sort 27 = some (s_push 29 (.inl (-2))) := rfl
theorem kX8_sort_29 : kX8_sort 29 = some (s_callV 32 2 8 wX8_refuse) := rfl
theorem kX8_sort_32 : kX8_sort 32 = some (s_ret) := rfl
theorem kX8_sort_33 : kX8_sort 33 = some (s_ild 34 2) := rfl
theorem kX8_sort_34 : kX8_sort 34 = some (s_if 37 47 (fun x => ¬ x = 0)) := rfl
theorem kX8_sort_37 : kX8_sort 37 = some (s_ald 38 0) := rfl
theorem kX8_sort_38 : kX8_sort 38 = some (s_get 41 8 0) := rfl
theorem kX8_sort_41 : kX8_sort 41 = some (s_get 44 2 2) := rfl
theorem kX8_sort_44 : kX8_sort 44 = some (s_ild 45 1) := rfl
theorem kX8_sort_45 : kX8_sort 45 = some (s_iald 46) := rfl
theorem kX8_sort_46 : kX8_sort 46 = some (s_ret) := rfl
theorem kX8_sort_47 : kX8_sort 47 = some (s_ild 48 2) := rfl
theorem kX8_sort_48 : kX8_sort 48 = some (s_push 49 (.inl (1))) := rfl
theorem kX8_sort_49 : kX8_sort 49 = some (s_icmp 52 64 (fun x y => ¬ x = y)) := rfl
theorem kX8_sort_52 : kX8_sort 52 = some (s_ald 53 0) := rfl
theorem kX8_sort_53 : kX8_sort 53 = some (s_get 56 8 0) := rfl
theorem kX8_sort_56 : kX8_sort 56 = some (s_get 59 2 3) := rfl
theorem kX8_sort_59 : kX8_sort 59 = some (s_ild 60 1) := rfl
theorem kX8_sort_60 : kX8_sort 60 = some (s_iald 61) := rfl
theorem kX8_sort_61 : kX8_sort 61 = some (s_goto 75) := rfl
theorem kX8_sort_64 : kX8_sort 64 = some (s_ald 65 0) := rfl
theorem kX8_sort_65 : kX8_sort 65 = some (s_get 68 8 0) := rfl
theorem kX8_sort_68 : kX8_sort 68 = some (s_ild 69 1) := rfl
theorem kX8_sort_69 : kX8_sort 69 = some (s_ild 70 2) := rfl
theorem kX8_sort_70 : kX8_sort 70 = some (s_push 71 (.inl (2))) := rfl
theorem kX8_sort_71 : kX8_sort 71 = some (s_bin 72 (fun x y => m_wrap (x - y))) := rfl
theorem kX8_sort_72 : kX8_sort 72 = some (s_callV 75 3 2 wX2_comersOf) := rfl
theorem kX8_sort_75 : kX8_sort 75 = some (s_ret) := rfl
def wX8_sort : m_GK := m_wp 3 kX8_sort
set_option maxRecDepth 100000 in
set_option maxHeartbeats 4000000 in
theorem sX8_sort (l : Launch) (X : m_X) (hX : m_inj X.1) : m_Sound l X 3 yX8_sort cX8_sort 3 (some .int) wX8_sort := m_sound_of hX (by decide) (fun p e s m args below meth c q C hr => m_bt_all (m_bt_all (m_bt_all (m_bt_all (m_bt_all (m_lf_all (o_aload_n C (i := 0) rfl dX8_sort_0 rfl)) (m_lf_all (o_get C (ci := 8) (k := 0) (N := 11) (rf := RX8) (T := TX8) rfl ginX8 (Nat.le_of_ble_eq_true rfl) (m_tb_of 361 (by decide +kernel) rfl) dX8_sort_1 rfl))) (m_bt_all (m_lf_all (o_iload_n C (i := 1) rfl dX8_sort_4 rfl)) (m_bt_all (m_lf_all (o_callV C (T := TX2) (N := 8) (sX2_hasSort l X hX) rfl (m_in_of [557, 533, 534, 73] (by decide +kernel) (by decide +kernel)) (m_tb_of 535 (by decide +kernel) rfl) (by decide +kernel) rfl ⟨Nat.le_of_ble_eq_true rfl, Nat.le_of_ble_eq_true rfl⟩ dX8_sort_5 rfl)) (m_lf_all (o_if_ne C dX8_sort_8 rfl rfl))))) (m_bt_all (m_bt_all (m_lf_all (o_aload_n C (i := 0) rfl dX8_sort_11 rfl)) (m_lf_all (o_iconst C (x := (-1)) (m_rngd rfl) dX8_sort_12 rfl))) (m_bt_all (m_lf_all (o_callV C (T := TX8) (N := 11) (sX8_refuse l X hX) rfl (m_in_of [399, 401, 0, 72] (by decide +kernel) (by decide +kernel)) (m_tb_of 402 (by decide +kernel) rfl) (by decide +kernel) rfl ⟨Nat.le_of_ble_eq_true rfl, Nat.le_of_ble_eq_true rfl⟩ dX8_sort_13 rfl)) (m_bt_all (m_lf_all (o_iret C hr dX8_sort_16)) (m_lf_all (o_iload_n C (i := 2) rfl dX8_sort_17 rfl)))))) (m_bt_all (m_bt_all (m_bt_all (m_lf_all (o_if_lt C dX8_sort_18 rfl rfl)) (m_lf_all (o_iload_n C (i := 2) rfl dX8_sort_21 rfl))) (m_bt_all (m_lf_all (o_iconst C (x := (5)) (m_rngd rfl) dX8_sort_22 rfl)) (m_bt_all (m_lf_all (o_icmp_le C dX8_sort_23 rfl rfl)) (m_lf_all (o_aload_n C (i := 0) rfl dX8_sort_26 rfl))))) (m_bt_all (m_bt_all (m_lf_all (o_bipush C (x := (-2)) (m_rngd rfl) rfl dX8_sort_27 rfl)) (m_bt_all (m_lf_all (o_callV C (T := TX8) (N := 11) (sX8_refuse l X hX) rfl (m_in_of [399, 401, 0, 72] (by decide +kernel) (by decide +kernel)) (m_tb_of 402 (by decide +kernel) rfl) (by decide +kernel) rfl ⟨Nat.le_of_ble_eq_true rfl, Nat.le_of_ble_eq_true rfl⟩ dX8_sort_29 rfl)) (m_lf_all (o_iret C hr dX8_sort_32)))) (m_bt_all (m_lf_all (o_iload_n C (i := 2) rfl dX8_sort_33 rfl)) (m_bt_all (m_lf_all (o_if_ne C dX8_sort_34 rfl rfl)) (m_lf_all (o_aload_n C (i := 0) rfl dX8_sort_37 rfl))))))) (m_bt_all (m_bt_all (m_bt_all (m_bt_all (m_lf_all (o_get C (ci := 8) (k := 0) (N := 11) (rf := RX8) (T := TX8) rfl ginX8 (Nat.le_of_ble_eq_true rfl) (m_tb_of 361 (by decide +kernel) rfl) dX8_sort_38 rfl)) (m_lf_all (o_get C (ci := 2) (k := 2) (N := 8) (rf := RX2) (T := TX2) rfl ginX2 (Nat.le_of_ble_eq_true rfl) (m_tb_of 117 (by decide +kernel) rfl) dX8_sort_41 rfl))) (m_bt_all (m_lf_all (o_iload_n C (i := 1) rfl dX8_sort_44 rfl)) (m_bt_all (m_lf_all (o_iald C dX8_sort_45 rfl)) (m_lf_all (o_iret C hr dX8_sort_46))))) (m_bt_all (m_bt_all (m_lf_all (o_iload_n C (i := 2) rfl dX8_sort_47 rfl)) (m_bt_all (m_lf_all (o_iconst C (x := (1)) (m_rngd rfl) dX8_sort_48 rfl)) (m_lf_all (o_icmp_ne C dX8_sort_49 rfl rfl)))) (m_bt_all (m_lf_all (o_aload_n C (i := 0) rfl dX8_sort_52 rfl)) (m_bt_all (m_lf_all (o_get C (ci := 8) (k := 0) (N := 11) (rf := RX8) (T := TX8) rfl ginX8 (Nat.le_of_ble_eq_true rfl) (m_tb_of 361 (by decide +kernel) rfl) dX8_sort_53 rfl)) (m_lf_all (o_get C (ci := 2) (k := 3) (N := 8) (rf := RX2) (T := TX2) rfl ginX2 (Nat.le_of_ble_eq_true rfl) (m_tb_of 121 (by decide +kernel) rfl) dX8_sort_56 rfl)))))) (m_bt_all (m_bt_all (m_bt_all (m_lf_all (o_iload_n C (i := 1) rfl dX8_sort_59 rfl)) (m_lf_all (o_iald C dX8_sort_60 rfl))) (m_bt_all (m_lf_all (o_goto C dX8_sort_61 rfl)) (m_bt_all (m_lf_all (o_aload_n C (i := 0) rfl dX8_sort_64 rfl)) (m_lf_all (o_get C (ci := 8) (k := 0) (N := 11) (rf := RX8) (T := TX8) rfl ginX8 (Nat.le_of_ble_eq_true rfl) (m_tb_of 361 (by decide +kernel) rfl) dX8_sort_65 rfl))))) (m_bt_all (m_bt_all (m_lf_all (o_iload_n C (i := 1) rfl dX8_sort_68 rfl)) (m_bt_all (m_lf_all (o_iload_n C (i := 2) rfl dX8_sort_69 rfl)) (m_lf_all (o_iconst C (x := (2)) (m_rngd rfl) dX8_sort_70 rfl)))) (m_bt_all (m_lf_all (o_isub C dX8_sort_71 rfl)) (m_bt_all (m_lf_all (o_callV C (T := TX2) (N := 8) (sX2_comersOf l X hX) rfl (m_in_of [558, 559, 560, 73] (by decide +kernel) (by decide +kernel)) (m_tb_of 561 (by decide +kernel) rfl) (by decide +kernel) rfl ⟨Nat.le_of_ble_eq_true rfl, Nat.le_of_ble_eq_true rfl⟩ dX8_sort_72 rfl)) (m_lf_all (o_iret C hr dX8_sort_75))))))))
set_option maxRecDepth 20000 in
def kX8_lane : m_C := m_bt 19 (m_bt 8 (m_bt 4 (m_bt 1 (m_lf 0 (s_ald 1 0)) (m_lf 1 (s_get 4 8 0))) (m_bt 5 (m_lf 4 (s_ild 5 1)) (m_lf 5 (s_callV 8 2 2 wX2_hasLane)))) (m_bt 12 (m_bt 11 (m_lf 8 (s_if 11 18 (fun x => x = 0))) (m_lf 11 (s_ild 12 2))) (m_bt 15 (m_lf 12 (s_callS 15 1 wX8_isQuarter)) (m_bt 18 (m_lf 15 (s_if 18 24 (fun x => ¬ x = 0))) (m_lf 18 (s_ald 19 0)))))) (m_bt 25 (m_bt 23 (m_bt 20 (m_lf 19 (s_push 20 (.inl (-1)))) (m_lf 20 (s_callV 23 2 8 wX8_refuse))) (m_bt 24 (m_lf 23 (s_ret)) (m_lf 24 (s_ald 25 0)))) (m_bt 29 (m_bt 28 (m_lf 25 (s_get 28 8 0)) (m_lf 28 (s_ild 29 1))) (m_bt 30 (m_lf 29 (s_ild 30 2)) (m_bt 33 (m_lf 30 (s_callV 33 3 2 wX2_wordOf)) (m_lf 33 (s_ret))))))
theorem kX8_lane_0 : kX8_lane 0 = some (s_ald 1 0) := rfl
theorem kX8_lane_1 : kX8_lane 1 = some (s_get 4 8 0) := rfl
theorem kX8_lane_4 : kX8_lane 4 = some (s_ild 5 1) := rfl
theorem kX8_lane_5 : kX8_lane 5 = some (s_callV 8 2 2 wX2_hasLane) := rfl
theorem kX8_lane_8 : kX8_lane 8 = some (s_if 11 18 (fun x => x = 0)) := rfl
theorem kX8_lane_11 : kX8_lane 11 = some (s_ild 12 2) := rfl
theorem kX8_lane_12 : kX8_lane 12 = some (s_callS 15 1 wX8_isQuarter) := rfl
theorem kX8_lane_15 : kX8_lane 15 = some (s_if 18 24 (fun x => ¬ x = 0)) := rfl
theorem kX8_lane_18 : kX8_lane 18 = some (s_ald 19 0) := rfl
theorem kX8_lane_19 : kX8_lane 19 = some (s_push 20 (.inl (-1))) := rfl
theorem kX8_lane_20 : kX8_lane 20 = some (s_callV 23 2 8 wX8_refuse) := rfl
theorem kX8_lane_23 : kX8_lane 23 = some (s_ret) := rfl
theorem kX8_lane_24 : kX8_lane 24 = some (s_ald 25 0) := rfl
theorem kX8_lane_25 : kX8_lane 25 = some (s_get 28 8 0) := rfl
theorem kX8_lane_28 : kX8_lane 28 = some (s_ild 29 1) := rfl
theorem kX8_lane_29 : kX8_lane 29 = some (s_ild 30 2) := rfl
theorem kX8_lane_30 : kX8_lane 30 = some (s_callV 33 3 2 wX2_wordOf) := rfl
theorem kX8_lane_33 : kX8_lane 33 = some (s_ret) := rfl
def wX8_lane : m_GK := m_wp 3 kX8_lane
set_option maxRecDepth 100000 in
set_option maxHeartbeats 4000000 in
theorem sX8_lane (l : Launch) (X : m_X) (hX : m_inj X.1) : m_Sound l X 3 yX8_lane cX8_lane 3 (some .int) wX8_lane := m_sound_of hX (by decide) (fun p e s m args below meth c q C hr => m_bt_all (m_bt_all (m_bt_all (m_bt_all (m_lf_all (o_aload_n C (i := 0) rfl dX8_lane_0 rfl)) (m_lf_all (o_get C (ci := 8) (k := 0) (N := 11) (rf := RX8) (T := TX8) rfl ginX8 (Nat.le_of_ble_eq_true rfl) (m_tb_of 361 (by decide +kernel) rfl) dX8_lane_1 rfl))) (m_bt_all (m_lf_all (o_iload_n C (i := 1) rfl dX8_lane_4 rfl)) (m_lf_all (o_callV C (T := TX2) (N := 8) (sX2_hasLane l X hX) rfl (m_in_of [566, 545, 546, 73] (by decide +kernel) (by decide +kernel)) (m_tb_of 547 (by decide +kernel) rfl) (by decide +kernel) rfl ⟨Nat.le_of_ble_eq_true rfl, Nat.le_of_ble_eq_true rfl⟩ dX8_lane_5 rfl)))) (m_bt_all (m_bt_all (m_lf_all (o_if_eq C dX8_lane_8 rfl rfl)) (m_lf_all (o_iload_n C (i := 2) rfl dX8_lane_11 rfl))) (m_bt_all (m_lf_all (o_callS C (sX8_isQuarter l X hX) (m_in_of [567, 530, 72] (by decide +kernel) (by decide +kernel)) (m_tb_of 531 (by decide +kernel) rfl) (by decide +kernel) ⟨Nat.le_of_ble_eq_true rfl, Nat.le_of_ble_eq_true rfl⟩ dX8_lane_12 rfl)) (m_bt_all (m_lf_all (o_if_ne C dX8_lane_15 rfl rfl)) (m_lf_all (o_aload_n C (i := 0) rfl dX8_lane_18 rfl)))))) (m_bt_all (m_bt_all (m_bt_all (m_lf_all (o_iconst C (x := (-1)) (m_rngd rfl) dX8_lane_19 rfl)) (m_lf_all (o_callV C (T := TX8) (N := 11) (sX8_refuse l X hX) rfl (m_in_of [399, 401, 0, 72] (by decide +kernel) (by decide +kernel)) (m_tb_of 402 (by decide +kernel) rfl) (by decide +kernel) rfl ⟨Nat.le_of_ble_eq_true rfl, Nat.le_of_ble_eq_true rfl⟩ dX8_lane_20 rfl))) (m_bt_all (m_lf_all (o_iret C hr dX8_lane_23)) (m_lf_all (o_aload_n C (i := 0) rfl dX8_lane_24 rfl)))) (m_bt_all (m_bt_all (m_lf_all (o_get C (ci := 8) (k := 0) (N := 11) (rf := RX8) (T := TX8) rfl ginX8 (Nat.le_of_ble_eq_true rfl) (m_tb_of 361 (by decide +kernel) rfl) dX8_lane_25 rfl)) (m_lf_all (o_iload_n C (i := 1) rfl dX8_lane_28 rfl))) (m_bt_all (m_lf_all (o_iload_n C (i := 2) rfl dX8_lane_29 rfl)) (m_bt_all (m_lf_all (o_callV C (T := TX2) (N := 8) (sX2_wordOf l X hX) rfl (m_in_of [568, 569, 570, 73] (by decide +kernel) (by decide +kernel)) (m_tb_of 571 (by decide +kernel) rfl) (by decide +kernel) rfl ⟨Nat.le_of_ble_eq_true rfl, Nat.le_of_ble_eq_true rfl⟩ dX8_lane_30 rfl)) (m_lf_all (o_iret C hr dX8_lane_33)))))))
set_option maxRecDepth 20000 in
def kX8_word : m_C := m_bt 34 (m_bt 17 (m_bt 8 (m_bt 4 (m_bt 1 (m_lf 0 (s_ald 1 0)) (m_lf 1 (s_get 4 8 0))) (m_bt 5 (m_lf 4 (s_ild 5 1)) (m_lf 5 (s_callV 8 2 2 wX2_hasLane)))) (m_bt 12 (m_bt 11 (m_lf 8 (s_if 11 17 (fun x => ¬ x = 0))) (m_lf 11 (s_ald 12 0))) (m_bt 13 (m_lf 12 (s_push 13 (.inl (-1)))) (m_bt 16 (m_lf 13 (s_callV 16 2 8 wX8_refuse)) (m_lf 16 (s_ret)))))) (m_bt 24 (m_bt 21 (m_bt 18 (m_lf 17 (s_ild 18 2)) (m_lf 18 (s_if 21 28 (fun x => 0 ≤ x)))) (m_bt 22 (m_lf 21 (s_ald 22 0)) (m_lf 22 (s_push 24 (.inl (-4)))))) (m_bt 28 (m_bt 27 (m_lf 24 (s_callV 27 2 8 wX8_refuse)) (m_lf 27 (s_ret))) (m_bt 29 (m_lf 28 (s_ild 29 2)) (m_bt 31 (m_lf 29 (s_push 31 (.inl (31)))) (m_lf 31 (s_icmp 34 41 (fun x y => x ≤ y)))))))) (m_bt 50 (m_bt 41 (m_bt 37 (m_bt 35 (m_lf 34 (s_ald 35 0)) (m_lf 35 (s_push 37 (.inl (-6))))) (m_bt 40 (m_lf 37 (s_callV 40 2 8 wX8_refuse)) (m_lf 40 (s_ret)))) (m_bt 45 (m_bt 42 (m_lf 41 (s_ald 42 0)) (m_lf 42 (s_get 45 8 0))) (m_bt 46 (m_lf 45 (s_ild 46 1)) (m_bt 47 (m_lf 46 (s_push 47 (.inl (0)))) (m_lf 47 (s_callV 50 3 2 wX2_wordOf)))))) (m_bt 56 (m_bt 52 (m_bt 51 (m_lf 50 (s_ist 51 3)) (m_lf 51 (s_ald 52 0))) (m_bt 55 (m_lf 52 (s_get 55 8 0)) (m_lf 55 (s_ild 56 1)))) (m_bt 58 (m_bt 57 (m_lf 56 (s_push 57 (.inl (0)))) (m_lf 57 (s_ild 58 2))) (m_bt 61 (m_lf 58 (s_callV 61 4 2 wX2_tellWord)) (m_bt 62 (m_lf 61 (s_ild 62 3)) (m_lf 62 (s_ret)))))))
theorem kX8_word_0 : kX8_word 0 = some (s_ald 1 0) := rfl
theorem kX8_word_1 : kX8_word 1 = some (s_get 4 8 0) := rfl
theorem kX8_word_4 : kX8_word 4 = some (s_ild 5 1) := rfl
theorem kX8_word_5 : kX8_word 5 = some (s_callV 8 2 2 wX2_hasLane) := rfl
theorem kX8_word_8 : kX8_word 8 = some (s_if 11 17 (fun x => ¬ x = 0)) := rfl
theorem kX8_word_11 : kX8_word 11 = some (s_ald 12 0) := rfl
theorem kX8_word_12 : kX8_word 12 = some (s_push 13 (.inl (-1))) := rfl
theorem kX8_word_13 : kX8_word 13 = some (s_callV 16 2 8 wX8_refuse) := rfl
theorem kX8_word_16 : kX8_word 16 = some (s_ret) := rfl
theorem kX8_word_17 : kX8_word 17 = some (s_ild 18 2) := rfl
theorem kX8_word_18 : kX8_word 18 = some (s_if 21 28 (fun x => 0 ≤ x)) := rfl
theorem kX8_word_21 : kX8_word 21 = some (s_ald 22 0) := rfl
theorem kX8_word_22 : kX8_word 22 = some (s_push 24 (.inl (-4))) := rfl
theorem kX8_word_24 : kX8_word 24 = some (s_callV 27 2 8 wX8_refuse) := rfl
theorem kX8_word_27 : kX8_word 27 = some (s_ret) := rfl
theorem kX8_word_28 : kX8_word 28 = some (s_ild 29 2) := rfl
theorem kX8_word_29 : kX8_word 29 = some (s_push 31 (.inl (31))) := rfl
theorem kX8_word_31 : kX8_word 31 = some (s_icmp 34 41 (fun x y => x ≤ y)) := rfl
theorem kX8_word_34 : kX8_word 34 = some (s_ald 35 0) := rfl
theorem kX8_word_35 : kX8_word 35 = some (s_push 37 (.inl (-6))) := rfl
theorem kX8_word_37 : kX8_word 37 = some (s_callV 40 2 8 wX8_refuse) := rfl
theorem kX8_word_40 : kX8_word 40 = some (s_ret) := rfl
theorem kX8_word_41 : kX8_word 41 = some (s_ald 42 0) := rfl
theorem kX8_word_42 : kX8_word 42 = some (s_get 45 8 0) := rfl
theorem kX8_word_45 : kX8_word 45 = some (s_ild 46 1) := rfl
theorem kX8_word_46 : kX8_word 46 = some (s_push 47 (.inl (0))) := rfl
theorem kX8_word_47 : kX8_word 47 = some (s_callV 50 3 2 wX2_wordOf) := rfl
theorem kX8_word_50 : kX8_word 50 = some (s_ist 51 3) := rfl
theorem kX8_word_51 : kX8_word 51 = some (s_ald 52 0) := rfl
theorem kX8_word_52 : kX8_word 52 = some (s_get 55 8 0) := rfl
theorem kX8_word_55 : kX8_word 55 = some (s_ild 56 1) := rfl
theorem kX8_word_56 : kX8_word 56 = some (s_push 57 (.inl (0))) := rfl
theorem kX8_word_57 : kX8_word 57 = some (s_ild 58 2) := rfl
theorem kX8_word_58 : kX8_word 58 = some (s_callV 61 4 2 wX2_tellWord) := rfl
theorem kX8_word_61 : kX8_word 61 = some (s_ild 62 3) := rfl
theorem kX8_word_62 : kX8_word 62 = some (s_ret) := rfl
def wX8_word : m_GK := m_wp 4 kX8_word
set_option maxRecDepth 100000 in
set_option maxHeartbeats 4000000 in
theorem sX8_word (l : Launch) (X : m_X) (hX : m_inj X.1) : m_Sound l X 3 yX8_word cX8_word 4 (some .int) wX8_word := m_sound_of hX (by decide) (fun p e s m args below meth c q C hr => m_bt_all (m_bt_all (m_bt_all (m_bt_all (m_bt_all (m_lf_all (o_aload_n C (i := 0) rfl dX8_word_0 rfl)) (m_lf_all (o_get C (ci := 8) (k := 0) (N := 11) (rf := RX8) (T := TX8) rfl ginX8 (Nat.le_of_ble_eq_true rfl) (m_tb_of 361 (by decide +kernel) rfl) dX8_word_1 rfl))) (m_bt_all (m_lf_all (o_iload_n C (i := 1) rfl dX8_word_4 rfl)) (m_lf_all (o_callV C (T := TX2) (N := 8) (sX2_hasLane l X hX) rfl (m_in_of [566, 545, 546, 73] (by decide +kernel) (by decide +kernel)) (m_tb_of 547 (by decide +kernel) rfl) (by decide +kernel) rfl ⟨Nat.le_of_ble_eq_true rfl, Nat.le_of_ble_eq_true rfl⟩ dX8_word_5 rfl)))) (m_bt_all (m_bt_all (m_lf_all (o_if_ne C dX8_word_8 rfl rfl)) (m_lf_all (o_aload_n C (i := 0) rfl dX8_word_11 rfl))) (m_bt_all (m_lf_all (o_iconst C (x := (-1)) (m_rngd rfl) dX8_word_12 rfl)) (m_bt_all (m_lf_all (o_callV C (T := TX8) (N := 11) (sX8_refuse l X hX) rfl (m_in_of [399, 401, 0, 72] (by decide +kernel) (by decide +kernel)) (m_tb_of 402 (by decide +kernel) rfl) (by decide +kernel) rfl ⟨Nat.le_of_ble_eq_true rfl, Nat.le_of_ble_eq_true rfl⟩ dX8_word_13 rfl)) (m_lf_all (o_iret C hr dX8_word_16)))))) (m_bt_all (m_bt_all (m_bt_all (m_lf_all (o_iload_n C (i := 2) rfl dX8_word_17 rfl)) (m_lf_all (o_if_ge C dX8_word_18 rfl rfl))) (m_bt_all (m_lf_all (o_aload_n C (i := 0) rfl dX8_word_21 rfl)) (m_lf_all (o_bipush C (x := (-4)) (m_rngd rfl) rfl dX8_word_22 rfl)))) (m_bt_all (m_bt_all (m_lf_all (o_callV C (T := TX8) (N := 11) (sX8_refuse l X hX) rfl (m_in_of [399, 401, 0, 72] (by decide +kernel) (by decide +kernel)) (m_tb_of 402 (by decide +kernel) rfl) (by decide +kernel) rfl ⟨Nat.le_of_ble_eq_true rfl, Nat.le_of_ble_eq_true rfl⟩ dX8_word_24 rfl)) (m_lf_all (o_iret C hr dX8_word_27))) (m_bt_all (m_lf_all (o_iload_n C (i := 2) rfl dX8_word_28 rfl)) (m_bt_all (m_lf_all (o_bipush C (x := (31)) (m_rngd rfl) rfl dX8_word_29 rfl)) (m_lf_all (o_icmp_le C dX8_word_31 rfl rfl))))))) (m_bt_all (m_bt_all (m_bt_all (m_bt_all (m_lf_all (o_aload_n C (i := 0) rfl dX8_word_34 rfl)) (m_lf_all (o_bipush C (x := (-6)) (m_rngd rfl) rfl dX8_word_35 rfl))) (m_bt_all (m_lf_all (o_callV C (T := TX8) (N := 11) (sX8_refuse l X hX) rfl (m_in_of [399, 401, 0, 72] (by decide +kernel) (by decide +kernel)) (m_tb_of 402 (by decide +kernel) rfl) (by decide +kernel) rfl ⟨Nat.le_of_ble_eq_true rfl, Nat.le_of_ble_eq_true rfl⟩ dX8_word_37 rfl)) (m_lf_all (o_iret C hr dX8_word_40)))) (m_bt_all (m_bt_all (m_lf_all (o_aload_n C (i := 0) rfl dX8_word_41 rfl)) (m_lf_all (o_get C (ci := 8) (k := 0) (N := 11) (rf := RX8) (T := TX8) rfl ginX8 (Nat.le_of_ble_eq_true rfl) (m_tb_of 361 (by decide +kernel) rfl) dX8_word_42 rfl))) (m_bt_all (m_lf_all (o_iload_n C (i := 1) rfl dX8_word_45 rfl)) (m_bt_all (m_lf_all (o_iconst C (x := (0)) (m_rngd rfl) dX8_word_46 rfl)) (m_lf_all (o_callV C (T := TX2) (N := 8) (sX2_wordOf l X hX) rfl (m_in_of [568, 569, 570, 73] (by decide +kernel) (by decide +kernel)) (m_tb_of 571 (by decide +kernel) rfl) (by decide +kernel) rfl ⟨Nat.le_of_ble_eq_true rfl, Nat.le_of_ble_eq_true rfl⟩ dX8_word_47 rfl)))))) (m_bt_all (m_bt_all (m_bt_all (m_lf_all (o_istore_n C (i := 3) rfl dX8_word_50 rfl)) (m_lf_all (o_aload_n C (i := 0) rfl dX8_word_51 rfl))) (m_bt_all (m_lf_all (o_get C (ci := 8) (k := 0) (N := 11) (rf := RX8) (T := TX8) rfl ginX8 (Nat.le_of_ble_eq_true rfl) (m_tb_of 361 (by decide +kernel) rfl) dX8_word_52 rfl)) (m_lf_all (o_iload_n C (i := 1) rfl dX8_word_55 rfl)))) (m_bt_all (m_bt_all (m_lf_all (o_iconst C (x := (0)) (m_rngd rfl) dX8_word_56 rfl)) (m_lf_all (o_iload_n C (i := 2) rfl dX8_word_57 rfl))) (m_bt_all (m_lf_all (o_callV C (T := TX2) (N := 8) (sX2_tellWord l X hX) rfl (m_in_of [576, 549, 550, 73] (by decide +kernel) (by decide +kernel)) (m_tb_of 551 (by decide +kernel) rfl) (by decide +kernel) rfl ⟨Nat.le_of_ble_eq_true rfl, Nat.le_of_ble_eq_true rfl⟩ dX8_word_58 rfl)) (m_bt_all (m_lf_all (o_iload_n C (i := 3) rfl dX8_word_61 rfl)) (m_lf_all (o_iret C hr dX8_word_62))))))))
set_option maxRecDepth 20000 in
def kX8_set : m_C := m_bt 37 (m_bt 18 (m_bt 10 (m_bt 4 (m_bt 1 (m_lf 0 (s_ild 1 1)) (m_lf 1 (s_if 4 10 (fun x => x < 0)))) (m_bt 5 (m_lf 4 (s_ild 5 1)) (m_bt 7 (m_lf 5 (s_push 7 (.inl (8)))) (m_lf 7 (s_icmp 10 17 (fun x y => x < y)))))) (m_bt 13 (m_bt 11 (m_lf 10 (s_ald 11 0)) (m_lf 11 (s_push 13 (.inl (-2))))) (m_bt 16 (m_lf 13 (s_callV 16 2 8 wX8_refuse)) (m_bt 17 (m_lf 16 (s_ret)) (m_lf 17 (s_ild 18 2)))))) (m_bt 27 (m_bt 22 (m_bt 21 (m_lf 18 (s_push 21 (.inr (.inr 400)))) (m_lf 21 (s_ild 22 1))) (m_bt 23 (m_lf 22 (s_tald 23)) (m_bt 26 (m_lf 23 (s_icmp 26 33 (fun x y => y ≤ x))) (m_lf 26 (s_ald 27 0))))) (m_bt 32 (m_bt 29 (m_lf 27 (s_push 29 (.inl (-4)))) (m_lf 29 (s_callV 32 2 8 wX8_refuse))) (m_bt 33 (m_lf 32 (s_ret)) (m_bt 34 (m_lf 33 (s_ild 34 2)) (m_lf 34 (s_push 37 (.inr (.inr 401))))))))) (m_bt 56 (m_bt 45 (m_bt 39 (m_bt 38 (m_lf 37 (s_ild 38 1)) (m_lf 38 (s_tald 39))) (m_bt 42 (m_lf 39 (s_icmp 42 49 (fun x y => x ≤ y))) (m_bt 43 (m_lf 42 (s_ald 43 0)) (m_lf 43 (s_push 45 (.inl (-6))))))) (m_bt 49 (m_bt 48 (m_lf 45 (s_callV 48 2 8 wX8_refuse)) (m_lf 48 (s_ret))) (m_bt 50 (m_lf 49 (s_ald 50 0)) (m_bt 53 (m_lf 50 (s_get 53 8 0)) (m_lf 53 (s_get 56 2 7)))))) (m_bt 63 (m_bt 58 (m_bt 57 (m_lf 56 (s_ild 57 1)) (m_lf 57 (s_iald 58))) (m_bt 59 (m_lf 58 (s_ist 59 3)) (m_bt 60 (m_lf 59 (s_ald 60 0)) (m_lf 60 (s_get 63 8 0))))) (m_bt 68 (m_bt 66 (m_lf 63 (s_get 66 2 7)) (m_bt 67 (m_lf 66 (s_ild 67 1)) (m_lf 67 (s_ild 68 2)))) (m_bt 69 (m_lf 68 (s_iast 69)) (m_bt 70 (m_lf 69 (s_ild 70 3)) (m_lf 70 (s_ret)))))))
theorem kX8_set_0 : kX8_set 0 = some (s_ild 1 1) := rfl
theorem kX8_set_1 : kX8_set 1 = some (s_if 4 10 (fun x => x < 0)) := rfl
theorem kX8_set_4 : kX8_set 4 = some (s_ild 5 1) := rfl
theorem kX8_set_5 : kX8_set 5 = some (s_push 7 (.inl (8))) := rfl
theorem kX8_set_7 : kX8_set 7 = some (s_icmp 10 17 (fun x y => x < y)) := rfl
theorem kX8_set_10 : kX8_set 10 = some (s_ald 11 0) := rfl
theorem kX8_set_11 : kX8_set 11 = some (s_push 13 (.inl (-2))) := rfl
theorem kX8_set_13 : kX8_set 13 = some (s_callV 16 2 8 wX8_refuse) := rfl
theorem kX8_set_16 : kX8_set 16 = some (s_ret) := rfl
theorem kX8_set_17 : kX8_set 17 = some (s_ild 18 2) := rfl
theorem kX8_set_18 : kX8_set 18 = some (s_push 21 (.inr (.inr 400))) := rfl
theorem kX8_set_21 : kX8_set 21 = some (s_ild 22 1) := rfl
theorem kX8_set_22 : kX8_set 22 = some (s_tald 23) := rfl
theorem kX8_set_23 : kX8_set 23 = some (s_icmp 26 33 (fun x y => y ≤ x)) := rfl
theorem kX8_set_26 : kX8_set 26 = some (s_ald 27 0) := rfl
theorem kX8_set_27 : kX8_set 27 = some (s_push 29 (.inl (-4))) := rfl
theorem kX8_set_29 : kX8_set 29 = some (s_callV 32 2 8 wX8_refuse) := rfl
theorem kX8_set_32 : kX8_set 32 = some (s_ret) := rfl
theorem kX8_set_33 : kX8_set 33 = some (s_ild 34 2) := rfl
theorem kX8_set_34 : kX8_set 34 = some (s_push 37 (.inr (.inr 401))) := rfl
theorem kX8_set_37 : kX8_set 37 = some (s_ild 38 1) := rfl
theorem kX8_set_38 : kX8_set 38 = some (s_tald 39) := rfl
theorem kX8_set_39 : kX8_set 39 = some (s_icmp 42 49 (fun x y => x ≤ y)) := rfl
theorem kX8_set_42 : kX8_set 42 = some (s_ald 43 0) := rfl
theorem kX8_set_43 : kX8_set 43 = some (s_push 45 (.inl (-6))) := rfl
theorem kX8_set_45 : kX8_set 45 = some (s_callV 48 2 8 wX8_refuse) := rfl
theorem kX8_set_48 : kX8_set 48 = some (s_ret) := rfl
theorem kX8_set_49 : kX8_set 49 = some (s_ald 50 0) := rfl
theorem kX8_set_50 : kX8_set 50 = some (s_get 53 8 0) := rfl
theorem kX8_set_53 : kX8_set 53 = some (s_get 56 2 7) := rfl
theorem kX8_set_56 : kX8_set 56 = some (s_ild 57 1) := rfl
theorem kX8_set_57 : kX8_set 57 = some (s_iald 58) := rfl
theorem kX8_set_58 : kX8_set 58 = some (s_ist 59 3) := rfl
theorem kX8_set_59 : kX8_set 59 = some (s_ald 60 0) := rfl
theorem kX8_set_60 : kX8_set 60 = some (s_get 63 8 0) := rfl
theorem kX8_set_63 : kX8_set 63 = some (s_get 66 2 7) := rfl
theorem kX8_set_66 : kX8_set 66 = some (s_ild 67 1) := rfl
theorem kX8_set_67 : kX8_set 67 = some (s_ild 68 2) := rfl
theorem kX8_set_68 : kX8_set 68 = some (s_iast 69) := rfl
theorem kX8_set_69 : kX8_set 69 = some (s_ild 70 3) := rfl
theorem kX8_set_70 : kX8_set 70 = some (s_ret) := rfl
def wX8_set : m_GK := m_wp 4 kX8_set
set_option maxRecDepth 100000 in
set_option maxHeartbeats 4000000 in
theorem sX8_set (l : Launch) (X : m_X) (hX : m_inj X.1) : m_Sound l X 2 yX8_set cX8_set 4 (some .int) wX8_set := m_sound_of hX (by decide) (fun p e s m args below meth c q C hr => m_bt_all (m_bt_all (m_bt_all (m_bt_all (m_bt_all (m_lf_all (o_iload_n C (i := 1) rfl dX8_set_0 rfl)) (m_lf_all (o_if_lt C dX8_set_1 rfl rfl))) (m_bt_all (m_lf_all (o_iload_n C (i := 1) rfl dX8_set_4 rfl)) (m_bt_all (m_lf_all (o_bipush C (x := (8)) (m_rngd rfl) rfl dX8_set_5 rfl)) (m_lf_all (o_icmp_lt C dX8_set_7 rfl rfl))))) (m_bt_all (m_bt_all (m_lf_all (o_aload_n C (i := 0) rfl dX8_set_10 rfl)) (m_lf_all (o_bipush C (x := (-2)) (m_rngd rfl) rfl dX8_set_11 rfl))) (m_bt_all (m_lf_all (o_callV C (T := TX8) (N := 11) (sX8_refuse l X hX) rfl (m_in_of [399, 401, 0, 72] (by decide +kernel) (by decide +kernel)) (m_tb_of 402 (by decide +kernel) rfl) (by decide +kernel) rfl ⟨Nat.le_of_ble_eq_true rfl, Nat.le_of_ble_eq_true rfl⟩ dX8_set_13 rfl)) (m_bt_all (m_lf_all (o_iret C hr dX8_set_16)) (m_lf_all (o_iload_n C (i := 2) rfl dX8_set_17 rfl)))))) (m_bt_all (m_bt_all (m_bt_all (m_lf_all (o_getstatic C (x := 400) (n0 := "LEAST_SETTING") (m_tb_of 581 (by decide +kernel) rfl) (fun h => h.1.1.1) dX8_set_18 rfl)) (m_lf_all (o_iload_n C (i := 1) rfl dX8_set_21 rfl))) (m_bt_all (m_lf_all (o_tald C dX8_set_22 rfl)) (m_bt_all (m_lf_all (o_icmp_ge C dX8_set_23 rfl rfl)) (m_lf_all (o_aload_n C (i := 0) rfl dX8_set_26 rfl))))) (m_bt_all (m_bt_all (m_lf_all (o_bipush C (x := (-4)) (m_rngd rfl) rfl dX8_set_27 rfl)) (m_lf_all (o_callV C (T := TX8) (N := 11) (sX8_refuse l X hX) rfl (m_in_of [399, 401, 0, 72] (by decide +kernel) (by decide +kernel)) (m_tb_of 402 (by decide +kernel) rfl) (by decide +kernel) rfl ⟨Nat.le_of_ble_eq_true rfl, Nat.le_of_ble_eq_true rfl⟩ dX8_set_29 rfl))) (m_bt_all (m_lf_all (o_iret C hr dX8_set_32)) (m_bt_all (m_lf_all (o_iload_n C (i := 2) rfl dX8_set_33 rfl)) (m_lf_all (o_getstatic C (x := 401) (n0 := "MOST_SETTING") (m_tb_of 583 (by decide +kernel) rfl) (fun h => h.1.2.1.1) dX8_set_34 rfl))))))) (m_bt_all (m_bt_all (m_bt_all (m_bt_all (m_lf_all (o_iload_n C (i := 1) rfl dX8_set_37 rfl)) (m_lf_all (o_tald C dX8_set_38 rfl))) (m_bt_all (m_lf_all (o_icmp_le C dX8_set_39 rfl rfl)) (m_bt_all (m_lf_all (o_aload_n C (i := 0) rfl dX8_set_42 rfl)) (m_lf_all (o_bipush C (x := (-6)) (m_rngd rfl) rfl dX8_set_43 rfl))))) (m_bt_all (m_bt_all (m_lf_all (o_callV C (T := TX8) (N := 11) (sX8_refuse l X hX) rfl (m_in_of [399, 401, 0, 72] (by decide +kernel) (by decide +kernel)) (m_tb_of 402 (by decide +kernel) rfl) (by decide +kernel) rfl ⟨Nat.le_of_ble_eq_true rfl, Nat.le_of_ble_eq_true rfl⟩ dX8_set_45 rfl)) (m_lf_all (o_iret C hr dX8_set_48))) (m_bt_all (m_lf_all (o_aload_n C (i := 0) rfl dX8_set_49 rfl)) (m_bt_all (m_lf_all (o_get C (ci := 8) (k := 0) (N := 11) (rf := RX8) (T := TX8) rfl ginX8 (Nat.le_of_ble_eq_true rfl) (m_tb_of 361 (by decide +kernel) rfl) dX8_set_50 rfl)) (m_lf_all (o_get C (ci := 2) (k := 7) (N := 8) (rf := RX2) (T := TX2) rfl ginX2 (Nat.le_of_ble_eq_true rfl) (m_tb_of 128 (by decide +kernel) rfl) dX8_set_53 rfl)))))) (m_bt_all (m_bt_all (m_bt_all (m_lf_all (o_iload_n C (i := 1) rfl dX8_set_56 rfl)) (m_lf_all (o_iald C dX8_set_57 rfl))) (m_bt_all (m_lf_all (o_istore_n C (i := 3) rfl dX8_set_58 rfl)) (m_bt_all (m_lf_all (o_aload_n C (i := 0) rfl dX8_set_59 rfl)) (m_lf_all (o_get C (ci := 8) (k := 0) (N := 11) (rf := RX8) (T := TX8) rfl ginX8 (Nat.le_of_ble_eq_true rfl) (m_tb_of 361 (by decide +kernel) rfl) dX8_set_60 rfl))))) (m_bt_all (m_bt_all (m_lf_all (o_get C (ci := 2) (k := 7) (N := 8) (rf := RX2) (T := TX2) rfl ginX2 (Nat.le_of_ble_eq_true rfl) (m_tb_of 128 (by decide +kernel) rfl) dX8_set_63 rfl)) (m_bt_all (m_lf_all (o_iload_n C (i := 1) rfl dX8_set_66 rfl)) (m_lf_all (o_iload_n C (i := 2) rfl dX8_set_67 rfl)))) (m_bt_all (m_lf_all (o_iast C dX8_set_68 rfl)) (m_bt_all (m_lf_all (o_iload_n C (i := 3) rfl dX8_set_69 rfl)) (m_lf_all (o_iret C hr dX8_set_70))))))))
set_option maxRecDepth 20000 in
def kX8_come : m_C := m_bt 36 (m_bt 19 (m_bt 8 (m_bt 4 (m_bt 1 (m_lf 0 (s_ild 1 1)) (m_lf 1 (s_callS 4 1 wX8_isQuarter))) (m_bt 7 (m_lf 4 (s_if 7 18 (fun x => x = 0))) (m_lf 7 (s_ald 8 0)))) (m_bt 12 (m_bt 11 (m_lf 8 (s_get 11 8 0)) (m_lf 11 (s_ild 12 2))) (m_bt 15 (m_lf 12 (s_callV 15 2 2 wX2_hasSort)) (m_bt 18 (m_lf 15 (s_if 18 24 (fun x => ¬ x = 0))) (m_lf 18 (s_ald 19 0)))))) (m_bt 28 (m_bt 23 (m_bt 20 (m_lf 19 (s_push 20 (.inl (-1)))) (m_lf 20 (s_callV 23 2 8 wX8_refuse))) (m_bt 24 (m_lf 23 (s_ret)) (m_bt 25 (m_lf 24 (s_ild 25 3)) (m_lf 25 (s_if 28 35 (fun x => 0 ≤ x)))))) (m_bt 31 (m_bt 29 (m_lf 28 (s_ald 29 0)) (m_lf 29 (s_push 31 (.inl (-4))))) (m_bt 34 (m_lf 31 (s_callV 34 2 8 wX8_refuse)) (m_bt 35 (m_lf 34 (s_ret)) (m_lf 35 (s_ild 36 3))))))) (m_bt 54 (m_bt 47 (m_bt 41 (m_bt 38 (m_lf 36 (s_push 38 (.inl (25)))) (m_lf 38 (s_icmp 41 48 (fun x y => x ≤ y)))) (m_bt 42 (m_lf 41 (s_ald 42 0)) (m_bt 44 (m_lf 42 (s_push 44 (.inl (-6)))) (m_lf 44 (s_callV 47 2 8 wX8_refuse))))) (m_bt 49 (m_bt 48 (m_lf 47 (s_ret)) (m_lf 48 (s_ald 49 0))) (m_bt 52 (m_lf 49 (s_get 52 8 0)) (m_bt 53 (m_lf 52 (s_ild 53 2)) (m_lf 53 (s_ild 54 1)))))) (m_bt 64 (m_bt 59 (m_bt 57 (m_lf 54 (s_callV 57 3 2 wX2_comersOf)) (m_lf 57 (s_ist 59 4))) (m_bt 60 (m_lf 59 (s_ald 60 0)) (m_bt 63 (m_lf 60 (s_get 63 8 0)) (m_lf 63 (s_ild 64 2))))) (m_bt 66 (m_bt 65 (m_lf 64 (s_ild 65 1)) (m_lf 65 (s_ild 66 3))) (m_bt 69 (m_lf 66 (s_callV 69 4 2 wX2_tellComers)) (m_bt 71 (m_lf 69 (s_ild 71 4)) (m_lf 71 (s_ret)))))))
theorem kX8_come_0 : kX8_come 0 = some (s_ild 1 1) := rfl
theorem kX8_come_1 : kX8_come 1 = some (s_callS 4 1 wX8_isQuarter) := rfl
theorem kX8_come_4 : kX8_come 4 = some (s_if 7 18 (fun x => x = 0)) := rfl
theorem kX8_come_7 : kX8_come 7 = some (s_ald 8 0) := rfl
theorem kX8_come_8 : kX8_come 8 = some (s_get 11 8 0) := rfl
theorem kX8_come_11 : kX8_come 11 = some (s_ild 12 2) := rfl
theorem kX8_come_12 : kX8_come 12 = some (s_callV 15 2 2 wX2_hasSort) := rfl
theorem kX8_come_15 : kX8_come 15 = some (s_if 18 24 (fun x => ¬ x = 0)) := rfl
theorem kX8_come_18 : kX8_come 18 = some (s_ald 19 0) := rfl
theorem kX8_come_19 : kX8_come 19 = some (s_push 20 (.inl (-1))) := rfl
theorem kX8_come_20 : kX8_come 20 = some (s_callV 23 2 8 wX8_refuse) := rfl
theorem kX8_come_23 : kX8_come 23 = some (s_ret) := rfl
theorem kX8_come_24 : kX8_come 24 = some (s_ild 25 3) := rfl
theorem kX8_come_25 : kX8_come 25 = some (s_if 28 35 (fun x => 0 ≤ x)) := rfl
theorem kX8_come_28 : kX8_come 28 = some (s_ald 29 0) := rfl
theorem kX8_come_29 : kX8_come 29 = some (s_push 31 (.inl (-4))) := rfl
theorem kX8_come_31 : kX8_come 31 = some (s_callV 34 2 8 wX8_refuse) := rfl
theorem kX8_come_34 : kX8_come 34 = some (s_ret) := rfl
theorem kX8_come_35 : kX8_come 35 = some (s_ild 36 3) := rfl
theorem kX8_come_36 : kX8_come 36 = some (s_push 38 (.inl (25))) := rfl
theorem kX8_come_38 : kX8_come 38 = some (s_icmp 41 48 (fun x y => x ≤ y)) := rfl
theorem kX8_come_41 : kX8_come 41 = some (s_ald 42 0) := rfl
theorem kX8_come_42 : kX8_come 42 = some (s_push 44 (.inl (-6))) := rfl
theorem kX8_come_44 : kX8_come 44 = some (s_callV 47 2 8 wX8_refuse) := rfl
theorem kX8_come_47 : kX8_come 47 = some (s_ret) := rfl
theorem kX8_come_48 : kX8_come 48 = some (s_ald 49 0) := rfl
theorem kX8_come_49 : kX8_come 49 = some (s_get 52 8 0) := rfl
theorem kX8_come_52 : kX8_come 52 = some (s_ild 53 2) := rfl
theorem kX8_come_53 : kX8_come 53 = some (s_ild 54 1) := rfl
theorem kX8_come_54 : kX8_come 54 = some (s_callV 57 3 2 wX2_comersOf) := rfl
theorem kX8_come_57 : kX8_come 57 = some (s_ist 59 4) := rfl
theorem kX8_come_59 : kX8_come 59 = some (s_ald 60 0) := rfl
theorem kX8_come_60 : kX8_come 60 = some (s_get 63 8 0) := rfl
theorem kX8_come_63 : kX8_come 63 = some (s_ild 64 2) := rfl
theorem kX8_come_64 : kX8_come 64 = some (s_ild 65 1) := rfl
theorem kX8_come_65 : kX8_come 65 = some (s_ild 66 3) := rfl
theorem kX8_come_66 : kX8_come 66 = some (s_callV 69 4 2 wX2_tellComers) := rfl
theorem kX8_come_69 : kX8_come 69 = some (s_ild 71 4) := rfl
theorem kX8_come_71 : kX8_come 71 = some (s_ret) := rfl
def wX8_come : m_GK := m_wp 5 kX8_come
set_option maxRecDepth 100000 in
set_option maxHeartbeats 4000000 in
theorem sX8_come (l : Launch) (X : m_X) (hX : m_inj X.1) : m_Sound l X 3 yX8_come cX8_come 5 (some .int) wX8_come := m_sound_of hX (by decide) (fun p e s m args below meth c q C hr => m_bt_all (m_bt_all (m_bt_all (m_bt_all (m_bt_all (m_lf_all (o_iload_n C (i := 1) rfl dX8_come_0 rfl)) (m_lf_all (o_callS C (sX8_isQuarter l X hX) (m_in_of [567, 530, 72] (by decide +kernel) (by decide +kernel)) (m_tb_of 531 (by decide +kernel) rfl) (by decide +kernel) ⟨Nat.le_of_ble_eq_true rfl, Nat.le_of_ble_eq_true rfl⟩ dX8_come_1 rfl))) (m_bt_all (m_lf_all (o_if_eq C dX8_come_4 rfl rfl)) (m_lf_all (o_aload_n C (i := 0) rfl dX8_come_7 rfl)))) (m_bt_all (m_bt_all (m_lf_all (o_get C (ci := 8) (k := 0) (N := 11) (rf := RX8) (T := TX8) rfl ginX8 (Nat.le_of_ble_eq_true rfl) (m_tb_of 361 (by decide +kernel) rfl) dX8_come_8 rfl)) (m_lf_all (o_iload_n C (i := 2) rfl dX8_come_11 rfl))) (m_bt_all (m_lf_all (o_callV C (T := TX2) (N := 8) (sX2_hasSort l X hX) rfl (m_in_of [557, 533, 534, 73] (by decide +kernel) (by decide +kernel)) (m_tb_of 535 (by decide +kernel) rfl) (by decide +kernel) rfl ⟨Nat.le_of_ble_eq_true rfl, Nat.le_of_ble_eq_true rfl⟩ dX8_come_12 rfl)) (m_bt_all (m_lf_all (o_if_ne C dX8_come_15 rfl rfl)) (m_lf_all (o_aload_n C (i := 0) rfl dX8_come_18 rfl)))))) (m_bt_all (m_bt_all (m_bt_all (m_lf_all (o_iconst C (x := (-1)) (m_rngd rfl) dX8_come_19 rfl)) (m_lf_all (o_callV C (T := TX8) (N := 11) (sX8_refuse l X hX) rfl (m_in_of [399, 401, 0, 72] (by decide +kernel) (by decide +kernel)) (m_tb_of 402 (by decide +kernel) rfl) (by decide +kernel) rfl ⟨Nat.le_of_ble_eq_true rfl, Nat.le_of_ble_eq_true rfl⟩ dX8_come_20 rfl))) (m_bt_all (m_lf_all (o_iret C hr dX8_come_23)) (m_bt_all (m_lf_all (o_iload_n C (i := 3) rfl dX8_come_24 rfl)) (m_lf_all (o_if_ge C dX8_come_25 rfl rfl))))) (m_bt_all (m_bt_all (m_lf_all (o_aload_n C (i := 0) rfl dX8_come_28 rfl)) (m_lf_all (o_bipush C (x := (-4)) (m_rngd rfl) rfl dX8_come_29 rfl))) (m_bt_all (m_lf_all (o_callV C (T := TX8) (N := 11) (sX8_refuse l X hX) rfl (m_in_of [399, 401, 0, 72] (by decide +kernel) (by decide +kernel)) (m_tb_of 402 (by decide +kernel) rfl) (by decide +kernel) rfl ⟨Nat.le_of_ble_eq_true rfl, Nat.le_of_ble_eq_true rfl⟩ dX8_come_31 rfl)) (m_bt_all (m_lf_all (o_iret C hr dX8_come_34)) (m_lf_all (o_iload_n C (i := 3) rfl dX8_come_35 rfl))))))) (m_bt_all (m_bt_all (m_bt_all (m_bt_all (m_lf_all (o_bipush C (x := (25)) (m_rngd rfl) rfl dX8_come_36 rfl)) (m_lf_all (o_icmp_le C dX8_come_38 rfl rfl))) (m_bt_all (m_lf_all (o_aload_n C (i := 0) rfl dX8_come_41 rfl)) (m_bt_all (m_lf_all (o_bipush C (x := (-6)) (m_rngd rfl) rfl dX8_come_42 rfl)) (m_lf_all (o_callV C (T := TX8) (N := 11) (sX8_refuse l X hX) rfl (m_in_of [399, 401, 0, 72] (by decide +kernel) (by decide +kernel)) (m_tb_of 402 (by decide +kernel) rfl) (by decide +kernel) rfl ⟨Nat.le_of_ble_eq_true rfl, Nat.le_of_ble_eq_true rfl⟩ dX8_come_44 rfl))))) (m_bt_all (m_bt_all (m_lf_all (o_iret C hr dX8_come_47)) (m_lf_all (o_aload_n C (i := 0) rfl dX8_come_48 rfl))) (m_bt_all (m_lf_all (o_get C (ci := 8) (k := 0) (N := 11) (rf := RX8) (T := TX8) rfl ginX8 (Nat.le_of_ble_eq_true rfl) (m_tb_of 361 (by decide +kernel) rfl) dX8_come_49 rfl)) (m_bt_all (m_lf_all (o_iload_n C (i := 2) rfl dX8_come_52 rfl)) (m_lf_all (o_iload_n C (i := 1) rfl dX8_come_53 rfl)))))) (m_bt_all (m_bt_all (m_bt_all (m_lf_all (o_callV C (T := TX2) (N := 8) (sX2_comersOf l X hX) rfl (m_in_of [558, 559, 560, 73] (by decide +kernel) (by decide +kernel)) (m_tb_of 561 (by decide +kernel) rfl) (by decide +kernel) rfl ⟨Nat.le_of_ble_eq_true rfl, Nat.le_of_ble_eq_true rfl⟩ dX8_come_54 rfl)) (m_lf_all (o_istore C dX8_come_57 rfl))) (m_bt_all (m_lf_all (o_aload_n C (i := 0) rfl dX8_come_59 rfl)) (m_bt_all (m_lf_all (o_get C (ci := 8) (k := 0) (N := 11) (rf := RX8) (T := TX8) rfl ginX8 (Nat.le_of_ble_eq_true rfl) (m_tb_of 361 (by decide +kernel) rfl) dX8_come_60 rfl)) (m_lf_all (o_iload_n C (i := 2) rfl dX8_come_63 rfl))))) (m_bt_all (m_bt_all (m_lf_all (o_iload_n C (i := 1) rfl dX8_come_64 rfl)) (m_lf_all (o_iload_n C (i := 3) rfl dX8_come_65 rfl))) (m_bt_all (m_lf_all (o_callV C (T := TX2) (N := 8) (sX2_tellComers l X hX) rfl (m_in_of [589, 537, 538, 73] (by decide +kernel) (by decide +kernel)) (m_tb_of 539 (by decide +kernel) rfl) (by decide +kernel) rfl ⟨Nat.le_of_ble_eq_true rfl, Nat.le_of_ble_eq_true rfl⟩ dX8_come_66 rfl)) (m_bt_all (m_lf_all (o_iload C dX8_come_69 rfl)) (m_lf_all (o_iret C hr dX8_come_71))))))))
set_option maxRecDepth 20000 in
def kX8_cost : m_C := m_bt 8 (m_bt 4 (m_bt 1 (m_lf 0 (s_ald 1 0)) (m_lf 1 (s_get 4 8 3))) (m_bt 5 (m_lf 4 (s_ald 5 0)) (m_lf 5 (s_get 8 8 0)))) (m_bt 12 (m_bt 11 (m_lf 8 (s_callV 11 2 1 wX1_run)) (m_lf 11 (s_ald 12 0))) (m_bt 15 (m_lf 12 (s_get 15 8 3)) (m_bt 18 (m_lf 15 (s_callV 18 1 1 wX1_allCost)) (m_lf 18 (s_ret)))))
theorem kX8_cost_0 : kX8_cost 0 = some (s_ald 1 0) := rfl
theorem kX8_cost_1 : kX8_cost 1 = some (s_get 4 8 3) := rfl
theorem kX8_cost_4 : kX8_cost 4 = some (s_ald 5 0) := rfl
theorem kX8_cost_5 : kX8_cost 5 = some (s_get 8 8 0) := rfl
theorem kX8_cost_8 : kX8_cost 8 = some (s_callV 11 2 1 wX1_run) := rfl
theorem kX8_cost_11 : kX8_cost 11 = some (s_ald 12 0) := rfl
theorem kX8_cost_12 : kX8_cost 12 = some (s_get 15 8 3) := rfl
theorem kX8_cost_15 : kX8_cost 15 = some (s_callV 18 1 1 wX1_allCost) := rfl
theorem kX8_cost_18 : kX8_cost 18 = some (s_ret) := rfl
def wX8_cost : m_GK := m_wp 1 kX8_cost
set_option maxRecDepth 100000 in
set_option maxHeartbeats 4000000 in
theorem sX8_cost (l : Launch) (X : m_X) (hX : m_inj X.1) : m_Sound l X 6 yX8_cost cX8_cost 1 (some .int) wX8_cost := m_sound_of hX (by decide) (fun p e s m args below meth c q C hr => m_bt_all (m_bt_all (m_bt_all (m_lf_all (o_aload_n C (i := 0) rfl dX8_cost_0 rfl)) (m_lf_all (o_get C (ci := 8) (k := 3) (N := 11) (rf := RX8) (T := TX8) rfl ginX8 (Nat.le_of_ble_eq_true rfl) (m_tb_of 364 (by decide +kernel) rfl) dX8_cost_1 rfl))) (m_bt_all (m_lf_all (o_aload_n C (i := 0) rfl dX8_cost_4 rfl)) (m_lf_all (o_get C (ci := 8) (k := 0) (N := 11) (rf := RX8) (T := TX8) rfl ginX8 (Nat.le_of_ble_eq_true rfl) (m_tb_of 361 (by decide +kernel) rfl) dX8_cost_5 rfl)))) (m_bt_all (m_bt_all (m_lf_all (o_callV C (T := TX1) (N := 11) (sX1_run l X hX) rfl (m_in_of [594, 595, 596, 75] (by decide +kernel) (by decide +kernel)) (m_tb_of 597 (by decide +kernel) rfl) (by decide +kernel) rfl ⟨Nat.le_of_ble_eq_true rfl, Nat.le_of_ble_eq_true rfl⟩ dX8_cost_8 rfl)) (m_lf_all (o_aload_n C (i := 0) rfl dX8_cost_11 rfl))) (m_bt_all (m_lf_all (o_get C (ci := 8) (k := 3) (N := 11) (rf := RX8) (T := TX8) rfl ginX8 (Nat.le_of_ble_eq_true rfl) (m_tb_of 364 (by decide +kernel) rfl) dX8_cost_12 rfl)) (m_bt_all (m_lf_all (o_callV C (T := TX1) (N := 11) (sX1_allCost l X hX) rfl (m_in_of [706, 707, 708, 75] (by decide +kernel) (by decide +kernel)) (m_tb_of 709 (by decide +kernel) rfl) (by decide +kernel) rfl ⟨Nat.le_of_ble_eq_true rfl, Nat.le_of_ble_eq_true rfl⟩ dX8_cost_15 rfl)) (m_lf_all (o_iret C hr dX8_cost_18))))))
set_option maxRecDepth 20000 in
def kX8_waited : m_C := m_bt 18 (m_bt 11 (m_bt 4 (m_bt 1 (m_lf 0 (s_ald 1 0)) (m_lf 1 (s_get 4 8 0))) (m_bt 5 (m_lf 4 (s_ild 5 1)) (m_bt 8 (m_lf 5 (s_callV 8 2 2 wX2_hasSort)) (m_lf 8 (s_if 11 17 (fun x => ¬ x = 0)))))) (m_bt 13 (m_bt 12 (m_lf 11 (s_ald 12 0)) (m_lf 12 (s_push 13 (.inl (-1))))) (m_bt 16 (m_lf 13 (s_callV 16 2 8 wX8_refuse)) (m_bt 17 (m_lf 16 (s_ret)) (m_lf 17 (s_ald 18 0)))))) (m_bt 29 (m_bt 22 (m_bt 21 (m_lf 18 (s_get 21 8 3)) (m_lf 21 (s_ald 22 0))) (m_bt 25 (m_lf 22 (s_get 25 8 0)) (m_bt 28 (m_lf 25 (s_callV 28 2 1 wX1_run)) (m_lf 28 (s_ald 29 0))))) (m_bt 35 (m_bt 32 (m_lf 29 (s_get 32 8 3)) (m_lf 32 (s_get 35 1 0))) (m_bt 36 (m_lf 35 (s_ild 36 1)) (m_bt 37 (m_lf 36 (s_iald 37)) (m_lf 37 (s_ret))))))
theorem kX8_waited_0 : kX8_waited 0 = some (s_ald 1 0) := rfl
theorem kX8_waited_1 : kX8_waited 1 = some (s_get 4 8 0) := rfl
theorem kX8_waited_4 : kX8_waited 4 = some (s_ild 5 1) := rfl
theorem kX8_waited_5 : kX8_waited 5 = some (s_callV 8 2 2 wX2_hasSort) := rfl
theorem kX8_waited_8 : kX8_waited 8 = some (s_if 11 17 (fun x => ¬ x = 0)) := rfl
theorem kX8_waited_11 : kX8_waited 11 = some (s_ald 12 0) := rfl
theorem kX8_waited_12 : kX8_waited 12 = some (s_push 13 (.inl (-1))) := rfl
theorem kX8_waited_13 : kX8_waited 13 = some (s_callV 16 2 8 wX8_refuse) := rfl
theorem kX8_waited_16 : kX8_waited 16 = some (s_ret) := rfl
theorem kX8_waited_17 : kX8_waited 17 = some (s_ald 18 0) := rfl
theorem kX8_waited_18 : kX8_waited 18 = some (s_get 21 8 3) := rfl
theorem kX8_waited_21 : kX8_waited 21 = some (s_ald 22 0) := rfl
theorem kX8_waited_22 : kX8_waited 22 = some (s_get 25 8 0) := rfl
theorem kX8_waited_25 : kX8_waited 25 = some (s_callV 28 2 1 wX1_run) := rfl
theorem kX8_waited_28 : kX8_waited 28 = some (s_ald 29 0) := rfl
theorem kX8_waited_29 : kX8_waited 29 = some (s_get 32 8 3) := rfl
theorem kX8_waited_32 : kX8_waited 32 = some (s_get 35 1 0) := rfl
theorem kX8_waited_35 : kX8_waited 35 = some (s_ild 36 1) := rfl
theorem kX8_waited_36 : kX8_waited 36 = some (s_iald 37) := rfl
theorem kX8_waited_37 : kX8_waited 37 = some (s_ret) := rfl
def wX8_waited : m_GK := m_wp 2 kX8_waited
set_option maxRecDepth 100000 in
set_option maxHeartbeats 4000000 in
theorem sX8_waited (l : Launch) (X : m_X) (hX : m_inj X.1) : m_Sound l X 6 yX8_waited cX8_waited 2 (some .int) wX8_waited := m_sound_of hX (by decide) (fun p e s m args below meth c q C hr => m_bt_all (m_bt_all (m_bt_all (m_bt_all (m_lf_all (o_aload_n C (i := 0) rfl dX8_waited_0 rfl)) (m_lf_all (o_get C (ci := 8) (k := 0) (N := 11) (rf := RX8) (T := TX8) rfl ginX8 (Nat.le_of_ble_eq_true rfl) (m_tb_of 361 (by decide +kernel) rfl) dX8_waited_1 rfl))) (m_bt_all (m_lf_all (o_iload_n C (i := 1) rfl dX8_waited_4 rfl)) (m_bt_all (m_lf_all (o_callV C (T := TX2) (N := 8) (sX2_hasSort l X hX) rfl (m_in_of [557, 533, 534, 73] (by decide +kernel) (by decide +kernel)) (m_tb_of 535 (by decide +kernel) rfl) (by decide +kernel) rfl ⟨Nat.le_of_ble_eq_true rfl, Nat.le_of_ble_eq_true rfl⟩ dX8_waited_5 rfl)) (m_lf_all (o_if_ne C dX8_waited_8 rfl rfl))))) (m_bt_all (m_bt_all (m_lf_all (o_aload_n C (i := 0) rfl dX8_waited_11 rfl)) (m_lf_all (o_iconst C (x := (-1)) (m_rngd rfl) dX8_waited_12 rfl))) (m_bt_all (m_lf_all (o_callV C (T := TX8) (N := 11) (sX8_refuse l X hX) rfl (m_in_of [399, 401, 0, 72] (by decide +kernel) (by decide +kernel)) (m_tb_of 402 (by decide +kernel) rfl) (by decide +kernel) rfl ⟨Nat.le_of_ble_eq_true rfl, Nat.le_of_ble_eq_true rfl⟩ dX8_waited_13 rfl)) (m_bt_all (m_lf_all (o_iret C hr dX8_waited_16)) (m_lf_all (o_aload_n C (i := 0) rfl dX8_waited_17 rfl)))))) (m_bt_all (m_bt_all (m_bt_all (m_lf_all (o_get C (ci := 8) (k := 3) (N := 11) (rf := RX8) (T := TX8) rfl ginX8 (Nat.le_of_ble_eq_true rfl) (m_tb_of 364 (by decide +kernel) rfl) dX8_waited_18 rfl)) (m_lf_all (o_aload_n C (i := 0) rfl dX8_waited_21 rfl))) (m_bt_all (m_lf_all (o_get C (ci := 8) (k := 0) (N := 11) (rf := RX8) (T := TX8) rfl ginX8 (Nat.le_of_ble_eq_true rfl) (m_tb_of 361 (by decide +kernel) rfl) dX8_waited_22 rfl)) (m_bt_all (m_lf_all (o_callV C (T := TX1) (N := 11) (sX1_run l X hX) rfl (m_in_of [594, 595, 596, 75] (by decide +kernel) (by decide +kernel)) (m_tb_of 597 (by decide +kernel) rfl) (by decide +kernel) rfl ⟨Nat.le_of_ble_eq_true rfl, Nat.le_of_ble_eq_true rfl⟩ dX8_waited_25 rfl)) (m_lf_all (o_aload_n C (i := 0) rfl dX8_waited_28 rfl))))) (m_bt_all (m_bt_all (m_lf_all (o_get C (ci := 8) (k := 3) (N := 11) (rf := RX8) (T := TX8) rfl ginX8 (Nat.le_of_ble_eq_true rfl) (m_tb_of 364 (by decide +kernel) rfl) dX8_waited_29 rfl)) (m_lf_all (o_get C (ci := 1) (k := 0) (N := 11) (rf := RX1) (T := TX1) rfl ginX1 (Nat.le_of_ble_eq_true rfl) (m_tb_of 281 (by decide +kernel) rfl) dX8_waited_32 rfl))) (m_bt_all (m_lf_all (o_iload_n C (i := 1) rfl dX8_waited_35 rfl)) (m_bt_all (m_lf_all (o_iald C dX8_waited_36 rfl)) (m_lf_all (o_iret C hr dX8_waited_37)))))))
set_option maxRecDepth 20000 in
def kX8_served : m_C := m_bt 18 (m_bt 11 (m_bt 4 (m_bt 1 (m_lf 0 (s_ald 1 0)) (m_lf 1 (s_get 4 8 0))) (m_bt 5 (m_lf 4 (s_ild 5 1)) (m_bt 8 (m_lf 5 (s_callV 8 2 2 wX2_hasSort)) (m_lf 8 (s_if 11 17 (fun x => ¬ x = 0)))))) (m_bt 13 (m_bt 12 (m_lf 11 (s_ald 12 0)) (m_lf 12 (s_push 13 (.inl (-1))))) (m_bt 16 (m_lf 13 (s_callV 16 2 8 wX8_refuse)) (m_bt 17 (m_lf 16 (s_ret)) (m_lf 17 (s_ald 18 0)))))) (m_bt 29 (m_bt 22 (m_bt 21 (m_lf 18 (s_get 21 8 3)) (m_lf 21 (s_ald 22 0))) (m_bt 25 (m_lf 22 (s_get 25 8 0)) (m_bt 28 (m_lf 25 (s_callV 28 2 1 wX1_run)) (m_lf 28 (s_ald 29 0))))) (m_bt 35 (m_bt 32 (m_lf 29 (s_get 32 8 3)) (m_lf 32 (s_get 35 1 1))) (m_bt 36 (m_lf 35 (s_ild 36 1)) (m_bt 37 (m_lf 36 (s_iald 37)) (m_lf 37 (s_ret))))))
theorem kX8_served_0 : kX8_served 0 = some (s_ald 1 0) := rfl
theorem kX8_served_1 : kX8_served 1 = some (s_get 4 8 0) := rfl
theorem kX8_served_4 : kX8_served 4 = some (s_ild 5 1) := rfl
theorem kX8_served_5 : kX8_served 5 = some (s_callV 8 2 2 wX2_hasSort) := rfl
theorem kX8_served_8 : kX8_served 8 = some (s_if 11 17 (fun x => ¬ x = 0)) := rfl
theorem kX8_served_11 : kX8_served 11 = some (s_ald 12 0) := rfl
theorem kX8_served_12 : kX8_served 12 = some (s_push 13 (.inl (-1))) := rfl
theorem kX8_served_13 : kX8_served 13 = some (s_callV 16 2 8 wX8_refuse) := rfl
theorem kX8_served_16 : kX8_served 16 = some (s_ret) := rfl
theorem kX8_served_17 : kX8_served 17 = some (s_ald 18 0) := rfl
theorem kX8_served_18 : kX8_served 18 = some (s_get 21 8 3) := rfl
theorem kX8_served_21 : kX8_served 21 = some (s_ald 22 0) := rfl
theorem kX8_served_22 : kX8_served 22 = some (s_get 25 8 0) := rfl
theorem kX8_served_25 : kX8_served 25 = some (s_callV 28 2 1 wX1_run) := rfl
theorem kX8_served_28 : kX8_served 28 = some (s_ald 29 0) := rfl
theorem kX8_served_29 : kX8_served 29 = some (s_get 32 8 3) := rfl
theorem kX8_served_32 : kX8_served 32 = some (s_get 35 1 1) := rfl
theorem kX8_served_35 : kX8_served 35 = some (s_ild 36 1) := rfl
theorem kX8_served_36 : kX8_served 36 = some (s_iald 37) := rfl
theorem kX8_served_37 : kX8_served 37 = some (s_ret) := rfl
def wX8_served : m_GK := m_wp 2 kX8_served
set_option maxRecDepth 100000 in
set_option maxHeartbeats 4000000 in
theorem sX8_served (l : Launch) (X : m_X) (hX : m_inj X.1) : m_Sound l X 6 yX8_served cX8_served 2 (some .int) wX8_served := m_sound_of hX (by decide) (fun p e s m args below meth c q C hr => m_bt_all (m_bt_all (m_bt_all (m_bt_all (m_lf_all (o_aload_n C (i := 0) rfl dX8_served_0 rfl)) (m_lf_all (o_get C (ci := 8) (k := 0) (N := 11) (rf := RX8) (T := TX8) rfl ginX8 (Nat.le_of_ble_eq_true rfl) (m_tb_of 361 (by decide +kernel) rfl) dX8_served_1 rfl))) (m_bt_all (m_lf_all (o_iload_n C (i := 1) rfl dX8_served_4 rfl)) (m_bt_all (m_lf_all (o_callV C (T := TX2) (N := 8) (sX2_hasSort l X hX) rfl (m_in_of [557, 533, 534, 73] (by decide +kernel) (by decide +kernel)) (m_tb_of 535 (by decide +kernel) rfl) (by decide +kernel) rfl ⟨Nat.le_of_ble_eq_true rfl, Nat.le_of_ble_eq_true rfl⟩ dX8_served_5 rfl)) (m_lf_all (o_if_ne C dX8_served_8 rfl rfl))))) (m_bt_all (m_bt_all (m_lf_all (o_aload_n C (i := 0) rfl dX8_served_11 rfl)) (m_lf_all (o_iconst C (x := (-1)) (m_rngd rfl) dX8_served_12 rfl))) (m_bt_all (m_lf_all (o_callV C (T := TX8) (N := 11) (sX8_refuse l X hX) rfl (m_in_of [399, 401, 0, 72] (by decide +kernel) (by decide +kernel)) (m_tb_of 402 (by decide +kernel) rfl) (by decide +kernel) rfl ⟨Nat.le_of_ble_eq_true rfl, Nat.le_of_ble_eq_true rfl⟩ dX8_served_13 rfl)) (m_bt_all (m_lf_all (o_iret C hr dX8_served_16)) (m_lf_all (o_aload_n C (i := 0) rfl dX8_served_17 rfl)))))) (m_bt_all (m_bt_all (m_bt_all (m_lf_all (o_get C (ci := 8) (k := 3) (N := 11) (rf := RX8) (T := TX8) rfl ginX8 (Nat.le_of_ble_eq_true rfl) (m_tb_of 364 (by decide +kernel) rfl) dX8_served_18 rfl)) (m_lf_all (o_aload_n C (i := 0) rfl dX8_served_21 rfl))) (m_bt_all (m_lf_all (o_get C (ci := 8) (k := 0) (N := 11) (rf := RX8) (T := TX8) rfl ginX8 (Nat.le_of_ble_eq_true rfl) (m_tb_of 361 (by decide +kernel) rfl) dX8_served_22 rfl)) (m_bt_all (m_lf_all (o_callV C (T := TX1) (N := 11) (sX1_run l X hX) rfl (m_in_of [594, 595, 596, 75] (by decide +kernel) (by decide +kernel)) (m_tb_of 597 (by decide +kernel) rfl) (by decide +kernel) rfl ⟨Nat.le_of_ble_eq_true rfl, Nat.le_of_ble_eq_true rfl⟩ dX8_served_25 rfl)) (m_lf_all (o_aload_n C (i := 0) rfl dX8_served_28 rfl))))) (m_bt_all (m_bt_all (m_lf_all (o_get C (ci := 8) (k := 3) (N := 11) (rf := RX8) (T := TX8) rfl ginX8 (Nat.le_of_ble_eq_true rfl) (m_tb_of 364 (by decide +kernel) rfl) dX8_served_29 rfl)) (m_lf_all (o_get C (ci := 1) (k := 1) (N := 11) (rf := RX1) (T := TX1) rfl ginX1 (Nat.le_of_ble_eq_true rfl) (m_tb_of 283 (by decide +kernel) rfl) dX8_served_32 rfl))) (m_bt_all (m_lf_all (o_iload_n C (i := 1) rfl dX8_served_35 rfl)) (m_bt_all (m_lf_all (o_iald C dX8_served_36 rfl)) (m_lf_all (o_iret C hr dX8_served_37)))))))
set_option maxRecDepth 20000 in
def kX8_lost : m_C := m_bt 18 (m_bt 11 (m_bt 4 (m_bt 1 (m_lf 0 (s_ald 1 0)) (m_lf 1 (s_get 4 8 0))) (m_bt 5 (m_lf 4 (s_ild 5 1)) (m_bt 8 (m_lf 5 (s_callV 8 2 2 wX2_hasSort)) (m_lf 8 (s_if 11 17 (fun x => ¬ x = 0)))))) (m_bt 13 (m_bt 12 (m_lf 11 (s_ald 12 0)) (m_lf 12 (s_push 13 (.inl (-1))))) (m_bt 16 (m_lf 13 (s_callV 16 2 8 wX8_refuse)) (m_bt 17 (m_lf 16 (s_ret)) (m_lf 17 (s_ald 18 0)))))) (m_bt 29 (m_bt 22 (m_bt 21 (m_lf 18 (s_get 21 8 3)) (m_lf 21 (s_ald 22 0))) (m_bt 25 (m_lf 22 (s_get 25 8 0)) (m_bt 28 (m_lf 25 (s_callV 28 2 1 wX1_run)) (m_lf 28 (s_ald 29 0))))) (m_bt 35 (m_bt 32 (m_lf 29 (s_get 32 8 3)) (m_lf 32 (s_get 35 1 2))) (m_bt 36 (m_lf 35 (s_ild 36 1)) (m_bt 37 (m_lf 36 (s_iald 37)) (m_lf 37 (s_ret))))))
theorem kX8_lost_0 : kX8_lost 0 = some (s_ald 1 0) := rfl
theorem kX8_lost_1 : kX8_lost 1 = some (s_get 4 8 0) := rfl
theorem kX8_lost_4 : kX8_lost 4 = some (s_ild 5 1) := rfl
theorem kX8_lost_5 : kX8_lost 5 = some (s_callV 8 2 2 wX2_hasSort) := rfl
theorem kX8_lost_8 : kX8_lost 8 = some (s_if 11 17 (fun x => ¬ x = 0)) := rfl
theorem kX8_lost_11 : kX8_lost 11 = some (s_ald 12 0) := rfl
theorem kX8_lost_12 : kX8_lost 12 = some (s_push 13 (.inl (-1))) := rfl
theorem kX8_lost_13 : kX8_lost 13 = some (s_callV 16 2 8 wX8_refuse) := rfl
theorem kX8_lost_16 : kX8_lost 16 = some (s_ret) := rfl
theorem kX8_lost_17 : kX8_lost 17 = some (s_ald 18 0) := rfl
theorem kX8_lost_18 : kX8_lost 18 = some (s_get 21 8 3) := rfl
theorem kX8_lost_21 : kX8_lost 21 = some (s_ald 22 0) := rfl
theorem kX8_lost_22 : kX8_lost 22 = some (s_get 25 8 0) := rfl
theorem kX8_lost_25 : kX8_lost 25 = some (s_callV 28 2 1 wX1_run) := rfl
theorem kX8_lost_28 : kX8_lost 28 = some (s_ald 29 0) := rfl
theorem kX8_lost_29 : kX8_lost 29 = some (s_get 32 8 3) := rfl
theorem kX8_lost_32 : kX8_lost 32 = some (s_get 35 1 2) := rfl
theorem kX8_lost_35 : kX8_lost 35 = some (s_ild 36 1) := rfl
theorem kX8_lost_36 : kX8_lost 36 = some (s_iald 37) := rfl
theorem kX8_lost_37 : kX8_lost 37 = some (s_ret) := rfl
def wX8_lost : m_GK := m_wp 2 kX8_lost
set_option maxRecDepth 100000 in
set_option maxHeartbeats 4000000 in
theorem sX8_lost (l : Launch) (X : m_X) (hX : m_inj X.1) : m_Sound l X 6 yX8_lost cX8_lost 2 (some .int) wX8_lost := m_sound_of hX (by decide) (fun p e s m args below meth c q C hr => m_bt_all (m_bt_all (m_bt_all (m_bt_all (m_lf_all (o_aload_n C (i := 0) rfl dX8_lost_0 rfl)) (m_lf_all (o_get C (ci := 8) (k := 0) (N := 11) (rf := RX8) (T := TX8) rfl ginX8 (Nat.le_of_ble_eq_true rfl) (m_tb_of 361 (by decide +kernel) rfl) dX8_lost_1 rfl))) (m_bt_all (m_lf_all (o_iload_n C (i := 1) rfl dX8_lost_4 rfl)) (m_bt_all (m_lf_all (o_callV C (T := TX2) (N := 8) (sX2_hasSort l X hX) rfl (m_in_of [557, 533, 534, 73] (by decide +kernel) (by decide +kernel)) (m_tb_of 535 (by decide +kernel) rfl) (by decide +kernel) rfl ⟨Nat.le_of_ble_eq_true rfl, Nat.le_of_ble_eq_true rfl⟩ dX8_lost_5 rfl)) (m_lf_all (o_if_ne C dX8_lost_8 rfl rfl))))) (m_bt_all (m_bt_all (m_lf_all (o_aload_n C (i := 0) rfl dX8_lost_11 rfl)) (m_lf_all (o_iconst C (x := (-1)) (m_rngd rfl) dX8_lost_12 rfl))) (m_bt_all (m_lf_all (o_callV C (T := TX8) (N := 11) (sX8_refuse l X hX) rfl (m_in_of [399, 401, 0, 72] (by decide +kernel) (by decide +kernel)) (m_tb_of 402 (by decide +kernel) rfl) (by decide +kernel) rfl ⟨Nat.le_of_ble_eq_true rfl, Nat.le_of_ble_eq_true rfl⟩ dX8_lost_13 rfl)) (m_bt_all (m_lf_all (o_iret C hr dX8_lost_16)) (m_lf_all (o_aload_n C (i := 0) rfl dX8_lost_17 rfl)))))) (m_bt_all (m_bt_all (m_bt_all (m_lf_all (o_get C (ci := 8) (k := 3) (N := 11) (rf := RX8) (T := TX8) rfl ginX8 (Nat.le_of_ble_eq_true rfl) (m_tb_of 364 (by decide +kernel) rfl) dX8_lost_18 rfl)) (m_lf_all (o_aload_n C (i := 0) rfl dX8_lost_21 rfl))) (m_bt_all (m_lf_all (o_get C (ci := 8) (k := 0) (N := 11) (rf := RX8) (T := TX8) rfl ginX8 (Nat.le_of_ble_eq_true rfl) (m_tb_of 361 (by decide +kernel) rfl) dX8_lost_22 rfl)) (m_bt_all (m_lf_all (o_callV C (T := TX1) (N := 11) (sX1_run l X hX) rfl (m_in_of [594, 595, 596, 75] (by decide +kernel) (by decide +kernel)) (m_tb_of 597 (by decide +kernel) rfl) (by decide +kernel) rfl ⟨Nat.le_of_ble_eq_true rfl, Nat.le_of_ble_eq_true rfl⟩ dX8_lost_25 rfl)) (m_lf_all (o_aload_n C (i := 0) rfl dX8_lost_28 rfl))))) (m_bt_all (m_bt_all (m_lf_all (o_get C (ci := 8) (k := 3) (N := 11) (rf := RX8) (T := TX8) rfl ginX8 (Nat.le_of_ble_eq_true rfl) (m_tb_of 364 (by decide +kernel) rfl) dX8_lost_29 rfl)) (m_lf_all (o_get C (ci := 1) (k := 2) (N := 11) (rf := RX1) (T := TX1) rfl ginX1 (Nat.le_of_ble_eq_true rfl) (m_tb_of 285 (by decide +kernel) rfl) dX8_lost_32 rfl))) (m_bt_all (m_lf_all (o_iload_n C (i := 1) rfl dX8_lost_35 rfl)) (m_bt_all (m_lf_all (o_iald C dX8_lost_36 rfl)) (m_lf_all (o_iret C hr dX8_lost_37)))))))
set_option maxRecDepth 20000 in
def kX8_strayed : m_C := m_bt 8 (m_bt 4 (m_bt 1 (m_lf 0 (s_ald 1 0)) (m_lf 1 (s_get 4 8 3))) (m_bt 5 (m_lf 4 (s_ald 5 0)) (m_lf 5 (s_get 8 8 0)))) (m_bt 12 (m_bt 11 (m_lf 8 (s_callV 11 2 1 wX1_run)) (m_lf 11 (s_ald 12 0))) (m_bt 15 (m_lf 12 (s_get 15 8 3)) (m_bt 18 (m_lf 15 (s_get 18 1 4)) (m_lf 18 (s_ret)))))
theorem kX8_strayed_0 : kX8_strayed 0 = some (s_ald 1 0) := rfl
theorem kX8_strayed_1 : kX8_strayed 1 = some (s_get 4 8 3) := rfl
theorem kX8_strayed_4 : kX8_strayed 4 = some (s_ald 5 0) := rfl
theorem kX8_strayed_5 : kX8_strayed 5 = some (s_get 8 8 0) := rfl
theorem kX8_strayed_8 : kX8_strayed 8 = some (s_callV 11 2 1 wX1_run) := rfl
theorem kX8_strayed_11 : kX8_strayed 11 = some (s_ald 12 0) := rfl
theorem kX8_strayed_12 : kX8_strayed 12 = some (s_get 15 8 3) := rfl
theorem kX8_strayed_15 : kX8_strayed 15 = some (s_get 18 1 4) := rfl
theorem kX8_strayed_18 : kX8_strayed 18 = some (s_ret) := rfl
def wX8_strayed : m_GK := m_wp 1 kX8_strayed
set_option maxRecDepth 100000 in
set_option maxHeartbeats 4000000 in
theorem sX8_strayed (l : Launch) (X : m_X) (hX : m_inj X.1) : m_Sound l X 6 yX8_strayed cX8_strayed 1 (some .int) wX8_strayed := m_sound_of hX (by decide) (fun p e s m args below meth c q C hr => m_bt_all (m_bt_all (m_bt_all (m_lf_all (o_aload_n C (i := 0) rfl dX8_strayed_0 rfl)) (m_lf_all (o_get C (ci := 8) (k := 3) (N := 11) (rf := RX8) (T := TX8) rfl ginX8 (Nat.le_of_ble_eq_true rfl) (m_tb_of 364 (by decide +kernel) rfl) dX8_strayed_1 rfl))) (m_bt_all (m_lf_all (o_aload_n C (i := 0) rfl dX8_strayed_4 rfl)) (m_lf_all (o_get C (ci := 8) (k := 0) (N := 11) (rf := RX8) (T := TX8) rfl ginX8 (Nat.le_of_ble_eq_true rfl) (m_tb_of 361 (by decide +kernel) rfl) dX8_strayed_5 rfl)))) (m_bt_all (m_bt_all (m_lf_all (o_callV C (T := TX1) (N := 11) (sX1_run l X hX) rfl (m_in_of [594, 595, 596, 75] (by decide +kernel) (by decide +kernel)) (m_tb_of 597 (by decide +kernel) rfl) (by decide +kernel) rfl ⟨Nat.le_of_ble_eq_true rfl, Nat.le_of_ble_eq_true rfl⟩ dX8_strayed_8 rfl)) (m_lf_all (o_aload_n C (i := 0) rfl dX8_strayed_11 rfl))) (m_bt_all (m_lf_all (o_get C (ci := 8) (k := 3) (N := 11) (rf := RX8) (T := TX8) rfl ginX8 (Nat.le_of_ble_eq_true rfl) (m_tb_of 364 (by decide +kernel) rfl) dX8_strayed_12 rfl)) (m_bt_all (m_lf_all (o_get C (ci := 1) (k := 4) (N := 11) (rf := RX1) (T := TX1) rfl ginX1 (Nat.le_of_ble_eq_true rfl) (m_tb_of 289 (by decide +kernel) rfl) dX8_strayed_15 rfl)) (m_lf_all (o_iret C hr dX8_strayed_18))))))
set_option maxRecDepth 20000 in
def kX8_longest : m_C := m_bt 18 (m_bt 11 (m_bt 4 (m_bt 1 (m_lf 0 (s_ald 1 0)) (m_lf 1 (s_get 4 8 0))) (m_bt 5 (m_lf 4 (s_ild 5 1)) (m_bt 8 (m_lf 5 (s_callV 8 2 2 wX2_hasLane)) (m_lf 8 (s_if 11 17 (fun x => ¬ x = 0)))))) (m_bt 13 (m_bt 12 (m_lf 11 (s_ald 12 0)) (m_lf 12 (s_push 13 (.inl (-1))))) (m_bt 16 (m_lf 13 (s_callV 16 2 8 wX8_refuse)) (m_bt 17 (m_lf 16 (s_ret)) (m_lf 17 (s_ald 18 0)))))) (m_bt 29 (m_bt 22 (m_bt 21 (m_lf 18 (s_get 21 8 3)) (m_lf 21 (s_ald 22 0))) (m_bt 25 (m_lf 22 (s_get 25 8 0)) (m_bt 28 (m_lf 25 (s_callV 28 2 1 wX1_run)) (m_lf 28 (s_ald 29 0))))) (m_bt 36 (m_bt 32 (m_lf 29 (s_get 32 8 3)) (m_bt 35 (m_lf 32 (s_get 35 1 3)) (m_lf 35 (s_ild 36 1)))) (m_bt 37 (m_lf 36 (s_aald 37)) (m_bt 40 (m_lf 37 (s_get 40 3 3)) (m_lf 40 (s_ret))))))
theorem kX8_longest_0 : kX8_longest 0 = some (s_ald 1 0) := rfl
theorem kX8_longest_1 : kX8_longest 1 = some (s_get 4 8 0) := rfl
theorem kX8_longest_4 : kX8_longest 4 = some (s_ild 5 1) := rfl
theorem kX8_longest_5 : kX8_longest 5 = some (s_callV 8 2 2 wX2_hasLane) := rfl
theorem kX8_longest_8 : kX8_longest 8 = some (s_if 11 17 (fun x => ¬ x = 0)) := rfl
theorem kX8_longest_11 : kX8_longest 11 = some (s_ald 12 0) := rfl
theorem kX8_longest_12 : kX8_longest 12 = some (s_push 13 (.inl (-1))) := rfl
theorem kX8_longest_13 : kX8_longest 13 = some (s_callV 16 2 8 wX8_refuse) := rfl
theorem kX8_longest_16 : kX8_longest 16 = some (s_ret) := rfl
theorem kX8_longest_17 : kX8_longest 17 = some (s_ald 18 0) := rfl
theorem kX8_longest_18 : kX8_longest 18 = some (s_get 21 8 3) := rfl
theorem kX8_longest_21 : kX8_longest 21 = some (s_ald 22 0) := rfl
theorem kX8_longest_22 : kX8_longest 22 = some (s_get 25 8 0) := rfl
theorem kX8_longest_25 : kX8_longest 25 = some (s_callV 28 2 1 wX1_run) := rfl
theorem kX8_longest_28 : kX8_longest 28 = some (s_ald 29 0) := rfl
theorem kX8_longest_29 : kX8_longest 29 = some (s_get 32 8 3) := rfl
theorem kX8_longest_32 : kX8_longest 32 = some (s_get 35 1 3) := rfl
theorem kX8_longest_35 : kX8_longest 35 = some (s_ild 36 1) := rfl
theorem kX8_longest_36 : kX8_longest 36 = some (s_aald 37) := rfl
theorem kX8_longest_37 : kX8_longest 37 = some (s_get 40 3 3) := rfl
theorem kX8_longest_40 : kX8_longest 40 = some (s_ret) := rfl
def wX8_longest : m_GK := m_wp 2 kX8_longest
set_option maxRecDepth 100000 in
set_option maxHeartbeats 4000000 in
theorem sX8_longest (l : Launch) (X : m_X) (hX : m_inj X.1) : m_Sound l X 6 yX8_longest cX8_longest 2 (some .int) wX8_longest := m_sound_of hX (by decide) (fun p e s m args below meth c q C hr => m_bt_all (m_bt_all (m_bt_all (m_bt_all (m_lf_all (o_aload_n C (i := 0) rfl dX8_longest_0 rfl)) (m_lf_all (o_get C (ci := 8) (k := 0) (N := 11) (rf := RX8) (T := TX8) rfl ginX8 (Nat.le_of_ble_eq_true rfl) (m_tb_of 361 (by decide +kernel) rfl) dX8_longest_1 rfl))) (m_bt_all (m_lf_all (o_iload_n C (i := 1) rfl dX8_longest_4 rfl)) (m_bt_all (m_lf_all (o_callV C (T := TX2) (N := 8) (sX2_hasLane l X hX) rfl (m_in_of [566, 545, 546, 73] (by decide +kernel) (by decide +kernel)) (m_tb_of 547 (by decide +kernel) rfl) (by decide +kernel) rfl ⟨Nat.le_of_ble_eq_true rfl, Nat.le_of_ble_eq_true rfl⟩ dX8_longest_5 rfl)) (m_lf_all (o_if_ne C dX8_longest_8 rfl rfl))))) (m_bt_all (m_bt_all (m_lf_all (o_aload_n C (i := 0) rfl dX8_longest_11 rfl)) (m_lf_all (o_iconst C (x := (-1)) (m_rngd rfl) dX8_longest_12 rfl))) (m_bt_all (m_lf_all (o_callV C (T := TX8) (N := 11) (sX8_refuse l X hX) rfl (m_in_of [399, 401, 0, 72] (by decide +kernel) (by decide +kernel)) (m_tb_of 402 (by decide +kernel) rfl) (by decide +kernel) rfl ⟨Nat.le_of_ble_eq_true rfl, Nat.le_of_ble_eq_true rfl⟩ dX8_longest_13 rfl)) (m_bt_all (m_lf_all (o_iret C hr dX8_longest_16)) (m_lf_all (o_aload_n C (i := 0) rfl dX8_longest_17 rfl)))))) (m_bt_all (m_bt_all (m_bt_all (m_lf_all (o_get C (ci := 8) (k := 3) (N := 11) (rf := RX8) (T := TX8) rfl ginX8 (Nat.le_of_ble_eq_true rfl) (m_tb_of 364 (by decide +kernel) rfl) dX8_longest_18 rfl)) (m_lf_all (o_aload_n C (i := 0) rfl dX8_longest_21 rfl))) (m_bt_all (m_lf_all (o_get C (ci := 8) (k := 0) (N := 11) (rf := RX8) (T := TX8) rfl ginX8 (Nat.le_of_ble_eq_true rfl) (m_tb_of 361 (by decide +kernel) rfl) dX8_longest_22 rfl)) (m_bt_all (m_lf_all (o_callV C (T := TX1) (N := 11) (sX1_run l X hX) rfl (m_in_of [594, 595, 596, 75] (by decide +kernel) (by decide +kernel)) (m_tb_of 597 (by decide +kernel) rfl) (by decide +kernel) rfl ⟨Nat.le_of_ble_eq_true rfl, Nat.le_of_ble_eq_true rfl⟩ dX8_longest_25 rfl)) (m_lf_all (o_aload_n C (i := 0) rfl dX8_longest_28 rfl))))) (m_bt_all (m_bt_all (m_lf_all (o_get C (ci := 8) (k := 3) (N := 11) (rf := RX8) (T := TX8) rfl ginX8 (Nat.le_of_ble_eq_true rfl) (m_tb_of 364 (by decide +kernel) rfl) dX8_longest_29 rfl)) (m_bt_all (m_lf_all (o_get C (ci := 1) (k := 3) (N := 11) (rf := RX1) (T := TX1) rfl ginX1 (Nat.le_of_ble_eq_true rfl) (m_tb_of 287 (by decide +kernel) rfl) dX8_longest_32 rfl)) (m_lf_all (o_iload_n C (i := 1) rfl dX8_longest_35 rfl)))) (m_bt_all (m_lf_all (o_aald C dX8_longest_36 rfl)) (m_bt_all (m_lf_all (o_get C (ci := 3) (k := 3) (N := 12) (rf := RX3) (T := TX3) rfl ginX3 (Nat.le_of_ble_eq_true rfl) (m_tb_of 195 (by decide +kernel) rfl) dX8_longest_37 rfl)) (m_lf_all (o_iret C hr dX8_longest_40)))))))
set_option maxRecDepth 20000 in
def kX8_passed : m_C := m_bt 18 (m_bt 11 (m_bt 4 (m_bt 1 (m_lf 0 (s_ald 1 0)) (m_lf 1 (s_get 4 8 0))) (m_bt 5 (m_lf 4 (s_ild 5 1)) (m_bt 8 (m_lf 5 (s_callV 8 2 2 wX2_hasLane)) (m_lf 8 (s_if 11 17 (fun x => ¬ x = 0)))))) (m_bt 13 (m_bt 12 (m_lf 11 (s_ald 12 0)) (m_lf 12 (s_push 13 (.inl (-1))))) (m_bt 16 (m_lf 13 (s_callV 16 2 8 wX8_refuse)) (m_bt 17 (m_lf 16 (s_ret)) (m_lf 17 (s_ald 18 0)))))) (m_bt 29 (m_bt 22 (m_bt 21 (m_lf 18 (s_get 21 8 3)) (m_lf 21 (s_ald 22 0))) (m_bt 25 (m_lf 22 (s_get 25 8 0)) (m_bt 28 (m_lf 25 (s_callV 28 2 1 wX1_run)) (m_lf 28 (s_ald 29 0))))) (m_bt 36 (m_bt 32 (m_lf 29 (s_get 32 8 3)) (m_bt 35 (m_lf 32 (s_get 35 1 3)) (m_lf 35 (s_ild 36 1)))) (m_bt 37 (m_lf 36 (s_aald 37)) (m_bt 40 (m_lf 37 (s_get 40 3 4)) (m_lf 40 (s_ret))))))
theorem kX8_passed_0 : kX8_passed 0 = some (s_ald 1 0) := rfl
theorem kX8_passed_1 : kX8_passed 1 = some (s_get 4 8 0) := rfl
theorem kX8_passed_4 : kX8_passed 4 = some (s_ild 5 1) := rfl
theorem kX8_passed_5 : kX8_passed 5 = some (s_callV 8 2 2 wX2_hasLane) := rfl
theorem kX8_passed_8 : kX8_passed 8 = some (s_if 11 17 (fun x => ¬ x = 0)) := rfl
theorem kX8_passed_11 : kX8_passed 11 = some (s_ald 12 0) := rfl
theorem kX8_passed_12 : kX8_passed 12 = some (s_push 13 (.inl (-1))) := rfl
theorem kX8_passed_13 : kX8_passed 13 = some (s_callV 16 2 8 wX8_refuse) := rfl
theorem kX8_passed_16 : kX8_passed 16 = some (s_ret) := rfl
theorem kX8_passed_17 : kX8_passed 17 = some (s_ald 18 0) := rfl
theorem kX8_passed_18 : kX8_passed 18 = some (s_get 21 8 3) := rfl
theorem kX8_passed_21 : kX8_passed 21 = some (s_ald 22 0) := rfl
theorem kX8_passed_22 : kX8_passed 22 = some (s_get 25 8 0) := rfl
theorem kX8_passed_25 : kX8_passed 25 = some (s_callV 28 2 1 wX1_run) := rfl
theorem kX8_passed_28 : kX8_passed 28 = some (s_ald 29 0) := rfl
theorem kX8_passed_29 : kX8_passed 29 = some (s_get 32 8 3) := rfl
theorem kX8_passed_32 : kX8_passed 32 = some (s_get 35 1 3) := rfl
theorem kX8_passed_35 : kX8_passed 35 = some (s_ild 36 1) := rfl
theorem kX8_passed_36 : kX8_passed 36 = some (s_aald 37) := rfl
theorem kX8_passed_37 : kX8_passed 37 = some (s_get 40 3 4) := rfl
theorem kX8_passed_40 : kX8_passed 40 = some (s_ret) := rfl
def wX8_passed : m_GK := m_wp 2 kX8_passed
set_option maxRecDepth 100000 in
set_option maxHeartbeats 4000000 in
theorem sX8_passed (l : Launch) (X : m_X) (hX : m_inj X.1) : m_Sound l X 6 yX8_passed cX8_passed 2 (some .int) wX8_passed := m_sound_of hX (by decide) (fun p e s m args below meth c q C hr => m_bt_all (m_bt_all (m_bt_all (m_bt_all (m_lf_all (o_aload_n C (i := 0) rfl dX8_passed_0 rfl)) (m_lf_all (o_get C (ci := 8) (k := 0) (N := 11) (rf := RX8) (T := TX8) rfl ginX8 (Nat.le_of_ble_eq_true rfl) (m_tb_of 361 (by decide +kernel) rfl) dX8_passed_1 rfl))) (m_bt_all (m_lf_all (o_iload_n C (i := 1) rfl dX8_passed_4 rfl)) (m_bt_all (m_lf_all (o_callV C (T := TX2) (N := 8) (sX2_hasLane l X hX) rfl (m_in_of [566, 545, 546, 73] (by decide +kernel) (by decide +kernel)) (m_tb_of 547 (by decide +kernel) rfl) (by decide +kernel) rfl ⟨Nat.le_of_ble_eq_true rfl, Nat.le_of_ble_eq_true rfl⟩ dX8_passed_5 rfl)) (m_lf_all (o_if_ne C dX8_passed_8 rfl rfl))))) (m_bt_all (m_bt_all (m_lf_all (o_aload_n C (i := 0) rfl dX8_passed_11 rfl)) (m_lf_all (o_iconst C (x := (-1)) (m_rngd rfl) dX8_passed_12 rfl))) (m_bt_all (m_lf_all (o_callV C (T := TX8) (N := 11) (sX8_refuse l X hX) rfl (m_in_of [399, 401, 0, 72] (by decide +kernel) (by decide +kernel)) (m_tb_of 402 (by decide +kernel) rfl) (by decide +kernel) rfl ⟨Nat.le_of_ble_eq_true rfl, Nat.le_of_ble_eq_true rfl⟩ dX8_passed_13 rfl)) (m_bt_all (m_lf_all (o_iret C hr dX8_passed_16)) (m_lf_all (o_aload_n C (i := 0) rfl dX8_passed_17 rfl)))))) (m_bt_all (m_bt_all (m_bt_all (m_lf_all (o_get C (ci := 8) (k := 3) (N := 11) (rf := RX8) (T := TX8) rfl ginX8 (Nat.le_of_ble_eq_true rfl) (m_tb_of 364 (by decide +kernel) rfl) dX8_passed_18 rfl)) (m_lf_all (o_aload_n C (i := 0) rfl dX8_passed_21 rfl))) (m_bt_all (m_lf_all (o_get C (ci := 8) (k := 0) (N := 11) (rf := RX8) (T := TX8) rfl ginX8 (Nat.le_of_ble_eq_true rfl) (m_tb_of 361 (by decide +kernel) rfl) dX8_passed_22 rfl)) (m_bt_all (m_lf_all (o_callV C (T := TX1) (N := 11) (sX1_run l X hX) rfl (m_in_of [594, 595, 596, 75] (by decide +kernel) (by decide +kernel)) (m_tb_of 597 (by decide +kernel) rfl) (by decide +kernel) rfl ⟨Nat.le_of_ble_eq_true rfl, Nat.le_of_ble_eq_true rfl⟩ dX8_passed_25 rfl)) (m_lf_all (o_aload_n C (i := 0) rfl dX8_passed_28 rfl))))) (m_bt_all (m_bt_all (m_lf_all (o_get C (ci := 8) (k := 3) (N := 11) (rf := RX8) (T := TX8) rfl ginX8 (Nat.le_of_ble_eq_true rfl) (m_tb_of 364 (by decide +kernel) rfl) dX8_passed_29 rfl)) (m_bt_all (m_lf_all (o_get C (ci := 1) (k := 3) (N := 11) (rf := RX1) (T := TX1) rfl ginX1 (Nat.le_of_ble_eq_true rfl) (m_tb_of 287 (by decide +kernel) rfl) dX8_passed_32 rfl)) (m_lf_all (o_iload_n C (i := 1) rfl dX8_passed_35 rfl)))) (m_bt_all (m_lf_all (o_aald C dX8_passed_36 rfl)) (m_bt_all (m_lf_all (o_get C (ci := 3) (k := 4) (N := 12) (rf := RX3) (T := TX3) rfl ginX3 (Nat.le_of_ble_eq_true rfl) (m_tb_of 198 (by decide +kernel) rfl) dX8_passed_37 rfl)) (m_lf_all (o_iret C hr dX8_passed_40)))))))
set_option maxRecDepth 20000 in
def kX8_last : m_C := m_bt 15 (m_bt 5 (m_bt 1 (m_lf 0 (s_ald 1 0)) (m_bt 4 (m_lf 1 (s_get 4 8 3)) (m_lf 4 (s_ald 5 0)))) (m_bt 11 (m_bt 8 (m_lf 5 (s_get 8 8 0)) (m_lf 8 (s_callV 11 2 1 wX1_run))) (m_bt 12 (m_lf 11 (s_ald 12 0)) (m_lf 12 (s_get 15 8 3))))) (m_bt 26 (m_bt 21 (m_bt 18 (m_lf 15 (s_get 18 1 5)) (m_lf 18 (s_if 21 26 (fun x => 0 ≤ x)))) (m_bt 23 (m_lf 21 (s_push 23 (.inl (-9)))) (m_lf 23 (s_goto 33)))) (m_bt 30 (m_bt 27 (m_lf 26 (s_ald 27 0)) (m_lf 27 (s_get 30 8 3))) (m_bt 33 (m_lf 30 (s_get 33 1 5)) (m_lf 33 (s_ret)))))
theorem kX8_last_0 : kX8_last 0 = some (s_ald 1 0) := rfl
theorem kX8_last_1 : kX8_last 1 = some (s_get 4 8 3) := rfl
theorem kX8_last_4 : kX8_last 4 = some (s_ald 5 0) := rfl
theorem kX8_last_5 : kX8_last 5 = some (s_get 8 8 0) := rfl
theorem kX8_last_8 : kX8_last 8 = some (s_callV 11 2 1 wX1_run) := rfl
theorem kX8_last_11 : kX8_last 11 = some (s_ald 12 0) := rfl
theorem kX8_last_12 : kX8_last 12 = some (s_get 15 8 3) := rfl
theorem kX8_last_15 : kX8_last 15 = some (s_get 18 1 5) := rfl
theorem kX8_last_18 : kX8_last 18 = some (s_if 21 26 (fun x => 0 ≤ x)) := rfl
theorem kX8_last_21 : kX8_last 21 = some (s_push 23 (.inl (-9))) := rfl
theorem kX8_last_23 : kX8_last 23 = some (s_goto 33) := rfl
theorem kX8_last_26 : kX8_last 26 = some (s_ald 27 0) := rfl
theorem kX8_last_27 : kX8_last 27 = some (s_get 30 8 3) := rfl
theorem kX8_last_30 : kX8_last 30 = some (s_get 33 1 5) := rfl
theorem kX8_last_33 : kX8_last 33 = some (s_ret) := rfl
def wX8_last : m_GK := m_wp 1 kX8_last
set_option maxRecDepth 100000 in
set_option maxHeartbeats 4000000 in
theorem sX8_last (l : Launch) (X : m_X) (hX : m_inj X.1) : m_Sound l X 6 yX8_last cX8_last 1 (some .int) wX8_last := m_sound_of hX (by decide) (fun p e s m args below meth c q C hr => m_bt_all (m_bt_all (m_bt_all (m_lf_all (o_aload_n C (i := 0) rfl dX8_last_0 rfl)) (m_bt_all (m_lf_all (o_get C (ci := 8) (k := 3) (N := 11) (rf := RX8) (T := TX8) rfl ginX8 (Nat.le_of_ble_eq_true rfl) (m_tb_of 364 (by decide +kernel) rfl) dX8_last_1 rfl)) (m_lf_all (o_aload_n C (i := 0) rfl dX8_last_4 rfl)))) (m_bt_all (m_bt_all (m_lf_all (o_get C (ci := 8) (k := 0) (N := 11) (rf := RX8) (T := TX8) rfl ginX8 (Nat.le_of_ble_eq_true rfl) (m_tb_of 361 (by decide +kernel) rfl) dX8_last_5 rfl)) (m_lf_all (o_callV C (T := TX1) (N := 11) (sX1_run l X hX) rfl (m_in_of [594, 595, 596, 75] (by decide +kernel) (by decide +kernel)) (m_tb_of 597 (by decide +kernel) rfl) (by decide +kernel) rfl ⟨Nat.le_of_ble_eq_true rfl, Nat.le_of_ble_eq_true rfl⟩ dX8_last_8 rfl))) (m_bt_all (m_lf_all (o_aload_n C (i := 0) rfl dX8_last_11 rfl)) (m_lf_all (o_get C (ci := 8) (k := 3) (N := 11) (rf := RX8) (T := TX8) rfl ginX8 (Nat.le_of_ble_eq_true rfl) (m_tb_of 364 (by decide +kernel) rfl) dX8_last_12 rfl))))) (m_bt_all (m_bt_all (m_bt_all (m_lf_all (o_get C (ci := 1) (k := 5) (N := 11) (rf := RX1) (T := TX1) rfl ginX1 (Nat.le_of_ble_eq_true rfl) (m_tb_of 291 (by decide +kernel) rfl) dX8_last_15 rfl)) (m_lf_all (o_if_ge C dX8_last_18 rfl rfl))) (m_bt_all (m_lf_all (o_bipush C (x := (-9)) (m_rngd rfl) rfl dX8_last_21 rfl)) (m_lf_all (o_goto C dX8_last_23 rfl)))) (m_bt_all (m_bt_all (m_lf_all (o_aload_n C (i := 0) rfl dX8_last_26 rfl)) (m_lf_all (o_get C (ci := 8) (k := 3) (N := 11) (rf := RX8) (T := TX8) rfl ginX8 (Nat.le_of_ble_eq_true rfl) (m_tb_of 364 (by decide +kernel) rfl) dX8_last_27 rfl))) (m_bt_all (m_lf_all (o_get C (ci := 1) (k := 5) (N := 11) (rf := RX1) (T := TX1) rfl ginX1 (Nat.le_of_ble_eq_true rfl) (m_tb_of 291 (by decide +kernel) rfl) dX8_last_30 rfl)) (m_lf_all (o_iret C hr dX8_last_33))))))
set_option maxRecDepth 20000 in
def kX8_commonDivisor : m_C := m_bt 18 (m_bt 5 (m_bt 2 (m_bt 1 (m_lf 0 (s_ild 1 0)) (m_lf 1 (s_ist 2 2))) (m_bt 3 (m_lf 2 (s_ild 3 1)) (m_bt 4 (m_lf 3 (s_ist 4 3)) (m_lf 4 (s_push 5 (.inl (0))))))) (m_bt 11 (m_bt 7 (m_lf 5 (s_ist 7 4)) (m_bt 9 (m_lf 7 (s_ild 9 4)) (m_lf 9 (s_push 11 (.inl (64)))))) (m_bt 14 (m_lf 11 (s_icmp 14 34 (fun x y => y ≤ x))) (m_bt 15 (m_lf 14 (s_ild 15 3)) (m_lf 15 (s_if 18 34 (fun x => x = 0))))))) (m_bt 25 (m_bt 21 (m_bt 19 (m_lf 18 (s_ild 19 2)) (m_bt 20 (m_lf 19 (s_ild 20 3)) (m_lf 20 (s_rem 21)))) (m_bt 23 (m_lf 21 (s_ist 23 5)) (m_bt 24 (m_lf 23 (s_ild 24 3)) (m_lf 24 (s_ist 25 2))))) (m_bt 31 (m_bt 27 (m_lf 25 (s_ild 27 5)) (m_bt 28 (m_lf 27 (s_ist 28 3)) (m_lf 28 (s_inc 31 4 (1))))) (m_bt 34 (m_lf 31 (s_goto 7)) (m_bt 35 (m_lf 34 (s_ild 35 2)) (m_lf 35 (s_ret))))))
theorem kX8_commonDivisor_0 : kX8_commonDivisor 0 = some (s_ild 1 0) := rfl
theorem kX8_commonDivisor_1 : kX8_commonDivisor 1 = some (s_ist 2 2) := rfl
theorem kX8_commonDivisor_2 : kX8_commonDivisor 2 = some (s_ild 3 1) := rfl
theorem kX8_commonDivisor_3 : kX8_commonDivisor 3 = some (s_ist 4 3) := rfl
theorem kX8_commonDivisor_4 : kX8_commonDivisor 4 = some (s_push 5 (.inl (0))) := rfl
theorem kX8_commonDivisor_5 : kX8_commonDivisor 5 = some (s_ist 7 4) := rfl
theorem kX8_commonDivisor_7 : kX8_commonDivisor 7 = some (s_ild 9 4) := rfl
theorem kX8_commonDivisor_9 : kX8_commonDivisor 9 = some (s_push 11 (.inl (64))) := rfl
theorem kX8_commonDivisor_11 : kX8_commonDivisor 11 = some (s_icmp 14 34 (fun x y => y ≤ x)) := rfl
theorem kX8_commonDivisor_14 : kX8_commonDivisor 14 = some (s_ild 15 3) := rfl
theorem kX8_commonDivisor_15 : kX8_commonDivisor 15 = some (s_if 18 34 (fun x => x = 0)) := rfl
theorem kX8_commonDivisor_18 : kX8_commonDivisor 18 = some (s_ild 19 2) := rfl
theorem kX8_commonDivisor_19 : kX8_commonDivisor 19 = some (s_ild 20 3) := rfl
theorem kX8_commonDivisor_20 : kX8_commonDivisor 20 = some (s_rem 21) := rfl
theorem kX8_commonDivisor_21 : kX8_commonDivisor 21 = some (s_ist 23 5) := rfl
theorem kX8_commonDivisor_23 : kX8_commonDivisor 23 = some (s_ild 24 3) := rfl
theorem kX8_commonDivisor_24 : kX8_commonDivisor 24 = some (s_ist 25 2) := rfl
theorem kX8_commonDivisor_25 : kX8_commonDivisor 25 = some (s_ild 27 5) := rfl
theorem kX8_commonDivisor_27 : kX8_commonDivisor 27 = some (s_ist 28 3) := rfl
theorem kX8_commonDivisor_28 : kX8_commonDivisor 28 = some (s_inc 31 4 (1)) := rfl
theorem kX8_commonDivisor_31 : kX8_commonDivisor 31 = some (s_goto 7) := rfl
theorem kX8_commonDivisor_34 : kX8_commonDivisor 34 = some (s_ild 35 2) := rfl
theorem kX8_commonDivisor_35 : kX8_commonDivisor 35 = some (s_ret) := rfl
def wX8_commonDivisor : m_GK := m_wp 6 kX8_commonDivisor
set_option maxRecDepth 100000 in
set_option maxHeartbeats 4000000 in
theorem sX8_commonDivisor (l : Launch) (X : m_X) (hX : m_inj X.1) : m_Sound l X 1 yX8_commonDivisor cX8_commonDivisor 6 (some .int) wX8_commonDivisor := m_sound_of hX (by decide) (fun p e s m args below meth c q C hr => m_bt_all (m_bt_all (m_bt_all (m_bt_all (m_lf_all (o_iload_n C (i := 0) rfl dX8_commonDivisor_0 rfl)) (m_lf_all (o_istore_n C (i := 2) rfl dX8_commonDivisor_1 rfl))) (m_bt_all (m_lf_all (o_iload_n C (i := 1) rfl dX8_commonDivisor_2 rfl)) (m_bt_all (m_lf_all (o_istore_n C (i := 3) rfl dX8_commonDivisor_3 rfl)) (m_lf_all (o_iconst C (x := (0)) (m_rngd rfl) dX8_commonDivisor_4 rfl))))) (m_bt_all (m_bt_all (m_lf_all (o_istore C dX8_commonDivisor_5 rfl)) (m_bt_all (m_lf_all (o_iload C dX8_commonDivisor_7 rfl)) (m_lf_all (o_bipush C (x := (64)) (m_rngd rfl) rfl dX8_commonDivisor_9 rfl)))) (m_bt_all (m_lf_all (o_icmp_ge C dX8_commonDivisor_11 rfl rfl)) (m_bt_all (m_lf_all (o_iload_n C (i := 3) rfl dX8_commonDivisor_14 rfl)) (m_lf_all (o_if_eq C dX8_commonDivisor_15 rfl rfl)))))) (m_bt_all (m_bt_all (m_bt_all (m_lf_all (o_iload_n C (i := 2) rfl dX8_commonDivisor_18 rfl)) (m_bt_all (m_lf_all (o_iload_n C (i := 3) rfl dX8_commonDivisor_19 rfl)) (m_lf_all (o_irem C dX8_commonDivisor_20 rfl)))) (m_bt_all (m_lf_all (o_istore C dX8_commonDivisor_21 rfl)) (m_bt_all (m_lf_all (o_iload_n C (i := 3) rfl dX8_commonDivisor_23 rfl)) (m_lf_all (o_istore_n C (i := 2) rfl dX8_commonDivisor_24 rfl))))) (m_bt_all (m_bt_all (m_lf_all (o_iload C dX8_commonDivisor_25 rfl)) (m_bt_all (m_lf_all (o_istore_n C (i := 3) rfl dX8_commonDivisor_27 rfl)) (m_lf_all (o_iinc C dX8_commonDivisor_28 rfl)))) (m_bt_all (m_lf_all (o_goto C dX8_commonDivisor_31 rfl)) (m_bt_all (m_lf_all (o_iload_n C (i := 2) rfl dX8_commonDivisor_34 rfl)) (m_lf_all (o_iret C hr dX8_commonDivisor_35)))))))
set_option maxRecDepth 20000 in
def kX8_mean : m_C := m_bt 55 (m_bt 27 (m_bt 13 (m_bt 5 (m_bt 1 (m_lf 0 (s_ald 1 0)) (m_bt 4 (m_lf 1 (s_get 4 8 0)) (m_lf 4 (s_ild 5 1)))) (m_bt 11 (m_bt 8 (m_lf 5 (s_callV 8 2 2 wX2_hasSort)) (m_lf 8 (s_if 11 17 (fun x => ¬ x = 0)))) (m_bt 12 (m_lf 11 (s_ald 12 0)) (m_lf 12 (s_push 13 (.inl (-1))))))) (m_bt 21 (m_bt 17 (m_bt 16 (m_lf 13 (s_callV 16 2 8 wX8_refuse)) (m_lf 16 (s_ret))) (m_bt 18 (m_lf 17 (s_ild 18 2)) (m_lf 18 (s_if 21 26 (fun x => x < 0))))) (m_bt 23 (m_bt 22 (m_lf 21 (s_ild 22 2)) (m_lf 22 (s_push 23 (.inl (1))))) (m_bt 26 (m_lf 23 (s_icmp 26 33 (fun x y => x ≤ y))) (m_lf 26 (s_ald 27 0)))))) (m_bt 41 (m_bt 33 (m_bt 29 (m_lf 27 (s_push 29 (.inl (-2)))) (m_bt 32 (m_lf 29 (s_callV 32 2 8 wX8_refuse)) (m_lf 32 (s_ret)))) (m_bt 37 (m_bt 34 (m_lf 33 (s_ald 34 0)) (m_lf 34 (s_get 37 8 3))) (m_bt 38 (m_lf 37 (s_ald 38 0)) (m_lf 38 (s_get 41 8 0))))) (m_bt 51 (m_bt 45 (m_bt 44 (m_lf 41 (s_callV 44 2 1 wX1_run)) (m_lf 44 (s_ald 45 0))) (m_bt 48 (m_lf 45 (s_get 48 8 3)) (m_lf 48 (s_get 51 1 0)))) (m_bt 53 (m_bt 52 (m_lf 51 (s_ild 52 1)) (m_lf 52 (s_iald 53))) (m_bt 54 (m_lf 53 (s_ist 54 3)) (m_lf 54 (s_ald 55 0))))))) (m_bt 85 (m_bt 70 (m_bt 62 (m_bt 58 (m_lf 55 (s_get 58 8 3)) (m_bt 59 (m_lf 58 (s_ild 59 1)) (m_lf 59 (s_callV 62 2 1 wX1_keptOf)))) (m_bt 65 (m_bt 64 (m_lf 62 (s_ist 64 4)) (m_lf 64 (s_ild 65 3))) (m_bt 67 (m_lf 65 (s_ild 67 4)) (m_lf 67 (s_callS 70 2 wX8_commonDivisor))))) (m_bt 78 (m_bt 74 (m_bt 72 (m_lf 70 (s_ist 72 5)) (m_lf 72 (s_ild 74 4))) (m_bt 75 (m_lf 74 (s_push 75 (.inl (1)))) (m_lf 75 (s_icmp 78 84 (fun x y => x < y))))) (m_bt 81 (m_bt 80 (m_lf 78 (s_ild 80 5)) (m_lf 80 (s_push 81 (.inl (1))))) (m_bt 84 (m_lf 81 (s_icmp 84 94 (fun x y => y ≤ x))) (m_lf 84 (s_ild 85 2)))))) (m_bt 98 (m_bt 92 (m_bt 88 (m_lf 85 (s_if 88 92 (fun x => ¬ x = 0))) (m_bt 89 (m_lf 88 (s_push 89 (.inl (0)))) (m_lf 89 (s_goto 93)))) (m_bt 94 (m_bt 93 (m_lf 92 (s_push 93 (.inl (1)))) (m_lf 93 (s_ret))) (m_bt 95 (m_lf 94 (s_ild 95 2)) (m_lf 95 (s_if 98 105 (fun x => ¬ x = 0)))))) (m_bt 105 (m_bt 101 (m_bt 99 (m_lf 98 (s_ild 99 3)) (m_lf 99 (s_ild 101 5))) (m_bt 102 (m_lf 101 (s_div 102)) (m_lf 102 (s_goto 110)))) (m_bt 109 (m_bt 107 (m_lf 105 (s_ild 107 4)) (m_lf 107 (s_ild 109 5))) (m_bt 110 (m_lf 109 (s_div 110)) (m_lf 110 (s_ret)))))))
theorem kX8_mean_0 : kX8_mean 0 = some (s_ald 1 0) := rfl
theorem kX8_mean_1 : kX8_mean 1 = some (s_get 4 8 0) := rfl
theorem kX8_mean_4 : kX8_mean 4 = some (s_ild 5 1) := rfl
theorem kX8_mean_5 : kX8_mean 5 = some (s_callV 8 2 2 wX2_hasSort) := rfl
theorem kX8_mean_8 : kX8_mean 8 = some (s_if 11 17 (fun x => ¬ x = 0)) := rfl
theorem kX8_mean_11 : kX8_mean 11 = some (s_ald 12 0) := rfl
theorem kX8_mean_12 : kX8_mean 12 = some (s_push 13 (.inl (-1))) := rfl
theorem kX8_mean_13 : kX8_mean 13 = some (s_callV 16 2 8 wX8_refuse) := rfl
theorem kX8_mean_16 : kX8_mean 16 = some (s_ret) := rfl
theorem kX8_mean_17 : kX8_mean 17 = some (s_ild 18 2) := rfl
theorem kX8_mean_18 : kX8_mean 18 = some (s_if 21 26 (fun x => x < 0)) := rfl
theorem kX8_mean_21 : kX8_mean 21 = some (s_ild 22 2) := rfl
theorem kX8_mean_22 : kX8_mean 22 = some (s_push 23 (.inl (1))) := rfl
theorem kX8_mean_23 : kX8_mean 23 = some (s_icmp 26 33 (fun x y => x ≤ y)) := rfl
theorem kX8_mean_26 : kX8_mean 26 = some (s_ald 27 0) := rfl
theorem kX8_mean_27 : kX8_mean 27 = some (s_push 29 (.inl (-2))) := rfl
theorem kX8_mean_29 : kX8_mean 29 = some (s_callV 32 2 8 wX8_refuse) := rfl
theorem kX8_mean_32 : kX8_mean 32 = some (s_ret) := rfl
theorem kX8_mean_33 : kX8_mean 33 = some (s_ald 34 0) := rfl
theorem kX8_mean_34 : kX8_mean 34 = some (s_get 37 8 3) := rfl
theorem kX8_mean_37 : kX8_mean 37 = some (s_ald 38 0) := rfl
theorem kX8_mean_38 : kX8_mean 38 = some (s_get 41 8 0) := rfl
theorem kX8_mean_41 : kX8_mean 41 = some (s_callV 44 2 1 wX1_run) := rfl
theorem kX8_mean_44 : kX8_mean 44 = some (s_ald 45 0) := rfl
theorem kX8_mean_45 : kX8_mean 45 = some (s_get 48 8 3) := rfl
theorem kX8_mean_48 : kX8_mean 48 = some (s_get 51 1 0) := rfl
theorem kX8_mean_51 : kX8_mean 51 = some (s_ild 52 1) := rfl
theorem kX8_mean_52 : kX8_mean 52 = some (s_iald 53) := rfl
theorem kX8_mean_53 : kX8_mean 53 = some (s_ist 54 3) := rfl
theorem kX8_mean_54 : kX8_mean 54 = some (s_ald 55 0) := rfl
theorem kX8_mean_55 : kX8_mean 55 = some (s_get 58 8 3) := rfl
theorem kX8_mean_58 : kX8_mean 58 = some (s_ild 59 1) := rfl
theorem kX8_mean_59 : kX8_mean 59 = some (s_callV 62 2 1 wX1_keptOf) := rfl
theorem kX8_mean_62 : kX8_mean 62 = some (s_ist 64 4) := rfl
theorem kX8_mean_64 : kX8_mean 64 = some (s_ild 65 3) := rfl
theorem kX8_mean_65 : kX8_mean 65 = some (s_ild 67 4) := rfl
theorem kX8_mean_67 : kX8_mean 67 = some (s_callS 70 2 wX8_commonDivisor) := rfl
theorem kX8_mean_70 : kX8_mean 70 = some (s_ist 72 5) := rfl
theorem kX8_mean_72 : kX8_mean 72 = some (s_ild 74 4) := rfl
theorem kX8_mean_74 : kX8_mean 74 = some (s_push 75 (.inl (1))) := rfl
theorem kX8_mean_75 : kX8_mean 75 = some (s_icmp 78 84 (fun x y => x < y)) := rfl
theorem kX8_mean_78 : kX8_mean 78 = some (s_ild 80 5) := rfl
theorem kX8_mean_80 : kX8_mean 80 = some (s_push 81 (.inl (1))) := rfl
theorem kX8_mean_81 : kX8_mean 81 = some (s_icmp 84 94 (fun x y => y ≤ x)) := rfl
theorem kX8_mean_84 : kX8_mean 84 = some (s_ild 85 2) := rfl
theorem kX8_mean_85 : kX8_mean 85 = some (s_if 88 92 (fun x => ¬ x = 0)) := rfl
theorem kX8_mean_88 : kX8_mean 88 = some (s_push 89 (.inl (0))) := rfl
theorem kX8_mean_89 : kX8_mean 89 = some (s_goto 93) := rfl
theorem kX8_mean_92 : kX8_mean 92 = some (s_push 93 (.inl (1))) := rfl
theorem kX8_mean_93 : kX8_mean 93 = some (s_ret) := rfl
theorem kX8_mean_94 : kX8_mean 94 = some (s_ild 95 2) := rfl
theorem kX8_mean_95 : kX8_mean 95 = some (s_if 98 105 (fun x => ¬ x = 0)) := rfl
theorem kX8_mean_98 : kX8_mean 98 = some (s_ild 99 3) := rfl
theorem kX8_mean_99 : kX8_mean 99 = some (s_ild 101 5) := rfl
theorem kX8_mean_101 : kX8_mean 101 = some (s_div 102) := rfl
theorem kX8_mean_102 : kX8_mean 102 = some (s_goto 110) := rfl
theorem kX8_mean_105 : kX8_mean 105 = some (s_ild 107 4) := rfl
theorem kX8_mean_107 : kX8_mean 107 = some (s_ild 109 5) := rfl
theorem kX8_mean_109 : kX8_mean 109 = some (s_div 110) := rfl
theorem kX8_mean_110 : kX8_mean 110 = some (s_ret) := rfl
def wX8_mean : m_GK := m_wp 6 kX8_mean
set_option maxRecDepth 100000 in
set_option maxHeartbeats 4000000 in
theorem sX8_mean (l : Launch) (X : m_X) (hX : m_inj X.1) : m_Sound l X 6 yX8_mean cX8_mean 6 (some .int) wX8_mean := m_sound_of hX (by decide) (fun p e s m args below meth c q C hr => m_bt_all (m_bt_all (m_bt_all (m_bt_all (m_bt_all (m_lf_all (o_aload_n C (i := 0) rfl dX8_mean_0 rfl)) (m_bt_all (m_lf_all (o_get C (ci := 8) (k := 0) (N := 11) (rf := RX8) (T := TX8) rfl ginX8 (Nat.le_of_ble_eq_true rfl) (m_tb_of 361 (by decide +kernel) rfl) dX8_mean_1 rfl)) (m_lf_all (o_iload_n C (i := 1) rfl dX8_mean_4 rfl)))) (m_bt_all (m_bt_all (m_lf_all (o_callV C (T := TX2) (N := 8) (sX2_hasSort l X hX) rfl (m_in_of [557, 533, 534, 73] (by decide +kernel) (by decide +kernel)) (m_tb_of 535 (by decide +kernel) rfl) (by decide +kernel) rfl ⟨Nat.le_of_ble_eq_true rfl, Nat.le_of_ble_eq_true rfl⟩ dX8_mean_5 rfl)) (m_lf_all (o_if_ne C dX8_mean_8 rfl rfl))) (m_bt_all (m_lf_all (o_aload_n C (i := 0) rfl dX8_mean_11 rfl)) (m_lf_all (o_iconst C (x := (-1)) (m_rngd rfl) dX8_mean_12 rfl))))) (m_bt_all (m_bt_all (m_bt_all (m_lf_all (o_callV C (T := TX8) (N := 11) (sX8_refuse l X hX) rfl (m_in_of [399, 401, 0, 72] (by decide +kernel) (by decide +kernel)) (m_tb_of 402 (by decide +kernel) rfl) (by decide +kernel) rfl ⟨Nat.le_of_ble_eq_true rfl, Nat.le_of_ble_eq_true rfl⟩ dX8_mean_13 rfl)) (m_lf_all (o_iret C hr dX8_mean_16))) (m_bt_all (m_lf_all (o_iload_n C (i := 2) rfl dX8_mean_17 rfl)) (m_lf_all (o_if_lt C dX8_mean_18 rfl rfl)))) (m_bt_all (m_bt_all (m_lf_all (o_iload_n C (i := 2) rfl dX8_mean_21 rfl)) (m_lf_all (o_iconst C (x := (1)) (m_rngd rfl) dX8_mean_22 rfl))) (m_bt_all (m_lf_all (o_icmp_le C dX8_mean_23 rfl rfl)) (m_lf_all (o_aload_n C (i := 0) rfl dX8_mean_26 rfl)))))) (m_bt_all (m_bt_all (m_bt_all (m_lf_all (o_bipush C (x := (-2)) (m_rngd rfl) rfl dX8_mean_27 rfl)) (m_bt_all (m_lf_all (o_callV C (T := TX8) (N := 11) (sX8_refuse l X hX) rfl (m_in_of [399, 401, 0, 72] (by decide +kernel) (by decide +kernel)) (m_tb_of 402 (by decide +kernel) rfl) (by decide +kernel) rfl ⟨Nat.le_of_ble_eq_true rfl, Nat.le_of_ble_eq_true rfl⟩ dX8_mean_29 rfl)) (m_lf_all (o_iret C hr dX8_mean_32)))) (m_bt_all (m_bt_all (m_lf_all (o_aload_n C (i := 0) rfl dX8_mean_33 rfl)) (m_lf_all (o_get C (ci := 8) (k := 3) (N := 11) (rf := RX8) (T := TX8) rfl ginX8 (Nat.le_of_ble_eq_true rfl) (m_tb_of 364 (by decide +kernel) rfl) dX8_mean_34 rfl))) (m_bt_all (m_lf_all (o_aload_n C (i := 0) rfl dX8_mean_37 rfl)) (m_lf_all (o_get C (ci := 8) (k := 0) (N := 11) (rf := RX8) (T := TX8) rfl ginX8 (Nat.le_of_ble_eq_true rfl) (m_tb_of 361 (by decide +kernel) rfl) dX8_mean_38 rfl))))) (m_bt_all (m_bt_all (m_bt_all (m_lf_all (o_callV C (T := TX1) (N := 11) (sX1_run l X hX) rfl (m_in_of [594, 595, 596, 75] (by decide +kernel) (by decide +kernel)) (m_tb_of 597 (by decide +kernel) rfl) (by decide +kernel) rfl ⟨Nat.le_of_ble_eq_true rfl, Nat.le_of_ble_eq_true rfl⟩ dX8_mean_41 rfl)) (m_lf_all (o_aload_n C (i := 0) rfl dX8_mean_44 rfl))) (m_bt_all (m_lf_all (o_get C (ci := 8) (k := 3) (N := 11) (rf := RX8) (T := TX8) rfl ginX8 (Nat.le_of_ble_eq_true rfl) (m_tb_of 364 (by decide +kernel) rfl) dX8_mean_45 rfl)) (m_lf_all (o_get C (ci := 1) (k := 0) (N := 11) (rf := RX1) (T := TX1) rfl ginX1 (Nat.le_of_ble_eq_true rfl) (m_tb_of 281 (by decide +kernel) rfl) dX8_mean_48 rfl)))) (m_bt_all (m_bt_all (m_lf_all (o_iload_n C (i := 1) rfl dX8_mean_51 rfl)) (m_lf_all (o_iald C dX8_mean_52 rfl))) (m_bt_all (m_lf_all (o_istore_n C (i := 3) rfl dX8_mean_53 rfl)) (m_lf_all (o_aload_n C (i := 0) rfl dX8_mean_54 rfl))))))) (m_bt_all (m_bt_all (m_bt_all (m_bt_all (m_lf_all (o_get C (ci := 8) (k := 3) (N := 11) (rf := RX8) (T := TX8) rfl ginX8 (Nat.le_of_ble_eq_true rfl) (m_tb_of 364 (by decide +kernel) rfl) dX8_mean_55 rfl)) (m_bt_all (m_lf_all (o_iload_n C (i := 1) rfl dX8_mean_58 rfl)) (m_lf_all (o_callV C (T := TX1) (N := 11) (sX1_keptOf l X hX) rfl (m_in_of [742, 743, 744, 75] (by decide +kernel) (by decide +kernel)) (m_tb_of 745 (by decide +kernel) rfl) (by decide +kernel) rfl ⟨Nat.le_of_ble_eq_true rfl, Nat.le_of_ble_eq_true rfl⟩ dX8_mean_59 rfl)))) (m_bt_all (m_bt_all (m_lf_all (o_istore C dX8_mean_62 rfl)) (m_lf_all (o_iload_n C (i := 3) rfl dX8_mean_64 rfl))) (m_bt_all (m_lf_all (o_iload C dX8_mean_65 rfl)) (m_lf_all (o_callS C (sX8_commonDivisor l X hX) (m_in_of [747, 748, 72] (by decide +kernel) (by decide +kernel)) (m_tb_of 749 (by decide +kernel) rfl) (by decide +kernel) ⟨Nat.le_of_ble_eq_true rfl, Nat.le_of_ble_eq_true rfl⟩ dX8_mean_67 rfl))))) (m_bt_all (m_bt_all (m_bt_all (m_lf_all (o_istore C dX8_mean_70 rfl)) (m_lf_all (o_iload C dX8_mean_72 rfl))) (m_bt_all (m_lf_all (o_iconst C (x := (1)) (m_rngd rfl) dX8_mean_74 rfl)) (m_lf_all (o_icmp_lt C dX8_mean_75 rfl rfl)))) (m_bt_all (m_bt_all (m_lf_all (o_iload C dX8_mean_78 rfl)) (m_lf_all (o_iconst C (x := (1)) (m_rngd rfl) dX8_mean_80 rfl))) (m_bt_all (m_lf_all (o_icmp_ge C dX8_mean_81 rfl rfl)) (m_lf_all (o_iload_n C (i := 2) rfl dX8_mean_84 rfl)))))) (m_bt_all (m_bt_all (m_bt_all (m_lf_all (o_if_ne C dX8_mean_85 rfl rfl)) (m_bt_all (m_lf_all (o_iconst C (x := (0)) (m_rngd rfl) dX8_mean_88 rfl)) (m_lf_all (o_goto C dX8_mean_89 rfl)))) (m_bt_all (m_bt_all (m_lf_all (o_iconst C (x := (1)) (m_rngd rfl) dX8_mean_92 rfl)) (m_lf_all (o_iret C hr dX8_mean_93))) (m_bt_all (m_lf_all (o_iload_n C (i := 2) rfl dX8_mean_94 rfl)) (m_lf_all (o_if_ne C dX8_mean_95 rfl rfl))))) (m_bt_all (m_bt_all (m_bt_all (m_lf_all (o_iload_n C (i := 3) rfl dX8_mean_98 rfl)) (m_lf_all (o_iload C dX8_mean_99 rfl))) (m_bt_all (m_lf_all (o_idiv C dX8_mean_101 rfl)) (m_lf_all (o_goto C dX8_mean_102 rfl)))) (m_bt_all (m_bt_all (m_lf_all (o_iload C dX8_mean_105 rfl)) (m_lf_all (o_iload C dX8_mean_107 rfl))) (m_bt_all (m_lf_all (o_idiv C dX8_mean_109 rfl)) (m_lf_all (o_iret C hr dX8_mean_110))))))))
set_option maxRecDepth 20000 in
def kX8_bestWord : m_C := m_bt 8 (m_bt 4 (m_bt 1 (m_lf 0 (s_ald 1 0)) (m_lf 1 (s_get 4 8 4))) (m_bt 5 (m_lf 4 (s_ald 5 0)) (m_lf 5 (s_get 8 8 3)))) (m_bt 12 (m_bt 9 (m_lf 8 (s_ald 9 0)) (m_lf 9 (s_get 12 8 0))) (m_bt 15 (m_lf 12 (s_callV 15 3 4 wX4_wordOfLeastCost)) (m_lf 15 (s_ret))))
theorem kX8_bestWord_0 : kX8_bestWord 0 = some (s_ald 1 0) := rfl
theorem kX8_bestWord_1 : kX8_bestWord 1 = some (s_get 4 8 4) := rfl
theorem kX8_bestWord_4 : kX8_bestWord 4 = some (s_ald 5 0) := rfl
theorem kX8_bestWord_5 : kX8_bestWord 5 = some (s_get 8 8 3) := rfl
theorem kX8_bestWord_8 : kX8_bestWord 8 = some (s_ald 9 0) := rfl
theorem kX8_bestWord_9 : kX8_bestWord 9 = some (s_get 12 8 0) := rfl
theorem kX8_bestWord_12 : kX8_bestWord 12 = some (s_callV 15 3 4 wX4_wordOfLeastCost) := rfl
theorem kX8_bestWord_15 : kX8_bestWord 15 = some (s_ret) := rfl
def wX8_bestWord : m_GK := m_wp 1 kX8_bestWord
set_option maxRecDepth 100000 in
set_option maxHeartbeats 4000000 in
theorem sX8_bestWord (l : Launch) (X : m_X) (hX : m_inj X.1) : m_Sound l X 7 yX8_bestWord cX8_bestWord 1 (some .int) wX8_bestWord := m_sound_of hX (by decide) (fun p e s m args below meth c q C hr => m_bt_all (m_bt_all (m_bt_all (m_lf_all (o_aload_n C (i := 0) rfl dX8_bestWord_0 rfl)) (m_lf_all (o_get C (ci := 8) (k := 4) (N := 11) (rf := RX8) (T := TX8) rfl ginX8 (Nat.le_of_ble_eq_true rfl) (m_tb_of 365 (by decide +kernel) rfl) dX8_bestWord_1 rfl))) (m_bt_all (m_lf_all (o_aload_n C (i := 0) rfl dX8_bestWord_4 rfl)) (m_lf_all (o_get C (ci := 8) (k := 3) (N := 11) (rf := RX8) (T := TX8) rfl ginX8 (Nat.le_of_ble_eq_true rfl) (m_tb_of 364 (by decide +kernel) rfl) dX8_bestWord_5 rfl)))) (m_bt_all (m_bt_all (m_lf_all (o_aload_n C (i := 0) rfl dX8_bestWord_8 rfl)) (m_lf_all (o_get C (ci := 8) (k := 0) (N := 11) (rf := RX8) (T := TX8) rfl ginX8 (Nat.le_of_ble_eq_true rfl) (m_tb_of 361 (by decide +kernel) rfl) dX8_bestWord_9 rfl))) (m_bt_all (m_lf_all (o_callV C (T := TX4) (N := 1) (sX4_wordOfLeastCost l X hX) rfl (m_in_of [754, 755, 756, 78] (by decide +kernel) (by decide +kernel)) (m_tb_of 757 (by decide +kernel) rfl) (by decide +kernel) rfl ⟨Nat.le_of_ble_eq_true rfl, Nat.le_of_ble_eq_true rfl⟩ dX8_bestWord_12 rfl)) (m_lf_all (o_iret C hr dX8_bestWord_15)))))
set_option maxRecDepth 20000 in
def kX8_fewest : m_C := m_bt 23 (m_bt 12 (m_bt 7 (m_bt 1 (m_lf 0 (s_ald 1 0)) (m_bt 4 (m_lf 1 (s_get 4 8 0)) (m_lf 4 (s_get 7 2 1)))) (m_bt 8 (m_lf 7 (s_push 8 (.inl (1)))) (m_bt 11 (m_lf 8 (s_icmp 11 18 (fun x y => y ≤ x))) (m_lf 11 (s_ald 12 0))))) (m_bt 18 (m_bt 14 (m_lf 12 (s_push 14 (.inl (-3)))) (m_bt 17 (m_lf 14 (s_callV 17 2 8 wX8_refuse)) (m_lf 17 (s_ret)))) (m_bt 19 (m_lf 18 (s_ild 19 1)) (m_bt 22 (m_lf 19 (s_if 22 29 (fun x => 0 ≤ x))) (m_lf 22 (s_ald 23 0)))))) (m_bt 34 (m_bt 29 (m_bt 25 (m_lf 23 (s_push 25 (.inl (-4)))) (m_bt 28 (m_lf 25 (s_callV 28 2 8 wX8_refuse)) (m_lf 28 (s_ret)))) (m_bt 30 (m_lf 29 (s_ald 30 0)) (m_bt 33 (m_lf 30 (s_get 33 8 4)) (m_lf 33 (s_ald 34 0))))) (m_bt 41 (m_bt 37 (m_lf 34 (s_get 37 8 3)) (m_bt 38 (m_lf 37 (s_ald 38 0)) (m_lf 38 (s_get 41 8 0)))) (m_bt 42 (m_lf 41 (s_ild 42 1)) (m_bt 45 (m_lf 42 (s_callV 45 4 4 wX4_lanesForCost)) (m_lf 45 (s_ret))))))
theorem kX8_fewest_0 : kX8_fewest 0 = some (s_ald 1 0) := rfl
theorem kX8_fewest_1 : kX8_fewest 1 = some (s_get 4 8 0) := rfl
theorem kX8_fewest_4 : kX8_fewest 4 = some (s_get 7 2 1) := rfl
theorem kX8_fewest_7 : kX8_fewest 7 = some (s_push 8 (.inl (1))) := rfl
theorem kX8_fewest_8 : kX8_fewest 8 = some (s_icmp 11 18 (fun x y => y ≤ x)) := rfl
theorem kX8_fewest_11 : kX8_fewest 11 = some (s_ald 12 0) := rfl
theorem kX8_fewest_12 : kX8_fewest 12 = some (s_push 14 (.inl (-3))) := rfl
theorem kX8_fewest_14 : kX8_fewest 14 = some (s_callV 17 2 8 wX8_refuse) := rfl
theorem kX8_fewest_17 : kX8_fewest 17 = some (s_ret) := rfl
theorem kX8_fewest_18 : kX8_fewest 18 = some (s_ild 19 1) := rfl
theorem kX8_fewest_19 : kX8_fewest 19 = some (s_if 22 29 (fun x => 0 ≤ x)) := rfl
theorem kX8_fewest_22 : kX8_fewest 22 = some (s_ald 23 0) := rfl
theorem kX8_fewest_23 : kX8_fewest 23 = some (s_push 25 (.inl (-4))) := rfl
theorem kX8_fewest_25 : kX8_fewest 25 = some (s_callV 28 2 8 wX8_refuse) := rfl
theorem kX8_fewest_28 : kX8_fewest 28 = some (s_ret) := rfl
theorem kX8_fewest_29 : kX8_fewest 29 = some (s_ald 30 0) := rfl
theorem kX8_fewest_30 : kX8_fewest 30 = some (s_get 33 8 4) := rfl
theorem kX8_fewest_33 : kX8_fewest 33 = some (s_ald 34 0) := rfl
theorem kX8_fewest_34 : kX8_fewest 34 = some (s_get 37 8 3) := rfl
theorem kX8_fewest_37 : kX8_fewest 37 = some (s_ald 38 0) := rfl
theorem kX8_fewest_38 : kX8_fewest 38 = some (s_get 41 8 0) := rfl
theorem kX8_fewest_41 : kX8_fewest 41 = some (s_ild 42 1) := rfl
theorem kX8_fewest_42 : kX8_fewest 42 = some (s_callV 45 4 4 wX4_lanesForCost) := rfl
theorem kX8_fewest_45 : kX8_fewest 45 = some (s_ret) := rfl
def wX8_fewest : m_GK := m_wp 2 kX8_fewest
set_option maxRecDepth 100000 in
set_option maxHeartbeats 4000000 in
theorem sX8_fewest (l : Launch) (X : m_X) (hX : m_inj X.1) : m_Sound l X 7 yX8_fewest cX8_fewest 2 (some .int) wX8_fewest := m_sound_of hX (by decide) (fun p e s m args below meth c q C hr => m_bt_all (m_bt_all (m_bt_all (m_bt_all (m_lf_all (o_aload_n C (i := 0) rfl dX8_fewest_0 rfl)) (m_bt_all (m_lf_all (o_get C (ci := 8) (k := 0) (N := 11) (rf := RX8) (T := TX8) rfl ginX8 (Nat.le_of_ble_eq_true rfl) (m_tb_of 361 (by decide +kernel) rfl) dX8_fewest_1 rfl)) (m_lf_all (o_get C (ci := 2) (k := 1) (N := 8) (rf := RX2) (T := TX2) rfl ginX2 (Nat.le_of_ble_eq_true rfl) (m_tb_of 115 (by decide +kernel) rfl) dX8_fewest_4 rfl)))) (m_bt_all (m_lf_all (o_iconst C (x := (1)) (m_rngd rfl) dX8_fewest_7 rfl)) (m_bt_all (m_lf_all (o_icmp_ge C dX8_fewest_8 rfl rfl)) (m_lf_all (o_aload_n C (i := 0) rfl dX8_fewest_11 rfl))))) (m_bt_all (m_bt_all (m_lf_all (o_bipush C (x := (-3)) (m_rngd rfl) rfl dX8_fewest_12 rfl)) (m_bt_all (m_lf_all (o_callV C (T := TX8) (N := 11) (sX8_refuse l X hX) rfl (m_in_of [399, 401, 0, 72] (by decide +kernel) (by decide +kernel)) (m_tb_of 402 (by decide +kernel) rfl) (by decide +kernel) rfl ⟨Nat.le_of_ble_eq_true rfl, Nat.le_of_ble_eq_true rfl⟩ dX8_fewest_14 rfl)) (m_lf_all (o_iret C hr dX8_fewest_17)))) (m_bt_all (m_lf_all (o_iload_n C (i := 1) rfl dX8_fewest_18 rfl)) (m_bt_all (m_lf_all (o_if_ge C dX8_fewest_19 rfl rfl)) (m_lf_all (o_aload_n C (i := 0) rfl dX8_fewest_22 rfl)))))) (m_bt_all (m_bt_all (m_bt_all (m_lf_all (o_bipush C (x := (-4)) (m_rngd rfl) rfl dX8_fewest_23 rfl)) (m_bt_all (m_lf_all (o_callV C (T := TX8) (N := 11) (sX8_refuse l X hX) rfl (m_in_of [399, 401, 0, 72] (by decide +kernel) (by decide +kernel)) (m_tb_of 402 (by decide +kernel) rfl) (by decide +kernel) rfl ⟨Nat.le_of_ble_eq_true rfl, Nat.le_of_ble_eq_true rfl⟩ dX8_fewest_25 rfl)) (m_lf_all (o_iret C hr dX8_fewest_28)))) (m_bt_all (m_lf_all (o_aload_n C (i := 0) rfl dX8_fewest_29 rfl)) (m_bt_all (m_lf_all (o_get C (ci := 8) (k := 4) (N := 11) (rf := RX8) (T := TX8) rfl ginX8 (Nat.le_of_ble_eq_true rfl) (m_tb_of 365 (by decide +kernel) rfl) dX8_fewest_30 rfl)) (m_lf_all (o_aload_n C (i := 0) rfl dX8_fewest_33 rfl))))) (m_bt_all (m_bt_all (m_lf_all (o_get C (ci := 8) (k := 3) (N := 11) (rf := RX8) (T := TX8) rfl ginX8 (Nat.le_of_ble_eq_true rfl) (m_tb_of 364 (by decide +kernel) rfl) dX8_fewest_34 rfl)) (m_bt_all (m_lf_all (o_aload_n C (i := 0) rfl dX8_fewest_37 rfl)) (m_lf_all (o_get C (ci := 8) (k := 0) (N := 11) (rf := RX8) (T := TX8) rfl ginX8 (Nat.le_of_ble_eq_true rfl) (m_tb_of 361 (by decide +kernel) rfl) dX8_fewest_38 rfl)))) (m_bt_all (m_lf_all (o_iload_n C (i := 1) rfl dX8_fewest_41 rfl)) (m_bt_all (m_lf_all (o_callV C (T := TX4) (N := 1) (sX4_lanesForCost l X hX) rfl (m_in_of [766, 767, 768, 78] (by decide +kernel) (by decide +kernel)) (m_tb_of 769 (by decide +kernel) rfl) (by decide +kernel) rfl ⟨Nat.le_of_ble_eq_true rfl, Nat.le_of_ble_eq_true rfl⟩ dX8_fewest_42 rfl)) (m_lf_all (o_iret C hr dX8_fewest_45)))))))
set_option maxRecDepth 20000 in
def kX8_edge : m_C := m_bt 8 (m_bt 4 (m_bt 1 (m_lf 0 (s_ald 1 0)) (m_lf 1 (s_get 4 8 4))) (m_bt 5 (m_lf 4 (s_ald 5 0)) (m_lf 5 (s_get 8 8 3)))) (m_bt 12 (m_bt 9 (m_lf 8 (s_ald 9 0)) (m_lf 9 (s_get 12 8 0))) (m_bt 15 (m_lf 12 (s_callV 15 3 4 wX4_switchThatParts)) (m_lf 15 (s_ret))))
theorem kX8_edge_0 : kX8_edge 0 = some (s_ald 1 0) := rfl
theorem kX8_edge_1 : kX8_edge 1 = some (s_get 4 8 4) := rfl
theorem kX8_edge_4 : kX8_edge 4 = some (s_ald 5 0) := rfl
theorem kX8_edge_5 : kX8_edge 5 = some (s_get 8 8 3) := rfl
theorem kX8_edge_8 : kX8_edge 8 = some (s_ald 9 0) := rfl
theorem kX8_edge_9 : kX8_edge 9 = some (s_get 12 8 0) := rfl
theorem kX8_edge_12 : kX8_edge 12 = some (s_callV 15 3 4 wX4_switchThatParts) := rfl
theorem kX8_edge_15 : kX8_edge 15 = some (s_ret) := rfl
def wX8_edge : m_GK := m_wp 1 kX8_edge
set_option maxRecDepth 100000 in
set_option maxHeartbeats 4000000 in
theorem sX8_edge (l : Launch) (X : m_X) (hX : m_inj X.1) : m_Sound l X 7 yX8_edge cX8_edge 1 (some .int) wX8_edge := m_sound_of hX (by decide) (fun p e s m args below meth c q C hr => m_bt_all (m_bt_all (m_bt_all (m_lf_all (o_aload_n C (i := 0) rfl dX8_edge_0 rfl)) (m_lf_all (o_get C (ci := 8) (k := 4) (N := 11) (rf := RX8) (T := TX8) rfl ginX8 (Nat.le_of_ble_eq_true rfl) (m_tb_of 365 (by decide +kernel) rfl) dX8_edge_1 rfl))) (m_bt_all (m_lf_all (o_aload_n C (i := 0) rfl dX8_edge_4 rfl)) (m_lf_all (o_get C (ci := 8) (k := 3) (N := 11) (rf := RX8) (T := TX8) rfl ginX8 (Nat.le_of_ble_eq_true rfl) (m_tb_of 364 (by decide +kernel) rfl) dX8_edge_5 rfl)))) (m_bt_all (m_bt_all (m_lf_all (o_aload_n C (i := 0) rfl dX8_edge_8 rfl)) (m_lf_all (o_get C (ci := 8) (k := 0) (N := 11) (rf := RX8) (T := TX8) rfl ginX8 (Nat.le_of_ble_eq_true rfl) (m_tb_of 361 (by decide +kernel) rfl) dX8_edge_9 rfl))) (m_bt_all (m_lf_all (o_callV C (T := TX4) (N := 1) (sX4_switchThatParts l X hX) rfl (m_in_of [774, 775, 776, 78] (by decide +kernel) (by decide +kernel)) (m_tb_of 777 (by decide +kernel) rfl) (by decide +kernel) rfl ⟨Nat.le_of_ble_eq_true rfl, Nat.le_of_ble_eq_true rfl⟩ dX8_edge_12 rfl)) (m_lf_all (o_iret C hr dX8_edge_15)))))
set_option maxRecDepth 20000 in
def kX8_signs : m_C := m_bt 8 (m_bt 4 (m_bt 1 (m_lf 0 (s_ald 1 0)) (m_lf 1 (s_get 4 8 4))) (m_bt 5 (m_lf 4 (s_ald 5 0)) (m_lf 5 (s_get 8 8 3)))) (m_bt 12 (m_bt 9 (m_lf 8 (s_ald 9 0)) (m_lf 9 (s_get 12 8 0))) (m_bt 14 (m_lf 12 (s_push 14 (.inl (7)))) (m_bt 17 (m_lf 14 (s_callV 17 4 4 wX4_settingOfLeastCost)) (m_lf 17 (s_ret)))))
theorem kX8_signs_0 : kX8_signs 0 = some (s_ald 1 0) := rfl
theorem kX8_signs_1 : kX8_signs 1 = some (s_get 4 8 4) := rfl
theorem kX8_signs_4 : kX8_signs 4 = some (s_ald 5 0) := rfl
theorem kX8_signs_5 : kX8_signs 5 = some (s_get 8 8 3) := rfl
theorem kX8_signs_8 : kX8_signs 8 = some (s_ald 9 0) := rfl
theorem kX8_signs_9 : kX8_signs 9 = some (s_get 12 8 0) := rfl
theorem kX8_signs_12 : kX8_signs 12 = some (s_push 14 (.inl (7))) := rfl
theorem kX8_signs_14 : kX8_signs 14 = some (s_callV 17 4 4 wX4_settingOfLeastCost) := rfl
theorem kX8_signs_17 : kX8_signs 17 = some (s_ret) := rfl
def wX8_signs : m_GK := m_wp 1 kX8_signs
set_option maxRecDepth 100000 in
set_option maxHeartbeats 4000000 in
theorem sX8_signs (l : Launch) (X : m_X) (hX : m_inj X.1) : m_Sound l X 7 yX8_signs cX8_signs 1 (some .int) wX8_signs := m_sound_of hX (by decide) (fun p e s m args below meth c q C hr => m_bt_all (m_bt_all (m_bt_all (m_lf_all (o_aload_n C (i := 0) rfl dX8_signs_0 rfl)) (m_lf_all (o_get C (ci := 8) (k := 4) (N := 11) (rf := RX8) (T := TX8) rfl ginX8 (Nat.le_of_ble_eq_true rfl) (m_tb_of 365 (by decide +kernel) rfl) dX8_signs_1 rfl))) (m_bt_all (m_lf_all (o_aload_n C (i := 0) rfl dX8_signs_4 rfl)) (m_lf_all (o_get C (ci := 8) (k := 3) (N := 11) (rf := RX8) (T := TX8) rfl ginX8 (Nat.le_of_ble_eq_true rfl) (m_tb_of 364 (by decide +kernel) rfl) dX8_signs_5 rfl)))) (m_bt_all (m_bt_all (m_lf_all (o_aload_n C (i := 0) rfl dX8_signs_8 rfl)) (m_lf_all (o_get C (ci := 8) (k := 0) (N := 11) (rf := RX8) (T := TX8) rfl ginX8 (Nat.le_of_ble_eq_true rfl) (m_tb_of 361 (by decide +kernel) rfl) dX8_signs_9 rfl))) (m_bt_all (m_lf_all (o_bipush C (x := (7)) (m_rngd rfl) rfl dX8_signs_12 rfl)) (m_bt_all (m_lf_all (o_callV C (T := TX4) (N := 1) (sX4_settingOfLeastCost l X hX) rfl (m_in_of [787, 788, 789, 78] (by decide +kernel) (by decide +kernel)) (m_tb_of 790 (by decide +kernel) rfl) (by decide +kernel) rfl ⟨Nat.le_of_ble_eq_true rfl, Nat.le_of_ble_eq_true rfl⟩ dX8_signs_14 rfl)) (m_lf_all (o_iret C hr dX8_signs_17))))))
set_option maxRecDepth 20000 in
def kX8_bestRule : m_C := m_bt 8 (m_bt 4 (m_bt 1 (m_lf 0 (s_ald 1 0)) (m_lf 1 (s_get 4 8 4))) (m_bt 5 (m_lf 4 (s_ald 5 0)) (m_lf 5 (s_get 8 8 3)))) (m_bt 12 (m_bt 9 (m_lf 8 (s_ald 9 0)) (m_lf 9 (s_get 12 8 0))) (m_bt 13 (m_lf 12 (s_push 13 (.inl (4)))) (m_bt 16 (m_lf 13 (s_callV 16 4 4 wX4_settingOfLeastCost)) (m_lf 16 (s_ret)))))
theorem kX8_bestRule_0 : kX8_bestRule 0 = some (s_ald 1 0) := rfl
theorem kX8_bestRule_1 : kX8_bestRule 1 = some (s_get 4 8 4) := rfl
theorem kX8_bestRule_4 : kX8_bestRule 4 = some (s_ald 5 0) := rfl
theorem kX8_bestRule_5 : kX8_bestRule 5 = some (s_get 8 8 3) := rfl
theorem kX8_bestRule_8 : kX8_bestRule 8 = some (s_ald 9 0) := rfl
theorem kX8_bestRule_9 : kX8_bestRule 9 = some (s_get 12 8 0) := rfl
theorem kX8_bestRule_12 : kX8_bestRule 12 = some (s_push 13 (.inl (4))) := rfl
theorem kX8_bestRule_13 : kX8_bestRule 13 = some (s_callV 16 4 4 wX4_settingOfLeastCost) := rfl
theorem kX8_bestRule_16 : kX8_bestRule 16 = some (s_ret) := rfl
def wX8_bestRule : m_GK := m_wp 1 kX8_bestRule
set_option maxRecDepth 100000 in
set_option maxHeartbeats 4000000 in
theorem sX8_bestRule (l : Launch) (X : m_X) (hX : m_inj X.1) : m_Sound l X 7 yX8_bestRule cX8_bestRule 1 (some .int) wX8_bestRule := m_sound_of hX (by decide) (fun p e s m args below meth c q C hr => m_bt_all (m_bt_all (m_bt_all (m_lf_all (o_aload_n C (i := 0) rfl dX8_bestRule_0 rfl)) (m_lf_all (o_get C (ci := 8) (k := 4) (N := 11) (rf := RX8) (T := TX8) rfl ginX8 (Nat.le_of_ble_eq_true rfl) (m_tb_of 365 (by decide +kernel) rfl) dX8_bestRule_1 rfl))) (m_bt_all (m_lf_all (o_aload_n C (i := 0) rfl dX8_bestRule_4 rfl)) (m_lf_all (o_get C (ci := 8) (k := 3) (N := 11) (rf := RX8) (T := TX8) rfl ginX8 (Nat.le_of_ble_eq_true rfl) (m_tb_of 364 (by decide +kernel) rfl) dX8_bestRule_5 rfl)))) (m_bt_all (m_bt_all (m_lf_all (o_aload_n C (i := 0) rfl dX8_bestRule_8 rfl)) (m_lf_all (o_get C (ci := 8) (k := 0) (N := 11) (rf := RX8) (T := TX8) rfl ginX8 (Nat.le_of_ble_eq_true rfl) (m_tb_of 361 (by decide +kernel) rfl) dX8_bestRule_9 rfl))) (m_bt_all (m_lf_all (o_iconst C (x := (4)) (m_rngd rfl) dX8_bestRule_12 rfl)) (m_bt_all (m_lf_all (o_callV C (T := TX4) (N := 1) (sX4_settingOfLeastCost l X hX) rfl (m_in_of [787, 788, 789, 78] (by decide +kernel) (by decide +kernel)) (m_tb_of 790 (by decide +kernel) rfl) (by decide +kernel) rfl ⟨Nat.le_of_ble_eq_true rfl, Nat.le_of_ble_eq_true rfl⟩ dX8_bestRule_13 rfl)) (m_lf_all (o_iret C hr dX8_bestRule_16))))))
set_option maxRecDepth 20000 in
def kX8_buys : m_C := m_bt 43 (m_bt 23 (m_bt 11 (m_bt 4 (m_bt 1 (m_lf 0 (s_ald 1 0)) (m_lf 1 (s_get 4 8 0))) (m_bt 5 (m_lf 4 (s_ild 5 1)) (m_bt 8 (m_lf 5 (s_callV 8 2 2 wX2_hasSort)) (m_lf 8 (s_if 11 27 (fun x => x = 0)))))) (m_bt 16 (m_bt 12 (m_lf 11 (s_ald 12 0)) (m_bt 15 (m_lf 12 (s_get 15 8 0)) (m_lf 15 (s_ild 16 2)))) (m_bt 19 (m_lf 16 (s_callV 19 2 2 wX2_hasSort)) (m_bt 22 (m_lf 19 (s_if 22 27 (fun x => x = 0))) (m_lf 22 (s_ild 23 1)))))) (m_bt 34 (m_bt 29 (m_bt 24 (m_lf 23 (s_ild 24 2)) (m_bt 27 (m_lf 24 (s_icmp 27 36 (fun x y => ¬ x = y))) (m_lf 27 (s_push 29 (.inl (1000000000)))))) (m_bt 30 (m_lf 29 (s_ald 30 0)) (m_bt 31 (m_lf 30 (s_push 31 (.inl (-1)))) (m_lf 31 (s_callV 34 2 8 wX8_refuse))))) (m_bt 37 (m_bt 35 (m_lf 34 (s_bin 35 (fun x y => m_wrap (x - y)))) (m_bt 36 (m_lf 35 (s_ret)) (m_lf 36 (s_ild 37 3)))) (m_bt 40 (m_lf 37 (s_if 40 50 (fun x => 0 ≤ x))) (m_bt 42 (m_lf 40 (s_push 42 (.inl (1000000000)))) (m_lf 42 (s_ald 43 0))))))) (m_bt 65 (m_bt 53 (m_bt 49 (m_bt 45 (m_lf 43 (s_push 45 (.inl (-4)))) (m_bt 48 (m_lf 45 (s_callV 48 2 8 wX8_refuse)) (m_lf 48 (s_bin 49 (fun x y => m_wrap (x - y)))))) (m_bt 50 (m_lf 49 (s_ret)) (m_bt 51 (m_lf 50 (s_ild 51 3)) (m_lf 51 (s_push 53 (.inl (100))))))) (m_bt 59 (m_bt 56 (m_lf 53 (s_icmp 56 66 (fun x y => x ≤ y))) (m_bt 58 (m_lf 56 (s_push 58 (.inl (1000000000)))) (m_lf 58 (s_ald 59 0)))) (m_bt 61 (m_lf 59 (s_push 61 (.inl (-6)))) (m_bt 64 (m_lf 61 (s_callV 64 2 8 wX8_refuse)) (m_lf 64 (s_bin 65 (fun x y => m_wrap (x - y)))))))) (m_bt 75 (m_bt 70 (m_bt 66 (m_lf 65 (s_ret)) (m_bt 67 (m_lf 66 (s_ald 67 0)) (m_lf 67 (s_get 70 8 4)))) (m_bt 71 (m_lf 70 (s_ald 71 0)) (m_bt 74 (m_lf 71 (s_get 74 8 3)) (m_lf 74 (s_ald 75 0))))) (m_bt 80 (m_bt 78 (m_lf 75 (s_get 78 8 0)) (m_bt 79 (m_lf 78 (s_ild 79 1)) (m_lf 79 (s_ild 80 2)))) (m_bt 81 (m_lf 80 (s_ild 81 3)) (m_bt 84 (m_lf 81 (s_callV 84 6 4 wX4_savedByBuying)) (m_lf 84 (s_ret)))))))
theorem kX8_buys_0 : kX8_buys 0 = some (s_ald 1 0) := rfl
theorem kX8_buys_1 : kX8_buys 1 = some (s_get 4 8 0) := rfl
theorem kX8_buys_4 : kX8_buys 4 = some (s_ild 5 1) := rfl
theorem kX8_buys_5 : kX8_buys 5 = some (s_callV 8 2 2 wX2_hasSort) := rfl
theorem kX8_buys_8 : kX8_buys 8 = some (s_if 11 27 (fun x => x = 0)) := rfl
theorem kX8_buys_11 : kX8_buys 11 = some (s_ald 12 0) := rfl
theorem kX8_buys_12 : kX8_buys 12 = some (s_get 15 8 0) := rfl
theorem kX8_buys_15 : kX8_buys 15 = some (s_ild 16 2) := rfl
theorem kX8_buys_16 : kX8_buys 16 = some (s_callV 19 2 2 wX2_hasSort) := rfl
theorem kX8_buys_19 : kX8_buys 19 = some (s_if 22 27 (fun x => x = 0)) := rfl
theorem kX8_buys_22 : kX8_buys 22 = some (s_ild 23 1) := rfl
theorem kX8_buys_23 : kX8_buys 23 = some (s_ild 24 2) := rfl
theorem kX8_buys_24 : kX8_buys 24 = some (s_icmp 27 36 (fun x y => ¬ x = y)) := rfl
theorem kX8_buys_27 : kX8_buys 27 = some (s_push 29 (.inl (1000000000))) := rfl
theorem kX8_buys_29 : kX8_buys 29 = some (s_ald 30 0) := rfl
theorem kX8_buys_30 : kX8_buys 30 = some (s_push 31 (.inl (-1))) := rfl
theorem kX8_buys_31 : kX8_buys 31 = some (s_callV 34 2 8 wX8_refuse) := rfl
theorem kX8_buys_34 : kX8_buys 34 = some (s_bin 35 (fun x y => m_wrap (x - y))) := rfl
theorem kX8_buys_35 : kX8_buys 35 = some (s_ret) := rfl
theorem kX8_buys_36 : kX8_buys 36 = some (s_ild 37 3) := rfl
theorem kX8_buys_37 : kX8_buys 37 = some (s_if 40 50 (fun x => 0 ≤ x)) := rfl
theorem kX8_buys_40 : kX8_buys 40 = some (s_push 42 (.inl (1000000000))) := rfl
theorem kX8_buys_42 : kX8_buys 42 = some (s_ald 43 0) := rfl
theorem kX8_buys_43 : kX8_buys 43 = some (s_push 45 (.inl (-4))) := rfl
theorem kX8_buys_45 : kX8_buys 45 = some (s_callV 48 2 8 wX8_refuse) := rfl
theorem kX8_buys_48 : kX8_buys 48 = some (s_bin 49 (fun x y => m_wrap (x - y))) := rfl
theorem kX8_buys_49 : kX8_buys 49 = some (s_ret) := rfl
theorem kX8_buys_50 : kX8_buys 50 = some (s_ild 51 3) := rfl
theorem kX8_buys_51 : kX8_buys 51 = some (s_push 53 (.inl (100))) := rfl
theorem kX8_buys_53 : kX8_buys 53 = some (s_icmp 56 66 (fun x y => x ≤ y)) := rfl
theorem kX8_buys_56 : kX8_buys 56 = some (s_push 58 (.inl (1000000000))) := rfl
theorem kX8_buys_58 : kX8_buys 58 = some (s_ald 59 0) := rfl
theorem kX8_buys_59 : kX8_buys 59 = some (s_push 61 (.inl (-6))) := rfl
theorem kX8_buys_61 : kX8_buys 61 = some (s_callV 64 2 8 wX8_refuse) := rfl
theorem kX8_buys_64 : kX8_buys 64 = some (s_bin 65 (fun x y => m_wrap (x - y))) := rfl
theorem kX8_buys_65 : kX8_buys 65 = some (s_ret) := rfl
theorem kX8_buys_66 : kX8_buys 66 = some (s_ald 67 0) := rfl
theorem kX8_buys_67 : kX8_buys 67 = some (s_get 70 8 4) := rfl
theorem kX8_buys_70 : kX8_buys 70 = some (s_ald 71 0) := rfl
theorem kX8_buys_71 : kX8_buys 71 = some (s_get 74 8 3) := rfl
theorem kX8_buys_74 : kX8_buys 74 = some (s_ald 75 0) := rfl
theorem kX8_buys_75 : kX8_buys 75 = some (s_get 78 8 0) := rfl
theorem kX8_buys_78 : kX8_buys 78 = some (s_ild 79 1) := rfl
theorem kX8_buys_79 : kX8_buys 79 = some (s_ild 80 2) := rfl
theorem kX8_buys_80 : kX8_buys 80 = some (s_ild 81 3) := rfl
theorem kX8_buys_81 : kX8_buys 81 = some (s_callV 84 6 4 wX4_savedByBuying) := rfl
theorem kX8_buys_84 : kX8_buys 84 = some (s_ret) := rfl
def wX8_buys : m_GK := m_wp 4 kX8_buys
set_option maxRecDepth 100000 in
set_option maxHeartbeats 4000000 in
theorem sX8_buys (l : Launch) (X : m_X) (hX : m_inj X.1) : m_Sound l X 7 yX8_buys cX8_buys 4 (some .int) wX8_buys := m_sound_of hX (by decide) (fun p e s m args below meth c q C hr => m_bt_all (m_bt_all (m_bt_all (m_bt_all (m_bt_all (m_lf_all (o_aload_n C (i := 0) rfl dX8_buys_0 rfl)) (m_lf_all (o_get C (ci := 8) (k := 0) (N := 11) (rf := RX8) (T := TX8) rfl ginX8 (Nat.le_of_ble_eq_true rfl) (m_tb_of 361 (by decide +kernel) rfl) dX8_buys_1 rfl))) (m_bt_all (m_lf_all (o_iload_n C (i := 1) rfl dX8_buys_4 rfl)) (m_bt_all (m_lf_all (o_callV C (T := TX2) (N := 8) (sX2_hasSort l X hX) rfl (m_in_of [557, 533, 534, 73] (by decide +kernel) (by decide +kernel)) (m_tb_of 535 (by decide +kernel) rfl) (by decide +kernel) rfl ⟨Nat.le_of_ble_eq_true rfl, Nat.le_of_ble_eq_true rfl⟩ dX8_buys_5 rfl)) (m_lf_all (o_if_eq C dX8_buys_8 rfl rfl))))) (m_bt_all (m_bt_all (m_lf_all (o_aload_n C (i := 0) rfl dX8_buys_11 rfl)) (m_bt_all (m_lf_all (o_get C (ci := 8) (k := 0) (N := 11) (rf := RX8) (T := TX8) rfl ginX8 (Nat.le_of_ble_eq_true rfl) (m_tb_of 361 (by decide +kernel) rfl) dX8_buys_12 rfl)) (m_lf_all (o_iload_n C (i := 2) rfl dX8_buys_15 rfl)))) (m_bt_all (m_lf_all (o_callV C (T := TX2) (N := 8) (sX2_hasSort l X hX) rfl (m_in_of [557, 533, 534, 73] (by decide +kernel) (by decide +kernel)) (m_tb_of 535 (by decide +kernel) rfl) (by decide +kernel) rfl ⟨Nat.le_of_ble_eq_true rfl, Nat.le_of_ble_eq_true rfl⟩ dX8_buys_16 rfl)) (m_bt_all (m_lf_all (o_if_eq C dX8_buys_19 rfl rfl)) (m_lf_all (o_iload_n C (i := 1) rfl dX8_buys_22 rfl)))))) (m_bt_all (m_bt_all (m_bt_all (m_lf_all (o_iload_n C (i := 2) rfl dX8_buys_23 rfl)) (m_bt_all (m_lf_all (o_icmp_ne C dX8_buys_24 rfl rfl)) (m_lf_all (o_ldc C (x := (1000000000)) (m_rngd rfl) (m_tb_of 800 (by decide +kernel) rfl) dX8_buys_27 rfl)))) (m_bt_all (m_lf_all (o_aload_n C (i := 0) rfl dX8_buys_29 rfl)) (m_bt_all (m_lf_all (o_iconst C (x := (-1)) (m_rngd rfl) dX8_buys_30 rfl)) (m_lf_all (o_callV C (T := TX8) (N := 11) (sX8_refuse l X hX) rfl (m_in_of [399, 401, 0, 72] (by decide +kernel) (by decide +kernel)) (m_tb_of 402 (by decide +kernel) rfl) (by decide +kernel) rfl ⟨Nat.le_of_ble_eq_true rfl, Nat.le_of_ble_eq_true rfl⟩ dX8_buys_31 rfl))))) (m_bt_all (m_bt_all (m_lf_all (o_isub C dX8_buys_34 rfl)) (m_bt_all (m_lf_all (o_iret C hr dX8_buys_35)) (m_lf_all (o_iload_n C (i := 3) rfl dX8_buys_36 rfl)))) (m_bt_all (m_lf_all (o_if_ge C dX8_buys_37 rfl rfl)) (m_bt_all (m_lf_all (o_ldc C (x := (1000000000)) (m_rngd rfl) (m_tb_of 800 (by decide +kernel) rfl) dX8_buys_40 rfl)) (m_lf_all (o_aload_n C (i := 0) rfl dX8_buys_42 rfl))))))) (m_bt_all (m_bt_all (m_bt_all (m_bt_all (m_lf_all (o_bipush C (x := (-4)) (m_rngd rfl) rfl dX8_buys_43 rfl)) (m_bt_all (m_lf_all (o_callV C (T := TX8) (N := 11) (sX8_refuse l X hX) rfl (m_in_of [399, 401, 0, 72] (by decide +kernel) (by decide +kernel)) (m_tb_of 402 (by decide +kernel) rfl) (by decide +kernel) rfl ⟨Nat.le_of_ble_eq_true rfl, Nat.le_of_ble_eq_true rfl⟩ dX8_buys_45 rfl)) (m_lf_all (o_isub C dX8_buys_48 rfl)))) (m_bt_all (m_lf_all (o_iret C hr dX8_buys_49)) (m_bt_all (m_lf_all (o_iload_n C (i := 3) rfl dX8_buys_50 rfl)) (m_lf_all (o_bipush C (x := (100)) (m_rngd rfl) rfl dX8_buys_51 rfl))))) (m_bt_all (m_bt_all (m_lf_all (o_icmp_le C dX8_buys_53 rfl rfl)) (m_bt_all (m_lf_all (o_ldc C (x := (1000000000)) (m_rngd rfl) (m_tb_of 800 (by decide +kernel) rfl) dX8_buys_56 rfl)) (m_lf_all (o_aload_n C (i := 0) rfl dX8_buys_58 rfl)))) (m_bt_all (m_lf_all (o_bipush C (x := (-6)) (m_rngd rfl) rfl dX8_buys_59 rfl)) (m_bt_all (m_lf_all (o_callV C (T := TX8) (N := 11) (sX8_refuse l X hX) rfl (m_in_of [399, 401, 0, 72] (by decide +kernel) (by decide +kernel)) (m_tb_of 402 (by decide +kernel) rfl) (by decide +kernel) rfl ⟨Nat.le_of_ble_eq_true rfl, Nat.le_of_ble_eq_true rfl⟩ dX8_buys_61 rfl)) (m_lf_all (o_isub C dX8_buys_64 rfl)))))) (m_bt_all (m_bt_all (m_bt_all (m_lf_all (o_iret C hr dX8_buys_65)) (m_bt_all (m_lf_all (o_aload_n C (i := 0) rfl dX8_buys_66 rfl)) (m_lf_all (o_get C (ci := 8) (k := 4) (N := 11) (rf := RX8) (T := TX8) rfl ginX8 (Nat.le_of_ble_eq_true rfl) (m_tb_of 365 (by decide +kernel) rfl) dX8_buys_67 rfl)))) (m_bt_all (m_lf_all (o_aload_n C (i := 0) rfl dX8_buys_70 rfl)) (m_bt_all (m_lf_all (o_get C (ci := 8) (k := 3) (N := 11) (rf := RX8) (T := TX8) rfl ginX8 (Nat.le_of_ble_eq_true rfl) (m_tb_of 364 (by decide +kernel) rfl) dX8_buys_71 rfl)) (m_lf_all (o_aload_n C (i := 0) rfl dX8_buys_74 rfl))))) (m_bt_all (m_bt_all (m_lf_all (o_get C (ci := 8) (k := 0) (N := 11) (rf := RX8) (T := TX8) rfl ginX8 (Nat.le_of_ble_eq_true rfl) (m_tb_of 361 (by decide +kernel) rfl) dX8_buys_75 rfl)) (m_bt_all (m_lf_all (o_iload_n C (i := 1) rfl dX8_buys_78 rfl)) (m_lf_all (o_iload_n C (i := 2) rfl dX8_buys_79 rfl)))) (m_bt_all (m_lf_all (o_iload_n C (i := 3) rfl dX8_buys_80 rfl)) (m_bt_all (m_lf_all (o_callV C (T := TX4) (N := 1) (sX4_savedByBuying l X hX) rfl (m_in_of [801, 802, 803, 78] (by decide +kernel) (by decide +kernel)) (m_tb_of 804 (by decide +kernel) rfl) (by decide +kernel) rfl ⟨Nat.le_of_ble_eq_true rfl, Nat.le_of_ble_eq_true rfl⟩ dX8_buys_81 rfl)) (m_lf_all (o_iret C hr dX8_buys_84))))))))
set_option maxRecDepth 20000 in
def kX8_fails : m_C := m_bt 40 (m_bt 21 (m_bt 11 (m_bt 4 (m_bt 1 (m_lf 0 (s_ald 1 0)) (m_lf 1 (s_get 4 8 0))) (m_bt 5 (m_lf 4 (s_ild 5 1)) (m_bt 8 (m_lf 5 (s_callV 8 2 2 wX2_hasSort)) (m_lf 8 (s_if 11 18 (fun x => x = 0)))))) (m_bt 15 (m_bt 12 (m_lf 11 (s_ild 12 2)) (m_lf 12 (s_callS 15 1 wX8_isQuarter))) (m_bt 18 (m_lf 15 (s_if 18 27 (fun x => ¬ x = 0))) (m_bt 20 (m_lf 18 (s_push 20 (.inl (1000000000)))) (m_lf 20 (s_ald 21 0)))))) (m_bt 28 (m_bt 25 (m_bt 22 (m_lf 21 (s_push 22 (.inl (-1)))) (m_lf 22 (s_callV 25 2 8 wX8_refuse))) (m_bt 26 (m_lf 25 (s_bin 26 (fun x y => m_wrap (x - y)))) (m_bt 27 (m_lf 26 (s_ret)) (m_lf 27 (s_ild 28 3))))) (m_bt 34 (m_bt 29 (m_lf 28 (s_push 29 (.inl (1)))) (m_bt 32 (m_lf 29 (s_icmp 32 42 (fun x y => y ≤ x))) (m_lf 32 (s_push 34 (.inl (1000000000)))))) (m_bt 35 (m_lf 34 (s_ald 35 0)) (m_bt 37 (m_lf 35 (s_push 37 (.inl (-4)))) (m_lf 37 (s_callV 40 2 8 wX8_refuse))))))) (m_bt 58 (m_bt 48 (m_bt 42 (m_bt 41 (m_lf 40 (s_bin 41 (fun x y => m_wrap (x - y)))) (m_lf 41 (s_ret))) (m_bt 43 (m_lf 42 (s_ild 43 3)) (m_bt 45 (m_lf 43 (s_push 45 (.inl (99)))) (m_lf 45 (s_icmp 48 58 (fun x y => x ≤ y)))))) (m_bt 53 (m_bt 50 (m_lf 48 (s_push 50 (.inl (1000000000)))) (m_bt 51 (m_lf 50 (s_ald 51 0)) (m_lf 51 (s_push 53 (.inl (-6)))))) (m_bt 56 (m_lf 53 (s_callV 56 2 8 wX8_refuse)) (m_bt 57 (m_lf 56 (s_bin 57 (fun x y => m_wrap (x - y)))) (m_lf 57 (s_ret)))))) (m_bt 67 (m_bt 62 (m_bt 59 (m_lf 58 (s_ald 59 0)) (m_lf 59 (s_get 62 8 4))) (m_bt 63 (m_lf 62 (s_ald 63 0)) (m_bt 66 (m_lf 63 (s_get 66 8 3)) (m_lf 66 (s_ald 67 0))))) (m_bt 72 (m_bt 70 (m_lf 67 (s_get 70 8 0)) (m_bt 71 (m_lf 70 (s_ild 71 1)) (m_lf 71 (s_ild 72 2)))) (m_bt 73 (m_lf 72 (s_ild 73 3)) (m_bt 76 (m_lf 73 (s_callV 76 6 4 wX4_lostByFailing)) (m_lf 76 (s_ret)))))))
theorem kX8_fails_0 : kX8_fails 0 = some (s_ald 1 0) := rfl
theorem kX8_fails_1 : kX8_fails 1 = some (s_get 4 8 0) := rfl
theorem kX8_fails_4 : kX8_fails 4 = some (s_ild 5 1) := rfl
theorem kX8_fails_5 : kX8_fails 5 = some (s_callV 8 2 2 wX2_hasSort) := rfl
theorem kX8_fails_8 : kX8_fails 8 = some (s_if 11 18 (fun x => x = 0)) := rfl
theorem kX8_fails_11 : kX8_fails 11 = some (s_ild 12 2) := rfl
theorem kX8_fails_12 : kX8_fails 12 = some (s_callS 15 1 wX8_isQuarter) := rfl
theorem kX8_fails_15 : kX8_fails 15 = some (s_if 18 27 (fun x => ¬ x = 0)) := rfl
theorem kX8_fails_18 : kX8_fails 18 = some (s_push 20 (.inl (1000000000))) := rfl
theorem kX8_fails_20 : kX8_fails 20 = some (s_ald 21 0) := rfl
theorem kX8_fails_21 : kX8_fails 21 = some (s_push 22 (.inl (-1))) := rfl
theorem kX8_fails_22 : kX8_fails 22 = some (s_callV 25 2 8 wX8_refuse) := rfl
theorem kX8_fails_25 : kX8_fails 25 = some (s_bin 26 (fun x y => m_wrap (x - y))) := rfl
theorem kX8_fails_26 : kX8_fails 26 = some (s_ret) := rfl
theorem kX8_fails_27 : kX8_fails 27 = some (s_ild 28 3) := rfl
theorem kX8_fails_28 : kX8_fails 28 = some (s_push 29 (.inl (1))) := rfl
theorem kX8_fails_29 : kX8_fails 29 = some (s_icmp 32 42 (fun x y => y ≤ x)) := rfl
theorem kX8_fails_32 : kX8_fails 32 = some (s_push 34 (.inl (1000000000))) := rfl
theorem kX8_fails_34 : kX8_fails 34 = some (s_ald 35 0) := rfl
theorem kX8_fails_35 : kX8_fails 35 = some (s_push 37 (.inl (-4))) := rfl
theorem kX8_fails_37 : kX8_fails 37 = some (s_callV 40 2 8 wX8_refuse) := rfl
theorem kX8_fails_40 : kX8_fails 40 = some (s_bin 41 (fun x y => m_wrap (x - y))) := rfl
theorem kX8_fails_41 : kX8_fails 41 = some (s_ret) := rfl
theorem kX8_fails_42 : kX8_fails 42 = some (s_ild 43 3) := rfl
theorem kX8_fails_43 : kX8_fails 43 = some (s_push 45 (.inl (99))) := rfl
theorem kX8_fails_45 : kX8_fails 45 = some (s_icmp 48 58 (fun x y => x ≤ y)) := rfl
theorem kX8_fails_48 : kX8_fails 48 = some (s_push 50 (.inl (1000000000))) := rfl
theorem kX8_fails_50 : kX8_fails 50 = some (s_ald 51 0) := rfl
theorem kX8_fails_51 : kX8_fails 51 = some (s_push 53 (.inl (-6))) := rfl
theorem kX8_fails_53 : kX8_fails 53 = some (s_callV 56 2 8 wX8_refuse) := rfl
theorem kX8_fails_56 : kX8_fails 56 = some (s_bin 57 (fun x y => m_wrap (x - y))) := rfl
theorem kX8_fails_57 : kX8_fails 57 = some (s_ret) := rfl
theorem kX8_fails_58 : kX8_fails 58 = some (s_ald 59 0) := rfl
theorem kX8_fails_59 : kX8_fails 59 = some (s_get 62 8 4) := rfl
theorem kX8_fails_62 : kX8_fails 62 = some (s_ald 63 0) := rfl
theorem kX8_fails_63 : kX8_fails 63 = some (s_get 66 8 3) := rfl
theorem kX8_fails_66 : kX8_fails 66 = some (s_ald 67 0) := rfl
theorem kX8_fails_67 : kX8_fails 67 = some (s_get 70 8 0) := rfl
theorem kX8_fails_70 : kX8_fails 70 = some (s_ild 71 1) := rfl
theorem kX8_fails_71 : kX8_fails 71 = some (s_ild 72 2) := rfl
theorem kX8_fails_72 : kX8_fails 72 = some (s_ild 73 3) := rfl
theorem kX8_fails_73 : kX8_fails 73 = some (s_callV 76 6 4 wX4_lostByFailing) := rfl
theorem kX8_fails_76 : kX8_fails 76 = some (s_ret) := rfl
def wX8_fails : m_GK := m_wp 4 kX8_fails
set_option maxRecDepth 100000 in
set_option maxHeartbeats 4000000 in
theorem sX8_fails (l : Launch) (X : m_X) (hX : m_inj X.1) : m_Sound l X 7 yX8_fails cX8_fails 4 (some .int) wX8_fails := m_sound_of hX (by decide) (fun p e s m args below meth c q C hr => m_bt_all (m_bt_all (m_bt_all (m_bt_all (m_bt_all (m_lf_all (o_aload_n C (i := 0) rfl dX8_fails_0 rfl)) (m_lf_all (o_get C (ci := 8) (k := 0) (N := 11) (rf := RX8) (T := TX8) rfl ginX8 (Nat.le_of_ble_eq_true rfl) (m_tb_of 361 (by decide +kernel) rfl) dX8_fails_1 rfl))) (m_bt_all (m_lf_all (o_iload_n C (i := 1) rfl dX8_fails_4 rfl)) (m_bt_all (m_lf_all (o_callV C (T := TX2) (N := 8) (sX2_hasSort l X hX) rfl (m_in_of [557, 533, 534, 73] (by decide +kernel) (by decide +kernel)) (m_tb_of 535 (by decide +kernel) rfl) (by decide +kernel) rfl ⟨Nat.le_of_ble_eq_true rfl, Nat.le_of_ble_eq_true rfl⟩ dX8_fails_5 rfl)) (m_lf_all (o_if_eq C dX8_fails_8 rfl rfl))))) (m_bt_all (m_bt_all (m_lf_all (o_iload_n C (i := 2) rfl dX8_fails_11 rfl)) (m_lf_all (o_callS C (sX8_isQuarter l X hX) (m_in_of [567, 530, 72] (by decide +kernel) (by decide +kernel)) (m_tb_of 531 (by decide +kernel) rfl) (by decide +kernel) ⟨Nat.le_of_ble_eq_true rfl, Nat.le_of_ble_eq_true rfl⟩ dX8_fails_12 rfl))) (m_bt_all (m_lf_all (o_if_ne C dX8_fails_15 rfl rfl)) (m_bt_all (m_lf_all (o_ldc C (x := (1000000000)) (m_rngd rfl) (m_tb_of 800 (by decide +kernel) rfl) dX8_fails_18 rfl)) (m_lf_all (o_aload_n C (i := 0) rfl dX8_fails_20 rfl)))))) (m_bt_all (m_bt_all (m_bt_all (m_lf_all (o_iconst C (x := (-1)) (m_rngd rfl) dX8_fails_21 rfl)) (m_lf_all (o_callV C (T := TX8) (N := 11) (sX8_refuse l X hX) rfl (m_in_of [399, 401, 0, 72] (by decide +kernel) (by decide +kernel)) (m_tb_of 402 (by decide +kernel) rfl) (by decide +kernel) rfl ⟨Nat.le_of_ble_eq_true rfl, Nat.le_of_ble_eq_true rfl⟩ dX8_fails_22 rfl))) (m_bt_all (m_lf_all (o_isub C dX8_fails_25 rfl)) (m_bt_all (m_lf_all (o_iret C hr dX8_fails_26)) (m_lf_all (o_iload_n C (i := 3) rfl dX8_fails_27 rfl))))) (m_bt_all (m_bt_all (m_lf_all (o_iconst C (x := (1)) (m_rngd rfl) dX8_fails_28 rfl)) (m_bt_all (m_lf_all (o_icmp_ge C dX8_fails_29 rfl rfl)) (m_lf_all (o_ldc C (x := (1000000000)) (m_rngd rfl) (m_tb_of 800 (by decide +kernel) rfl) dX8_fails_32 rfl)))) (m_bt_all (m_lf_all (o_aload_n C (i := 0) rfl dX8_fails_34 rfl)) (m_bt_all (m_lf_all (o_bipush C (x := (-4)) (m_rngd rfl) rfl dX8_fails_35 rfl)) (m_lf_all (o_callV C (T := TX8) (N := 11) (sX8_refuse l X hX) rfl (m_in_of [399, 401, 0, 72] (by decide +kernel) (by decide +kernel)) (m_tb_of 402 (by decide +kernel) rfl) (by decide +kernel) rfl ⟨Nat.le_of_ble_eq_true rfl, Nat.le_of_ble_eq_true rfl⟩ dX8_fails_37 rfl))))))) (m_bt_all (m_bt_all (m_bt_all (m_bt_all (m_lf_all (o_isub C dX8_fails_40 rfl)) (m_lf_all (o_iret C hr dX8_fails_41))) (m_bt_all (m_lf_all (o_iload_n C (i := 3) rfl dX8_fails_42 rfl)) (m_bt_all (m_lf_all (o_bipush C (x := (99)) (m_rngd rfl) rfl dX8_fails_43 rfl)) (m_lf_all (o_icmp_le C dX8_fails_45 rfl rfl))))) (m_bt_all (m_bt_all (m_lf_all (o_ldc C (x := (1000000000)) (m_rngd rfl) (m_tb_of 800 (by decide +kernel) rfl) dX8_fails_48 rfl)) (m_bt_all (m_lf_all (o_aload_n C (i := 0) rfl dX8_fails_50 rfl)) (m_lf_all (o_bipush C (x := (-6)) (m_rngd rfl) rfl dX8_fails_51 rfl)))) (m_bt_all (m_lf_all (o_callV C (T := TX8) (N := 11) (sX8_refuse l X hX) rfl (m_in_of [399, 401, 0, 72] (by decide +kernel) (by decide +kernel)) (m_tb_of 402 (by decide +kernel) rfl) (by decide +kernel) rfl ⟨Nat.le_of_ble_eq_true rfl, Nat.le_of_ble_eq_true rfl⟩ dX8_fails_53 rfl)) (m_bt_all (m_lf_all (o_isub C dX8_fails_56 rfl)) (m_lf_all (o_iret C hr dX8_fails_57)))))) (m_bt_all (m_bt_all (m_bt_all (m_lf_all (o_aload_n C (i := 0) rfl dX8_fails_58 rfl)) (m_lf_all (o_get C (ci := 8) (k := 4) (N := 11) (rf := RX8) (T := TX8) rfl ginX8 (Nat.le_of_ble_eq_true rfl) (m_tb_of 365 (by decide +kernel) rfl) dX8_fails_59 rfl))) (m_bt_all (m_lf_all (o_aload_n C (i := 0) rfl dX8_fails_62 rfl)) (m_bt_all (m_lf_all (o_get C (ci := 8) (k := 3) (N := 11) (rf := RX8) (T := TX8) rfl ginX8 (Nat.le_of_ble_eq_true rfl) (m_tb_of 364 (by decide +kernel) rfl) dX8_fails_63 rfl)) (m_lf_all (o_aload_n C (i := 0) rfl dX8_fails_66 rfl))))) (m_bt_all (m_bt_all (m_lf_all (o_get C (ci := 8) (k := 0) (N := 11) (rf := RX8) (T := TX8) rfl ginX8 (Nat.le_of_ble_eq_true rfl) (m_tb_of 361 (by decide +kernel) rfl) dX8_fails_67 rfl)) (m_bt_all (m_lf_all (o_iload_n C (i := 1) rfl dX8_fails_70 rfl)) (m_lf_all (o_iload_n C (i := 2) rfl dX8_fails_71 rfl)))) (m_bt_all (m_lf_all (o_iload_n C (i := 3) rfl dX8_fails_72 rfl)) (m_bt_all (m_lf_all (o_callV C (T := TX4) (N := 1) (sX4_lostByFailing l X hX) rfl (m_in_of [811, 812, 813, 78] (by decide +kernel) (by decide +kernel)) (m_tb_of 814 (by decide +kernel) rfl) (by decide +kernel) rfl ⟨Nat.le_of_ble_eq_true rfl, Nat.le_of_ble_eq_true rfl⟩ dX8_fails_73 rfl)) (m_lf_all (o_iret C hr dX8_fails_76))))))))
set_option maxRecDepth 20000 in
def kX8_weave : m_C := m_bt 5 (m_bt 1 (m_lf 0 (s_ald 1 0)) (m_bt 4 (m_lf 1 (s_get 4 8 5)) (m_lf 4 (s_ald 5 0)))) (m_bt 8 (m_lf 5 (s_get 8 8 0)) (m_bt 11 (m_lf 8 (s_callV 11 2 7 wX7_weaveNow)) (m_lf 11 (s_ret))))
theorem kX8_weave_0 : kX8_weave 0 = some (s_ald 1 0) := rfl
theorem kX8_weave_1 : kX8_weave 1 = some (s_get 4 8 5) := rfl
theorem kX8_weave_4 : kX8_weave 4 = some (s_ald 5 0) := rfl
theorem kX8_weave_5 : kX8_weave 5 = some (s_get 8 8 0) := rfl
theorem kX8_weave_8 : kX8_weave 8 = some (s_callV 11 2 7 wX7_weaveNow) := rfl
theorem kX8_weave_11 : kX8_weave 11 = some (s_ret) := rfl
def wX8_weave : m_GK := m_wp 1 kX8_weave
set_option maxRecDepth 100000 in
set_option maxHeartbeats 4000000 in
theorem sX8_weave (l : Launch) (X : m_X) (hX : m_inj X.1) : m_Sound l X 5 yX8_weave cX8_weave 1 (some .int) wX8_weave := m_sound_of hX (by decide) (fun p e s m args below meth c q C hr => m_bt_all (m_bt_all (m_lf_all (o_aload_n C (i := 0) rfl dX8_weave_0 rfl)) (m_bt_all (m_lf_all (o_get C (ci := 8) (k := 5) (N := 11) (rf := RX8) (T := TX8) rfl ginX8 (Nat.le_of_ble_eq_true rfl) (m_tb_of 366 (by decide +kernel) rfl) dX8_weave_1 rfl)) (m_lf_all (o_aload_n C (i := 0) rfl dX8_weave_4 rfl)))) (m_bt_all (m_lf_all (o_get C (ci := 8) (k := 0) (N := 11) (rf := RX8) (T := TX8) rfl ginX8 (Nat.le_of_ble_eq_true rfl) (m_tb_of 361 (by decide +kernel) rfl) dX8_weave_5 rfl)) (m_bt_all (m_lf_all (o_callV C (T := TX7) (N := 3) (sX7_weaveNow l X hX) rfl (m_in_of [823, 824, 825, 79] (by decide +kernel) (by decide +kernel)) (m_tb_of 826 (by decide +kernel) rfl) (by decide +kernel) rfl ⟨Nat.le_of_ble_eq_true rfl, Nat.le_of_ble_eq_true rfl⟩ dX8_weave_8 rfl)) (m_lf_all (o_iret C hr dX8_weave_11)))))
set_option maxRecDepth 20000 in
def kX8_order : m_C := m_bt 29 (m_bt 13 (m_bt 6 (m_bt 2 (m_bt 1 (m_lf 0 (s_ild 1 1)) (m_lf 1 (s_push 2 (.inl (-1))))) (m_bt 5 (m_lf 2 (s_icmp 5 12 (fun x y => y ≤ x))) (m_lf 5 (s_ald 6 0)))) (m_bt 11 (m_bt 8 (m_lf 6 (s_push 8 (.inl (-4)))) (m_lf 8 (s_callV 11 2 8 wX8_refuse))) (m_bt 12 (m_lf 11 (s_ret)) (m_lf 12 (s_ald 13 0))))) (m_bt 23 (m_bt 17 (m_bt 16 (m_lf 13 (s_get 16 8 5)) (m_lf 16 (s_ald 17 0))) (m_bt 20 (m_lf 17 (s_get 20 8 0)) (m_lf 20 (s_callV 23 2 7 wX7_findBest)))) (m_bt 25 (m_bt 24 (m_lf 23 (s_ild 24 1)) (m_lf 24 (s_push 25 (.inl (-1))))) (m_bt 28 (m_lf 25 (s_icmp 28 36 (fun x y => ¬ x = y))) (m_lf 28 (s_ald 29 0)))))) (m_bt 47 (m_bt 37 (m_bt 35 (m_bt 32 (m_lf 29 (s_get 32 8 5)) (m_lf 32 (s_get 35 7 1))) (m_bt 36 (m_lf 35 (s_ret)) (m_lf 36 (s_ald 37 0)))) (m_bt 41 (m_bt 40 (m_lf 37 (s_get 40 8 0)) (m_lf 40 (s_ild 41 1))) (m_bt 44 (m_lf 41 (s_callV 44 2 2 wX2_hasLane)) (m_lf 44 (s_if 47 59 (fun x => x = 0)))))) (m_bt 55 (m_bt 51 (m_bt 48 (m_lf 47 (s_ald 48 0)) (m_lf 48 (s_get 51 8 5))) (m_bt 54 (m_lf 51 (s_get 54 7 0)) (m_lf 54 (s_ild 55 1)))) (m_bt 59 (m_bt 56 (m_lf 55 (s_iald 56)) (m_lf 56 (s_goto 61))) (m_bt 61 (m_lf 59 (s_push 61 (.inl (-9)))) (m_lf 61 (s_ret))))))
theorem kX8_order_0 : kX8_order 0 = some (s_ild 1 1) := rfl
theorem kX8_order_1 : kX8_order 1 = some (s_push 2 (.inl (-1))) := rfl
theorem kX8_order_2 : kX8_order 2 = some (s_icmp 5 12 (fun x y => y ≤ x)) := rfl
theorem kX8_order_5 : kX8_order 5 = some (s_ald 6 0) := rfl
theorem kX8_order_6 : kX8_order 6 = some (s_push 8 (.inl (-4))) := rfl
theorem kX8_order_8 : kX8_order 8 = some (s_callV 11 2 8 wX8_refuse) := rfl
theorem kX8_order_11 : kX8_order 11 = some (s_ret) := rfl
theorem kX8_order_12 : kX8_order 12 = some (s_ald 13 0) := rfl
theorem kX8_order_13 : kX8_order 13 = some (s_get 16 8 5) := rfl
theorem kX8_order_16 : kX8_order 16 = some (s_ald 17 0) := rfl
theorem kX8_order_17 : kX8_order 17 = some (s_get 20 8 0) := rfl
theorem kX8_order_20 : kX8_order 20 = some (s_callV 23 2 7 wX7_findBest) := rfl
theorem kX8_order_23 : kX8_order 23 = some (s_ild 24 1) := rfl
theorem kX8_order_24 : kX8_order 24 = some (s_push 25 (.inl (-1))) := rfl
theorem kX8_order_25 : kX8_order 25 = some (s_icmp 28 36 (fun x y => ¬ x = y)) := rfl
theorem kX8_order_28 : kX8_order 28 = some (s_ald 29 0) := rfl
theorem kX8_order_29 : kX8_order 29 = some (s_get 32 8 5) := rfl
theorem kX8_order_32 : kX8_order 32 = some (s_get 35 7 1) := rfl
theorem kX8_order_35 : kX8_order 35 = some (s_ret) := rfl
theorem kX8_order_36 : kX8_order 36 = some (s_ald 37 0) := rfl
theorem kX8_order_37 : kX8_order 37 = some (s_get 40 8 0) := rfl
theorem kX8_order_40 : kX8_order 40 = some (s_ild 41 1) := rfl
theorem kX8_order_41 : kX8_order 41 = some (s_callV 44 2 2 wX2_hasLane) := rfl
theorem kX8_order_44 : kX8_order 44 = some (s_if 47 59 (fun x => x = 0)) := rfl
theorem kX8_order_47 : kX8_order 47 = some (s_ald 48 0) := rfl
theorem kX8_order_48 : kX8_order 48 = some (s_get 51 8 5) := rfl
theorem kX8_order_51 : kX8_order 51 = some (s_get 54 7 0) := rfl
theorem kX8_order_54 : kX8_order 54 = some (s_ild 55 1) := rfl
theorem kX8_order_55 : kX8_order 55 = some (s_iald 56) := rfl
theorem kX8_order_56 : kX8_order 56 = some (s_goto 61) := rfl
theorem kX8_order_59 : kX8_order 59 = some (s_push 61 (.inl (-9))) := rfl
theorem kX8_order_61 : kX8_order 61 = some (s_ret) := rfl
def wX8_order : m_GK := m_wp 2 kX8_order
set_option maxRecDepth 100000 in
set_option maxHeartbeats 4000000 in
theorem sX8_order (l : Launch) (X : m_X) (hX : m_inj X.1) : m_Sound l X 5 yX8_order cX8_order 2 (some .int) wX8_order := m_sound_of hX (by decide) (fun p e s m args below meth c q C hr => m_bt_all (m_bt_all (m_bt_all (m_bt_all (m_bt_all (m_lf_all (o_iload_n C (i := 1) rfl dX8_order_0 rfl)) (m_lf_all (o_iconst C (x := (-1)) (m_rngd rfl) dX8_order_1 rfl))) (m_bt_all (m_lf_all (o_icmp_ge C dX8_order_2 rfl rfl)) (m_lf_all (o_aload_n C (i := 0) rfl dX8_order_5 rfl)))) (m_bt_all (m_bt_all (m_lf_all (o_bipush C (x := (-4)) (m_rngd rfl) rfl dX8_order_6 rfl)) (m_lf_all (o_callV C (T := TX8) (N := 11) (sX8_refuse l X hX) rfl (m_in_of [399, 401, 0, 72] (by decide +kernel) (by decide +kernel)) (m_tb_of 402 (by decide +kernel) rfl) (by decide +kernel) rfl ⟨Nat.le_of_ble_eq_true rfl, Nat.le_of_ble_eq_true rfl⟩ dX8_order_8 rfl))) (m_bt_all (m_lf_all (o_iret C hr dX8_order_11)) (m_lf_all (o_aload_n C (i := 0) rfl dX8_order_12 rfl))))) (m_bt_all (m_bt_all (m_bt_all (m_lf_all (o_get C (ci := 8) (k := 5) (N := 11) (rf := RX8) (T := TX8) rfl ginX8 (Nat.le_of_ble_eq_true rfl) (m_tb_of 366 (by decide +kernel) rfl) dX8_order_13 rfl)) (m_lf_all (o_aload_n C (i := 0) rfl dX8_order_16 rfl))) (m_bt_all (m_lf_all (o_get C (ci := 8) (k := 0) (N := 11) (rf := RX8) (T := TX8) rfl ginX8 (Nat.le_of_ble_eq_true rfl) (m_tb_of 361 (by decide +kernel) rfl) dX8_order_17 rfl)) (m_lf_all (o_callV C (T := TX7) (N := 3) (sX7_findBest l X hX) rfl (m_in_of [841, 842, 843, 79] (by decide +kernel) (by decide +kernel)) (m_tb_of 844 (by decide +kernel) rfl) (by decide +kernel) rfl ⟨Nat.le_of_ble_eq_true rfl, Nat.le_of_ble_eq_true rfl⟩ dX8_order_20 rfl)))) (m_bt_all (m_bt_all (m_lf_all (o_iload_n C (i := 1) rfl dX8_order_23 rfl)) (m_lf_all (o_iconst C (x := (-1)) (m_rngd rfl) dX8_order_24 rfl))) (m_bt_all (m_lf_all (o_icmp_ne C dX8_order_25 rfl rfl)) (m_lf_all (o_aload_n C (i := 0) rfl dX8_order_28 rfl)))))) (m_bt_all (m_bt_all (m_bt_all (m_bt_all (m_lf_all (o_get C (ci := 8) (k := 5) (N := 11) (rf := RX8) (T := TX8) rfl ginX8 (Nat.le_of_ble_eq_true rfl) (m_tb_of 366 (by decide +kernel) rfl) dX8_order_29 rfl)) (m_lf_all (o_get C (ci := 7) (k := 1) (N := 3) (rf := RX7) (T := TX7) rfl ginX7 (Nat.le_of_ble_eq_true rfl) (m_tb_of 341 (by decide +kernel) rfl) dX8_order_32 rfl))) (m_bt_all (m_lf_all (o_iret C hr dX8_order_35)) (m_lf_all (o_aload_n C (i := 0) rfl dX8_order_36 rfl)))) (m_bt_all (m_bt_all (m_lf_all (o_get C (ci := 8) (k := 0) (N := 11) (rf := RX8) (T := TX8) rfl ginX8 (Nat.le_of_ble_eq_true rfl) (m_tb_of 361 (by decide +kernel) rfl) dX8_order_37 rfl)) (m_lf_all (o_iload_n C (i := 1) rfl dX8_order_40 rfl))) (m_bt_all (m_lf_all (o_callV C (T := TX2) (N := 8) (sX2_hasLane l X hX) rfl (m_in_of [566, 545, 546, 73] (by decide +kernel) (by decide +kernel)) (m_tb_of 547 (by decide +kernel) rfl) (by decide +kernel) rfl ⟨Nat.le_of_ble_eq_true rfl, Nat.le_of_ble_eq_true rfl⟩ dX8_order_41 rfl)) (m_lf_all (o_if_eq C dX8_order_44 rfl rfl))))) (m_bt_all (m_bt_all (m_bt_all (m_lf_all (o_aload_n C (i := 0) rfl dX8_order_47 rfl)) (m_lf_all (o_get C (ci := 8) (k := 5) (N := 11) (rf := RX8) (T := TX8) rfl ginX8 (Nat.le_of_ble_eq_true rfl) (m_tb_of 366 (by decide +kernel) rfl) dX8_order_48 rfl))) (m_bt_all (m_lf_all (o_get C (ci := 7) (k := 0) (N := 3) (rf := RX7) (T := TX7) rfl ginX7 (Nat.le_of_ble_eq_true rfl) (m_tb_of 339 (by decide +kernel) rfl) dX8_order_51 rfl)) (m_lf_all (o_iload_n C (i := 1) rfl dX8_order_54 rfl)))) (m_bt_all (m_bt_all (m_lf_all (o_iald C dX8_order_55 rfl)) (m_lf_all (o_goto C dX8_order_56 rfl))) (m_bt_all (m_lf_all (o_bipush C (x := (-9)) (m_rngd rfl) rfl dX8_order_59 rfl)) (m_lf_all (o_iret C hr dX8_order_61)))))))
set_option maxRecDepth 20000 in
def kX8_rests : m_C := m_bt 18 (m_bt 11 (m_bt 4 (m_bt 1 (m_lf 0 (s_ald 1 0)) (m_lf 1 (s_get 4 8 0))) (m_bt 5 (m_lf 4 (s_ild 5 1)) (m_bt 8 (m_lf 5 (s_callV 8 2 2 wX2_hasSort)) (m_lf 8 (s_if 11 17 (fun x => ¬ x = 0)))))) (m_bt 13 (m_bt 12 (m_lf 11 (s_ald 12 0)) (m_lf 12 (s_push 13 (.inl (-1))))) (m_bt 16 (m_lf 13 (s_callV 16 2 8 wX8_refuse)) (m_bt 17 (m_lf 16 (s_ret)) (m_lf 17 (s_ald 18 0)))))) (m_bt 29 (m_bt 22 (m_bt 21 (m_lf 18 (s_get 21 8 6)) (m_lf 21 (s_ald 22 0))) (m_bt 25 (m_lf 22 (s_get 25 8 0)) (m_bt 28 (m_lf 25 (s_callV 28 2 5 wX5_settle)) (m_lf 28 (s_ald 29 0))))) (m_bt 35 (m_bt 32 (m_lf 29 (s_get 32 8 6)) (m_lf 32 (s_get 35 5 0))) (m_bt 36 (m_lf 35 (s_ild 36 1)) (m_bt 37 (m_lf 36 (s_iald 37)) (m_lf 37 (s_ret))))))
theorem kX8_rests_0 : kX8_rests 0 = some (s_ald 1 0) := rfl
theorem kX8_rests_1 : kX8_rests 1 = some (s_get 4 8 0) := rfl
theorem kX8_rests_4 : kX8_rests 4 = some (s_ild 5 1) := rfl
theorem kX8_rests_5 : kX8_rests 5 = some (s_callV 8 2 2 wX2_hasSort) := rfl
theorem kX8_rests_8 : kX8_rests 8 = some (s_if 11 17 (fun x => ¬ x = 0)) := rfl
theorem kX8_rests_11 : kX8_rests 11 = some (s_ald 12 0) := rfl
theorem kX8_rests_12 : kX8_rests 12 = some (s_push 13 (.inl (-1))) := rfl
theorem kX8_rests_13 : kX8_rests 13 = some (s_callV 16 2 8 wX8_refuse) := rfl
theorem kX8_rests_16 : kX8_rests 16 = some (s_ret) := rfl
theorem kX8_rests_17 : kX8_rests 17 = some (s_ald 18 0) := rfl
theorem kX8_rests_18 : kX8_rests 18 = some (s_get 21 8 6) := rfl
theorem kX8_rests_21 : kX8_rests 21 = some (s_ald 22 0) := rfl
theorem kX8_rests_22 : kX8_rests 22 = some (s_get 25 8 0) := rfl
theorem kX8_rests_25 : kX8_rests 25 = some (s_callV 28 2 5 wX5_settle) := rfl
theorem kX8_rests_28 : kX8_rests 28 = some (s_ald 29 0) := rfl
theorem kX8_rests_29 : kX8_rests 29 = some (s_get 32 8 6) := rfl
theorem kX8_rests_32 : kX8_rests 32 = some (s_get 35 5 0) := rfl
theorem kX8_rests_35 : kX8_rests 35 = some (s_ild 36 1) := rfl
theorem kX8_rests_36 : kX8_rests 36 = some (s_iald 37) := rfl
theorem kX8_rests_37 : kX8_rests 37 = some (s_ret) := rfl
def wX8_rests : m_GK := m_wp 2 kX8_rests
set_option maxRecDepth 100000 in
set_option maxHeartbeats 4000000 in
theorem sX8_rests (l : Launch) (X : m_X) (hX : m_inj X.1) : m_Sound l X 7 yX8_rests cX8_rests 2 (some .int) wX8_rests := m_sound_of hX (by decide) (fun p e s m args below meth c q C hr => m_bt_all (m_bt_all (m_bt_all (m_bt_all (m_lf_all (o_aload_n C (i := 0) rfl dX8_rests_0 rfl)) (m_lf_all (o_get C (ci := 8) (k := 0) (N := 11) (rf := RX8) (T := TX8) rfl ginX8 (Nat.le_of_ble_eq_true rfl) (m_tb_of 361 (by decide +kernel) rfl) dX8_rests_1 rfl))) (m_bt_all (m_lf_all (o_iload_n C (i := 1) rfl dX8_rests_4 rfl)) (m_bt_all (m_lf_all (o_callV C (T := TX2) (N := 8) (sX2_hasSort l X hX) rfl (m_in_of [557, 533, 534, 73] (by decide +kernel) (by decide +kernel)) (m_tb_of 535 (by decide +kernel) rfl) (by decide +kernel) rfl ⟨Nat.le_of_ble_eq_true rfl, Nat.le_of_ble_eq_true rfl⟩ dX8_rests_5 rfl)) (m_lf_all (o_if_ne C dX8_rests_8 rfl rfl))))) (m_bt_all (m_bt_all (m_lf_all (o_aload_n C (i := 0) rfl dX8_rests_11 rfl)) (m_lf_all (o_iconst C (x := (-1)) (m_rngd rfl) dX8_rests_12 rfl))) (m_bt_all (m_lf_all (o_callV C (T := TX8) (N := 11) (sX8_refuse l X hX) rfl (m_in_of [399, 401, 0, 72] (by decide +kernel) (by decide +kernel)) (m_tb_of 402 (by decide +kernel) rfl) (by decide +kernel) rfl ⟨Nat.le_of_ble_eq_true rfl, Nat.le_of_ble_eq_true rfl⟩ dX8_rests_13 rfl)) (m_bt_all (m_lf_all (o_iret C hr dX8_rests_16)) (m_lf_all (o_aload_n C (i := 0) rfl dX8_rests_17 rfl)))))) (m_bt_all (m_bt_all (m_bt_all (m_lf_all (o_get C (ci := 8) (k := 6) (N := 11) (rf := RX8) (T := TX8) rfl ginX8 (Nat.le_of_ble_eq_true rfl) (m_tb_of 367 (by decide +kernel) rfl) dX8_rests_18 rfl)) (m_lf_all (o_aload_n C (i := 0) rfl dX8_rests_21 rfl))) (m_bt_all (m_lf_all (o_get C (ci := 8) (k := 0) (N := 11) (rf := RX8) (T := TX8) rfl ginX8 (Nat.le_of_ble_eq_true rfl) (m_tb_of 361 (by decide +kernel) rfl) dX8_rests_22 rfl)) (m_bt_all (m_lf_all (o_callV C (T := TX5) (N := 1) (sX5_settle l X hX) rfl (m_in_of [862, 863, 864, 80] (by decide +kernel) (by decide +kernel)) (m_tb_of 865 (by decide +kernel) rfl) (by decide +kernel) rfl ⟨Nat.le_of_ble_eq_true rfl, Nat.le_of_ble_eq_true rfl⟩ dX8_rests_25 rfl)) (m_lf_all (o_aload_n C (i := 0) rfl dX8_rests_28 rfl))))) (m_bt_all (m_bt_all (m_lf_all (o_get C (ci := 8) (k := 6) (N := 11) (rf := RX8) (T := TX8) rfl ginX8 (Nat.le_of_ble_eq_true rfl) (m_tb_of 367 (by decide +kernel) rfl) dX8_rests_29 rfl)) (m_lf_all (o_get C (ci := 5) (k := 0) (N := 1) (rf := RX5) (T := TX5) rfl ginX5 (Nat.le_of_ble_eq_true rfl) (m_tb_of 357 (by decide +kernel) rfl) dX8_rests_32 rfl))) (m_bt_all (m_lf_all (o_iload_n C (i := 1) rfl dX8_rests_35 rfl)) (m_bt_all (m_lf_all (o_iald C dX8_rests_36 rfl)) (m_lf_all (o_iret C hr dX8_rests_37)))))))
set_option maxRecDepth 20000 in
def kX8_row : m_C := m_bt 32 (m_bt 15 (m_bt 7 (m_bt 4 (m_bt 1 (m_lf 0 (s_ild 1 1)) (m_lf 1 (s_if 4 11 (fun x => 0 ≤ x)))) (m_bt 5 (m_lf 4 (s_ald 5 0)) (m_lf 5 (s_push 7 (.inl (-4)))))) (m_bt 11 (m_bt 10 (m_lf 7 (s_callV 10 2 8 wX8_refuse)) (m_lf 10 (s_ret))) (m_bt 12 (m_lf 11 (s_ild 12 1)) (m_lf 12 (s_push 15 (.inl (32767))))))) (m_bt 23 (m_bt 19 (m_bt 18 (m_lf 15 (s_icmp 18 26 (fun x y => y < x))) (m_lf 18 (s_ald 19 0))) (m_bt 22 (m_lf 19 (s_get 22 8 9)) (m_lf 22 (s_push 23 (.inl (5)))))) (m_bt 27 (m_bt 26 (m_lf 23 (s_icmp 26 33 (fun x y => x < y))) (m_lf 26 (s_ald 27 0))) (m_bt 29 (m_lf 27 (s_push 29 (.inl (-6)))) (m_lf 29 (s_callV 32 2 8 wX8_refuse)))))) (m_bt 44 (m_bt 38 (m_bt 34 (m_bt 33 (m_lf 32 (s_ret)) (m_lf 33 (s_ald 34 0))) (m_bt 37 (m_lf 34 (s_get 37 8 7)) (m_lf 37 (s_ald 38 0)))) (m_bt 42 (m_bt 41 (m_lf 38 (s_get 41 8 9)) (m_lf 41 (s_ild 42 1))) (m_bt 43 (m_lf 42 (s_iast 43)) (m_lf 43 (s_ald 44 0))))) (m_bt 50 (m_bt 48 (m_bt 45 (m_lf 44 (s_dup 45)) (m_lf 45 (s_get 48 8 9))) (m_bt 49 (m_lf 48 (s_push 49 (.inl (1)))) (m_lf 49 (s_bin 50 (fun x y => m_wrap (x + y)))))) (m_bt 54 (m_bt 53 (m_lf 50 (s_put 53 8 9)) (m_lf 53 (s_ald 54 0))) (m_bt 57 (m_lf 54 (s_get 57 8 9)) (m_lf 57 (s_ret))))))
theorem kX8_row_0 : kX8_row 0 = some (s_ild 1 1) := rfl
theorem kX8_row_1 : kX8_row 1 = some (s_if 4 11 (fun x => 0 ≤ x)) := rfl
theorem kX8_row_4 : kX8_row 4 = some (s_ald 5 0) := rfl
theorem kX8_row_5 : kX8_row 5 = some (s_push 7 (.inl (-4))) := rfl
theorem kX8_row_7 : kX8_row 7 = some (s_callV 10 2 8 wX8_refuse) := rfl
theorem kX8_row_10 : kX8_row 10 = some (s_ret) := rfl
theorem kX8_row_11 : kX8_row 11 = some (s_ild 12 1) := rfl
theorem kX8_row_12 : kX8_row 12 = some (s_push 15 (.inl (32767))) := rfl
theorem kX8_row_15 : kX8_row 15 = some (s_icmp 18 26 (fun x y => y < x)) := rfl
theorem kX8_row_18 : kX8_row 18 = some (s_ald 19 0) := rfl
theorem kX8_row_19 : kX8_row 19 = some (s_get 22 8 9) := rfl
theorem kX8_row_22 : kX8_row 22 = some (s_push 23 (.inl (5))) := rfl
theorem kX8_row_23 : kX8_row 23 = some (s_icmp 26 33 (fun x y => x < y)) := rfl
theorem kX8_row_26 : kX8_row 26 = some (s_ald 27 0) := rfl
theorem kX8_row_27 : kX8_row 27 = some (s_push 29 (.inl (-6))) := rfl
theorem kX8_row_29 : kX8_row 29 = some (s_callV 32 2 8 wX8_refuse) := rfl
theorem kX8_row_32 : kX8_row 32 = some (s_ret) := rfl
theorem kX8_row_33 : kX8_row 33 = some (s_ald 34 0) := rfl
theorem kX8_row_34 : kX8_row 34 = some (s_get 37 8 7) := rfl
theorem kX8_row_37 : kX8_row 37 = some (s_ald 38 0) := rfl
theorem kX8_row_38 : kX8_row 38 = some (s_get 41 8 9) := rfl
theorem kX8_row_41 : kX8_row 41 = some (s_ild 42 1) := rfl
theorem kX8_row_42 : kX8_row 42 = some (s_iast 43) := rfl
theorem kX8_row_43 : kX8_row 43 = some (s_ald 44 0) := rfl
theorem kX8_row_44 : kX8_row 44 = some (s_dup 45) := rfl
theorem kX8_row_45 : kX8_row 45 = some (s_get 48 8 9) := rfl
theorem kX8_row_48 : kX8_row 48 = some (s_push 49 (.inl (1))) := rfl
theorem kX8_row_49 : kX8_row 49 = some (s_bin 50 (fun x y => m_wrap (x + y))) := rfl
theorem kX8_row_50 : kX8_row 50 = some (s_put 53 8 9) := rfl
theorem kX8_row_53 : kX8_row 53 = some (s_ald 54 0) := rfl
theorem kX8_row_54 : kX8_row 54 = some (s_get 57 8 9) := rfl
theorem kX8_row_57 : kX8_row 57 = some (s_ret) := rfl
def wX8_row : m_GK := m_wp 2 kX8_row
set_option maxRecDepth 100000 in
set_option maxHeartbeats 4000000 in
theorem sX8_row (l : Launch) (X : m_X) (hX : m_inj X.1) : m_Sound l X 2 yX8_row cX8_row 2 (some .int) wX8_row := m_sound_of hX (by decide) (fun p e s m args below meth c q C hr => m_bt_all (m_bt_all (m_bt_all (m_bt_all (m_bt_all (m_lf_all (o_iload_n C (i := 1) rfl dX8_row_0 rfl)) (m_lf_all (o_if_ge C dX8_row_1 rfl rfl))) (m_bt_all (m_lf_all (o_aload_n C (i := 0) rfl dX8_row_4 rfl)) (m_lf_all (o_bipush C (x := (-4)) (m_rngd rfl) rfl dX8_row_5 rfl)))) (m_bt_all (m_bt_all (m_lf_all (o_callV C (T := TX8) (N := 11) (sX8_refuse l X hX) rfl (m_in_of [399, 401, 0, 72] (by decide +kernel) (by decide +kernel)) (m_tb_of 402 (by decide +kernel) rfl) (by decide +kernel) rfl ⟨Nat.le_of_ble_eq_true rfl, Nat.le_of_ble_eq_true rfl⟩ dX8_row_7 rfl)) (m_lf_all (o_iret C hr dX8_row_10))) (m_bt_all (m_lf_all (o_iload_n C (i := 1) rfl dX8_row_11 rfl)) (m_lf_all (o_sipush C (x := (32767)) (m_rngd rfl) rfl dX8_row_12 rfl))))) (m_bt_all (m_bt_all (m_bt_all (m_lf_all (o_icmp_gt C dX8_row_15 rfl rfl)) (m_lf_all (o_aload_n C (i := 0) rfl dX8_row_18 rfl))) (m_bt_all (m_lf_all (o_get C (ci := 8) (k := 9) (N := 11) (rf := RX8) (T := TX8) rfl ginX8 (Nat.le_of_ble_eq_true rfl) (m_tb_of 370 (by decide +kernel) rfl) dX8_row_19 rfl)) (m_lf_all (o_iconst C (x := (5)) (m_rngd rfl) dX8_row_22 rfl)))) (m_bt_all (m_bt_all (m_lf_all (o_icmp_lt C dX8_row_23 rfl rfl)) (m_lf_all (o_aload_n C (i := 0) rfl dX8_row_26 rfl))) (m_bt_all (m_lf_all (o_bipush C (x := (-6)) (m_rngd rfl) rfl dX8_row_27 rfl)) (m_lf_all (o_callV C (T := TX8) (N := 11) (sX8_refuse l X hX) rfl (m_in_of [399, 401, 0, 72] (by decide +kernel) (by decide +kernel)) (m_tb_of 402 (by decide +kernel) rfl) (by decide +kernel) rfl ⟨Nat.le_of_ble_eq_true rfl, Nat.le_of_ble_eq_true rfl⟩ dX8_row_29 rfl)))))) (m_bt_all (m_bt_all (m_bt_all (m_bt_all (m_lf_all (o_iret C hr dX8_row_32)) (m_lf_all (o_aload_n C (i := 0) rfl dX8_row_33 rfl))) (m_bt_all (m_lf_all (o_get C (ci := 8) (k := 7) (N := 11) (rf := RX8) (T := TX8) rfl ginX8 (Nat.le_of_ble_eq_true rfl) (m_tb_of 368 (by decide +kernel) rfl) dX8_row_34 rfl)) (m_lf_all (o_aload_n C (i := 0) rfl dX8_row_37 rfl)))) (m_bt_all (m_bt_all (m_lf_all (o_get C (ci := 8) (k := 9) (N := 11) (rf := RX8) (T := TX8) rfl ginX8 (Nat.le_of_ble_eq_true rfl) (m_tb_of 370 (by decide +kernel) rfl) dX8_row_38 rfl)) (m_lf_all (o_iload_n C (i := 1) rfl dX8_row_41 rfl))) (m_bt_all (m_lf_all (o_iast C dX8_row_42 rfl)) (m_lf_all (o_aload_n C (i := 0) rfl dX8_row_43 rfl))))) (m_bt_all (m_bt_all (m_bt_all (m_lf_all (o_dup C dX8_row_44 rfl)) (m_lf_all (o_get C (ci := 8) (k := 9) (N := 11) (rf := RX8) (T := TX8) rfl ginX8 (Nat.le_of_ble_eq_true rfl) (m_tb_of 370 (by decide +kernel) rfl) dX8_row_45 rfl))) (m_bt_all (m_lf_all (o_iconst C (x := (1)) (m_rngd rfl) dX8_row_48 rfl)) (m_lf_all (o_iadd C dX8_row_49 rfl)))) (m_bt_all (m_bt_all (m_lf_all (o_put C (ci := 8) (k := 9) (N := 11) (rf := RX8) (T := TX8) rfl ginX8 (Nat.le_of_ble_eq_true rfl) (m_tb_of 370 (by decide +kernel) rfl) (ty0 := tyX8) tyX8_ok nmX8 rfl rfl dX8_row_50 rfl)) (m_lf_all (o_aload_n C (i := 0) rfl dX8_row_53 rfl))) (m_bt_all (m_lf_all (o_get C (ci := 8) (k := 9) (N := 11) (rf := RX8) (T := TX8) rfl ginX8 (Nat.le_of_ble_eq_true rfl) (m_tb_of 370 (by decide +kernel) rfl) dX8_row_54 rfl)) (m_lf_all (o_iret C hr dX8_row_57)))))))
set_option maxRecDepth 20000 in
def kX8_judge : m_C := m_bt 40 (m_bt 21 (m_bt 7 (m_bt 4 (m_bt 1 (m_lf 0 (s_ald 1 0)) (m_lf 1 (s_get 4 8 9))) (m_bt 5 (m_lf 4 (s_ist 5 1)) (m_bt 6 (m_lf 5 (s_ald 6 0)) (m_lf 6 (s_push 7 (.inl (0))))))) (m_bt 12 (m_bt 10 (m_lf 7 (s_put 10 8 9)) (m_bt 11 (m_lf 10 (s_ild 11 1)) (m_lf 11 (s_ald 12 0)))) (m_bt 15 (m_lf 12 (s_get 15 8 0)) (m_bt 18 (m_lf 15 (s_get 18 2 0)) (m_lf 18 (s_min 21)))))) (m_bt 30 (m_bt 23 (m_bt 22 (m_lf 21 (s_ist 22 2)) (m_lf 22 (s_ald 23 0))) (m_bt 26 (m_lf 23 (s_get 26 8 3)) (m_bt 27 (m_lf 26 (s_ald 27 0)) (m_lf 27 (s_get 30 8 0))))) (m_bt 35 (m_bt 33 (m_lf 30 (s_callV 33 2 1 wX1_run)) (m_bt 34 (m_lf 33 (s_push 34 (.inl (0)))) (m_lf 34 (s_ist 35 3)))) (m_bt 36 (m_lf 35 (s_ild 36 3)) (m_bt 37 (m_lf 36 (s_ild 37 2)) (m_lf 37 (s_icmp 40 65 (fun x y => y ≤ x)))))))) (m_bt 59 (m_bt 47 (m_bt 44 (m_bt 41 (m_lf 40 (s_ald 41 0)) (m_lf 41 (s_get 44 8 7))) (m_bt 45 (m_lf 44 (s_ild 45 3)) (m_bt 46 (m_lf 45 (s_iald 46)) (m_lf 46 (s_ald 47 0))))) (m_bt 54 (m_bt 50 (m_lf 47 (s_get 50 8 3)) (m_bt 51 (m_lf 50 (s_ild 51 3)) (m_lf 51 (s_callV 54 2 1 wX1_meanOf)))) (m_bt 57 (m_lf 54 (s_icmp 57 59 (fun x y => x = y))) (m_bt 58 (m_lf 57 (s_ild 58 3)) (m_lf 58 (s_ret)))))) (m_bt 70 (m_bt 65 (m_bt 62 (m_lf 59 (s_inc 62 3 (1))) (m_lf 62 (s_goto 35))) (m_bt 66 (m_lf 65 (s_ild 66 1)) (m_bt 67 (m_lf 66 (s_ald 67 0)) (m_lf 67 (s_get 70 8 0))))) (m_bt 78 (m_bt 73 (m_lf 70 (s_get 73 2 0)) (m_bt 76 (m_lf 73 (s_icmp 76 81 (fun x y => ¬ x = y))) (m_lf 76 (s_push 78 (.inl (-9)))))) (m_bt 81 (m_lf 78 (s_goto 82)) (m_bt 82 (m_lf 81 (s_ild 82 2)) (m_lf 82 (s_ret)))))))
theorem kX8_judge_0 : kX8_judge 0 = some (s_ald 1 0) := rfl
theorem kX8_judge_1 : kX8_judge 1 = some (s_get 4 8 9) := rfl
theorem kX8_judge_4 : kX8_judge 4 = some (s_ist 5 1) := rfl
theorem kX8_judge_5 : kX8_judge 5 = some (s_ald 6 0) := rfl
theorem kX8_judge_6 : kX8_judge 6 = some (s_push 7 (.inl (0))) := rfl
theorem kX8_judge_7 : kX8_judge 7 = some (s_put 10 8 9) := rfl
theorem kX8_judge_10 : kX8_judge 10 = some (s_ild 11 1) := rfl
theorem kX8_judge_11 : kX8_judge 11 = some (s_ald 12 0) := rfl
theorem kX8_judge_12 : kX8_judge 12 = some (s_get 15 8 0) := rfl
theorem kX8_judge_15 : kX8_judge 15 = some (s_get 18 2 0) := rfl
theorem kX8_judge_18 : kX8_judge 18 = some (s_min 21) := rfl
theorem kX8_judge_21 : kX8_judge 21 = some (s_ist 22 2) := rfl
theorem kX8_judge_22 : kX8_judge 22 = some (s_ald 23 0) := rfl
theorem kX8_judge_23 : kX8_judge 23 = some (s_get 26 8 3) := rfl
theorem kX8_judge_26 : kX8_judge 26 = some (s_ald 27 0) := rfl
theorem kX8_judge_27 : kX8_judge 27 = some (s_get 30 8 0) := rfl
theorem kX8_judge_30 : kX8_judge 30 = some (s_callV 33 2 1 wX1_run) := rfl
theorem kX8_judge_33 : kX8_judge 33 = some (s_push 34 (.inl (0))) := rfl
theorem kX8_judge_34 : kX8_judge 34 = some (s_ist 35 3) := rfl
theorem kX8_judge_35 : kX8_judge 35 = some (s_ild 36 3) := rfl
theorem kX8_judge_36 : kX8_judge 36 = some (s_ild 37 2) := rfl
theorem kX8_judge_37 : kX8_judge 37 = some (s_icmp 40 65 (fun x y => y ≤ x)) := rfl
theorem kX8_judge_40 : kX8_judge 40 = some (s_ald 41 0) := rfl
theorem kX8_judge_41 : kX8_judge 41 = some (s_get 44 8 7) := rfl
theorem kX8_judge_44 : kX8_judge 44 = some (s_ild 45 3) := rfl
theorem kX8_judge_45 : kX8_judge 45 = some (s_iald 46) := rfl
theorem kX8_judge_46 : kX8_judge 46 = some (s_ald 47 0) := rfl
theorem kX8_judge_47 : kX8_judge 47 = some (s_get 50 8 3) := rfl
theorem kX8_judge_50 : kX8_judge 50 = some (s_ild 51 3) := rfl
theorem kX8_judge_51 : kX8_judge 51 = some (s_callV 54 2 1 wX1_meanOf) := rfl
theorem kX8_judge_54 : kX8_judge 54 = some (s_icmp 57 59 (fun x y => x = y)) := rfl
theorem kX8_judge_57 : kX8_judge 57 = some (s_ild 58 3) := rfl
theorem kX8_judge_58 : kX8_judge 58 = some (s_ret) := rfl
theorem kX8_judge_59 : kX8_judge 59 = some (s_inc 62 3 (1)) := rfl
theorem kX8_judge_62 : kX8_judge 62 = some (s_goto 35) := rfl
theorem kX8_judge_65 : kX8_judge 65 = some (s_ild 66 1) := rfl
theorem kX8_judge_66 : kX8_judge 66 = some (s_ald 67 0) := rfl
theorem kX8_judge_67 : kX8_judge 67 = some (s_get 70 8 0) := rfl
theorem kX8_judge_70 : kX8_judge 70 = some (s_get 73 2 0) := rfl
theorem kX8_judge_73 : kX8_judge 73 = some (s_icmp 76 81 (fun x y => ¬ x = y)) := rfl
theorem kX8_judge_76 : kX8_judge 76 = some (s_push 78 (.inl (-9))) := rfl
theorem kX8_judge_78 : kX8_judge 78 = some (s_goto 82) := rfl
theorem kX8_judge_81 : kX8_judge 81 = some (s_ild 82 2) := rfl
theorem kX8_judge_82 : kX8_judge 82 = some (s_ret) := rfl
def wX8_judge : m_GK := m_wp 4 kX8_judge
set_option maxRecDepth 100000 in
set_option maxHeartbeats 4000000 in
theorem sX8_judge (l : Launch) (X : m_X) (hX : m_inj X.1) : m_Sound l X 6 yX8_judge cX8_judge 4 (some .int) wX8_judge := m_sound_of hX (by decide) (fun p e s m args below meth c q C hr => m_bt_all (m_bt_all (m_bt_all (m_bt_all (m_bt_all (m_lf_all (o_aload_n C (i := 0) rfl dX8_judge_0 rfl)) (m_lf_all (o_get C (ci := 8) (k := 9) (N := 11) (rf := RX8) (T := TX8) rfl ginX8 (Nat.le_of_ble_eq_true rfl) (m_tb_of 370 (by decide +kernel) rfl) dX8_judge_1 rfl))) (m_bt_all (m_lf_all (o_istore_n C (i := 1) rfl dX8_judge_4 rfl)) (m_bt_all (m_lf_all (o_aload_n C (i := 0) rfl dX8_judge_5 rfl)) (m_lf_all (o_iconst C (x := (0)) (m_rngd rfl) dX8_judge_6 rfl))))) (m_bt_all (m_bt_all (m_lf_all (o_put C (ci := 8) (k := 9) (N := 11) (rf := RX8) (T := TX8) rfl ginX8 (Nat.le_of_ble_eq_true rfl) (m_tb_of 370 (by decide +kernel) rfl) (ty0 := tyX8) tyX8_ok nmX8 rfl rfl dX8_judge_7 rfl)) (m_bt_all (m_lf_all (o_iload_n C (i := 1) rfl dX8_judge_10 rfl)) (m_lf_all (o_aload_n C (i := 0) rfl dX8_judge_11 rfl)))) (m_bt_all (m_lf_all (o_get C (ci := 8) (k := 0) (N := 11) (rf := RX8) (T := TX8) rfl ginX8 (Nat.le_of_ble_eq_true rfl) (m_tb_of 361 (by decide +kernel) rfl) dX8_judge_12 rfl)) (m_bt_all (m_lf_all (o_get C (ci := 2) (k := 0) (N := 8) (rf := RX2) (T := TX2) rfl ginX2 (Nat.le_of_ble_eq_true rfl) (m_tb_of 109 (by decide +kernel) rfl) dX8_judge_15 rfl)) (m_lf_all (o_min C (m_tb_of 892 (by decide +kernel) rfl) (m_tb_of 615 (by decide +kernel) rfl) (m_tb_of 87 (by decide +kernel) rfl) (m_tb_of 616 (by decide +kernel) rfl) ⟨Nat.le_of_ble_eq_true rfl, Nat.le_of_ble_eq_true rfl⟩ dX8_judge_18 rfl)))))) (m_bt_all (m_bt_all (m_bt_all (m_lf_all (o_istore_n C (i := 2) rfl dX8_judge_21 rfl)) (m_lf_all (o_aload_n C (i := 0) rfl dX8_judge_22 rfl))) (m_bt_all (m_lf_all (o_get C (ci := 8) (k := 3) (N := 11) (rf := RX8) (T := TX8) rfl ginX8 (Nat.le_of_ble_eq_true rfl) (m_tb_of 364 (by decide +kernel) rfl) dX8_judge_23 rfl)) (m_bt_all (m_lf_all (o_aload_n C (i := 0) rfl dX8_judge_26 rfl)) (m_lf_all (o_get C (ci := 8) (k := 0) (N := 11) (rf := RX8) (T := TX8) rfl ginX8 (Nat.le_of_ble_eq_true rfl) (m_tb_of 361 (by decide +kernel) rfl) dX8_judge_27 rfl))))) (m_bt_all (m_bt_all (m_lf_all (o_callV C (T := TX1) (N := 11) (sX1_run l X hX) rfl (m_in_of [594, 595, 596, 75] (by decide +kernel) (by decide +kernel)) (m_tb_of 597 (by decide +kernel) rfl) (by decide +kernel) rfl ⟨Nat.le_of_ble_eq_true rfl, Nat.le_of_ble_eq_true rfl⟩ dX8_judge_30 rfl)) (m_bt_all (m_lf_all (o_iconst C (x := (0)) (m_rngd rfl) dX8_judge_33 rfl)) (m_lf_all (o_istore_n C (i := 3) rfl dX8_judge_34 rfl)))) (m_bt_all (m_lf_all (o_iload_n C (i := 3) rfl dX8_judge_35 rfl)) (m_bt_all (m_lf_all (o_iload_n C (i := 2) rfl dX8_judge_36 rfl)) (m_lf_all (o_icmp_ge C dX8_judge_37 rfl rfl))))))) (m_bt_all (m_bt_all (m_bt_all (m_bt_all (m_lf_all (o_aload_n C (i := 0) rfl dX8_judge_40 rfl)) (m_lf_all (o_get C (ci := 8) (k := 7) (N := 11) (rf := RX8) (T := TX8) rfl ginX8 (Nat.le_of_ble_eq_true rfl) (m_tb_of 368 (by decide +kernel) rfl) dX8_judge_41 rfl))) (m_bt_all (m_lf_all (o_iload_n C (i := 3) rfl dX8_judge_44 rfl)) (m_bt_all (m_lf_all (o_iald C dX8_judge_45 rfl)) (m_lf_all (o_aload_n C (i := 0) rfl dX8_judge_46 rfl))))) (m_bt_all (m_bt_all (m_lf_all (o_get C (ci := 8) (k := 3) (N := 11) (rf := RX8) (T := TX8) rfl ginX8 (Nat.le_of_ble_eq_true rfl) (m_tb_of 364 (by decide +kernel) rfl) dX8_judge_47 rfl)) (m_bt_all (m_lf_all (o_iload_n C (i := 3) rfl dX8_judge_50 rfl)) (m_lf_all (o_callV C (T := TX1) (N := 11) (sX1_meanOf l X hX) rfl (m_in_of [893, 894, 895, 75] (by decide +kernel) (by decide +kernel)) (m_tb_of 896 (by decide +kernel) rfl) (by decide +kernel) rfl ⟨Nat.le_of_ble_eq_true rfl, Nat.le_of_ble_eq_true rfl⟩ dX8_judge_51 rfl)))) (m_bt_all (m_lf_all (o_icmp_eq C dX8_judge_54 rfl rfl)) (m_bt_all (m_lf_all (o_iload_n C (i := 3) rfl dX8_judge_57 rfl)) (m_lf_all (o_iret C hr dX8_judge_58)))))) (m_bt_all (m_bt_all (m_bt_all (m_lf_all (o_iinc C dX8_judge_59 rfl)) (m_lf_all (o_goto C dX8_judge_62 rfl))) (m_bt_all (m_lf_all (o_iload_n C (i := 1) rfl dX8_judge_65 rfl)) (m_bt_all (m_lf_all (o_aload_n C (i := 0) rfl dX8_judge_66 rfl)) (m_lf_all (o_get C (ci := 8) (k := 0) (N := 11) (rf := RX8) (T := TX8) rfl ginX8 (Nat.le_of_ble_eq_true rfl) (m_tb_of 361 (by decide +kernel) rfl) dX8_judge_67 rfl))))) (m_bt_all (m_bt_all (m_lf_all (o_get C (ci := 2) (k := 0) (N := 8) (rf := RX2) (T := TX2) rfl ginX2 (Nat.le_of_ble_eq_true rfl) (m_tb_of 109 (by decide +kernel) rfl) dX8_judge_70 rfl)) (m_bt_all (m_lf_all (o_icmp_ne C dX8_judge_73 rfl rfl)) (m_lf_all (o_bipush C (x := (-9)) (m_rngd rfl) rfl dX8_judge_76 rfl)))) (m_bt_all (m_lf_all (o_goto C dX8_judge_78 rfl)) (m_bt_all (m_lf_all (o_iload_n C (i := 2) rfl dX8_judge_81 rfl)) (m_lf_all (o_iret C hr dX8_judge_82))))))))
