set_option maxRecDepth 20000 in
def kX9_straysNow : m_C := m_bt 29 (m_bt 14 (m_bt 7 (m_bt 2 (m_bt 1 (m_lf 0 (s_ald 1 0)) (m_lf 1 (s_push 2 (.inl (2))))) (m_bt 5 (m_lf 2 (s_callV 5 2 9 wX9_setOf)) (m_lf 5 (s_push 7 (.inl (8)))))) (m_bt 10 (m_bt 8 (m_lf 7 (s_ald 8 0)) (m_lf 8 (s_push 10 (.inl (7))))) (m_bt 13 (m_lf 10 (s_callV 13 2 9 wX9_setOf)) (m_lf 13 (s_bin 14 (fun x y => m_wrap (x * y))))))) (m_bt 18 (m_bt 16 (m_bt 15 (m_lf 14 (s_bin 15 (fun x y => m_wrap (x - y)))) (m_lf 15 (s_ist 16 1))) (m_bt 17 (m_lf 16 (s_ald 17 0)) (m_lf 17 (s_dup 18)))) (m_bt 22 (m_bt 21 (m_lf 18 (s_get 21 9 24)) (m_lf 21 (s_ild 22 1))) (m_bt 25 (m_lf 22 (s_if 25 29 (fun x => x ≤ 0))) (m_bt 26 (m_lf 25 (s_ild 26 1)) (m_lf 26 (s_goto 30))))))) (m_bt 44 (m_bt 35 (m_bt 31 (m_bt 30 (m_lf 29 (s_push 30 (.inl (0)))) (m_lf 30 (s_bin 31 (fun x y => m_wrap (x + y))))) (m_bt 34 (m_lf 31 (s_put 34 9 24)) (m_lf 34 (s_ald 35 0)))) (m_bt 40 (m_bt 38 (m_lf 35 (s_get 38 9 24)) (m_lf 38 (s_push 40 (.inl (100))))) (m_bt 43 (m_lf 40 (s_icmp 43 45 (fun x y => y ≤ x))) (m_lf 43 (s_push 44 (.inl (0))))))) (m_bt 50 (m_bt 46 (m_bt 45 (m_lf 44 (s_retz)) (m_lf 45 (s_ald 46 0))) (m_bt 47 (m_lf 46 (s_dup 47)) (m_lf 47 (s_get 50 9 24)))) (m_bt 53 (m_bt 52 (m_lf 50 (s_push 52 (.inl (100)))) (m_lf 52 (s_bin 53 (fun x y => m_wrap (x - y))))) (m_bt 56 (m_lf 53 (s_put 56 9 24)) (m_bt 57 (m_lf 56 (s_push 57 (.inl (1)))) (m_lf 57 (s_retz)))))))
theorem kX9_straysNow_0 : kX9_straysNow 0 = some (s_ald 1 0) := rfl
theorem kX9_straysNow_1 : kX9_straysNow 1 = some (s_push 2 (.inl (2))) := rfl
theorem kX9_straysNow_2 : kX9_straysNow 2 = some (s_callV 5 2 9 wX9_setOf) := rfl
theorem kX9_straysNow_5 : kX9_straysNow 5 = some (s_push 7 (.inl (8))) := rfl
theorem kX9_straysNow_7 : kX9_straysNow 7 = some (s_ald 8 0) := rfl
theorem kX9_straysNow_8 : kX9_straysNow 8 = some (s_push 10 (.inl (7))) := rfl
theorem kX9_straysNow_10 : kX9_straysNow 10 = some (s_callV 13 2 9 wX9_setOf) := rfl
theorem kX9_straysNow_13 : kX9_straysNow 13 = some (s_bin 14 (fun x y => m_wrap (x * y))) := rfl
theorem kX9_straysNow_14 : kX9_straysNow 14 = some (s_bin 15 (fun x y => m_wrap (x - y))) := rfl
theorem kX9_straysNow_15 : kX9_straysNow 15 = some (s_ist 16 1) := rfl
theorem kX9_straysNow_16 : kX9_straysNow 16 = some (s_ald 17 0) := rfl
theorem kX9_straysNow_17 : kX9_straysNow 17 = some (s_dup 18) := rfl
theorem kX9_straysNow_18 : kX9_straysNow 18 = some (s_get 21 9 24) := rfl
theorem kX9_straysNow_21 : kX9_straysNow 21 = some (s_ild 22 1) := rfl
theorem kX9_straysNow_22 : kX9_straysNow 22 = some (s_if 25 29 (fun x => x ≤ 0)) := rfl
theorem kX9_straysNow_25 : kX9_straysNow 25 = some (s_ild 26 1) := rfl
theorem kX9_straysNow_26 : kX9_straysNow 26 = some (s_goto 30) := rfl
theorem kX9_straysNow_29 : kX9_straysNow 29 = some (s_push 30 (.inl (0))) := rfl
theorem kX9_straysNow_30 : kX9_straysNow 30 = some (s_bin 31 (fun x y => m_wrap (x + y))) := rfl
theorem kX9_straysNow_31 : kX9_straysNow 31 = some (s_put 34 9 24) := rfl
theorem kX9_straysNow_34 : kX9_straysNow 34 = some (s_ald 35 0) := rfl
theorem kX9_straysNow_35 : kX9_straysNow 35 = some (s_get 38 9 24) := rfl
theorem kX9_straysNow_38 : kX9_straysNow 38 = some (s_push 40 (.inl (100))) := rfl
theorem kX9_straysNow_40 : kX9_straysNow 40 = some (s_icmp 43 45 (fun x y => y ≤ x)) := rfl
theorem kX9_straysNow_43 : kX9_straysNow 43 = some (s_push 44 (.inl (0))) := rfl
theorem kX9_straysNow_44 : kX9_straysNow 44 = some (s_retz) := rfl
theorem kX9_straysNow_45 : kX9_straysNow 45 = some (s_ald 46 0) := rfl
theorem kX9_straysNow_46 : kX9_straysNow 46 = some (s_dup 47) := rfl
theorem kX9_straysNow_47 : kX9_straysNow 47 = some (s_get 50 9 24) := rfl
theorem kX9_straysNow_50 : kX9_straysNow 50 = some (s_push 52 (.inl (100))) := rfl
theorem kX9_straysNow_52 : kX9_straysNow 52 = some (s_bin 53 (fun x y => m_wrap (x - y))) := rfl
theorem kX9_straysNow_53 : kX9_straysNow 53 = some (s_put 56 9 24) := rfl
theorem kX9_straysNow_56 : kX9_straysNow 56 = some (s_push 57 (.inl (1))) := rfl
theorem kX9_straysNow_57 : kX9_straysNow 57 = some (s_retz) := rfl
def wX9_straysNow : m_GK := m_wp 2 kX9_straysNow
set_option maxRecDepth 100000 in
set_option maxHeartbeats 4000000 in
theorem sX9_straysNow (l : Launch) (X : m_X) (hX : m_inj X.1) : m_Sound l X 2 yX9_straysNow cX9_straysNow 2 (some .boolean) wX9_straysNow := m_sound_of hX (by decide) (fun p e s m args below meth c q C hr => m_bt_all (m_bt_all (m_bt_all (m_bt_all (m_bt_all (m_lf_all (o_aload_n C (i := 0) rfl dX9_straysNow_0 rfl)) (m_lf_all (o_iconst C (x := (2)) (m_rngd rfl) dX9_straysNow_1 rfl))) (m_bt_all (m_lf_all (o_callV C (T := TX9) (N := 35) (sX9_setOf l X hX) rfl (m_in_of [1158, 1160, 51, 81] (by decide +kernel) (by decide +kernel)) (m_tb_of 1161 (by decide +kernel) rfl) (by decide +kernel) rfl ⟨Nat.le_of_ble_eq_true rfl, Nat.le_of_ble_eq_true rfl⟩ dX9_straysNow_2 rfl)) (m_lf_all (o_bipush C (x := (8)) (m_rngd rfl) rfl dX9_straysNow_5 rfl)))) (m_bt_all (m_bt_all (m_lf_all (o_aload_n C (i := 0) rfl dX9_straysNow_7 rfl)) (m_lf_all (o_bipush C (x := (7)) (m_rngd rfl) rfl dX9_straysNow_8 rfl))) (m_bt_all (m_lf_all (o_callV C (T := TX9) (N := 35) (sX9_setOf l X hX) rfl (m_in_of [1158, 1160, 51, 81] (by decide +kernel) (by decide +kernel)) (m_tb_of 1161 (by decide +kernel) rfl) (by decide +kernel) rfl ⟨Nat.le_of_ble_eq_true rfl, Nat.le_of_ble_eq_true rfl⟩ dX9_straysNow_10 rfl)) (m_lf_all (o_imul C dX9_straysNow_13 rfl))))) (m_bt_all (m_bt_all (m_bt_all (m_lf_all (o_isub C dX9_straysNow_14 rfl)) (m_lf_all (o_istore_n C (i := 1) rfl dX9_straysNow_15 rfl))) (m_bt_all (m_lf_all (o_aload_n C (i := 0) rfl dX9_straysNow_16 rfl)) (m_lf_all (o_dup C dX9_straysNow_17 rfl)))) (m_bt_all (m_bt_all (m_lf_all (o_get C (ci := 9) (k := 24) (N := 35) (rf := RX9) (T := TX9) rfl ginX9 (Nat.le_of_ble_eq_true rfl) (m_tb_of 950 (by decide +kernel) rfl) dX9_straysNow_18 rfl)) (m_lf_all (o_iload_n C (i := 1) rfl dX9_straysNow_21 rfl))) (m_bt_all (m_lf_all (o_if_le C dX9_straysNow_22 rfl rfl)) (m_bt_all (m_lf_all (o_iload_n C (i := 1) rfl dX9_straysNow_25 rfl)) (m_lf_all (o_goto C dX9_straysNow_26 rfl))))))) (m_bt_all (m_bt_all (m_bt_all (m_bt_all (m_lf_all (o_iconst C (x := (0)) (m_rngd rfl) dX9_straysNow_29 rfl)) (m_lf_all (o_iadd C dX9_straysNow_30 rfl))) (m_bt_all (m_lf_all (o_put C (ci := 9) (k := 24) (N := 35) (rf := RX9) (T := TX9) rfl ginX9 (Nat.le_of_ble_eq_true rfl) (m_tb_of 950 (by decide +kernel) rfl) (ty0 := tyX9) tyX9_ok nmX9 rfl rfl dX9_straysNow_31 rfl)) (m_lf_all (o_aload_n C (i := 0) rfl dX9_straysNow_34 rfl)))) (m_bt_all (m_bt_all (m_lf_all (o_get C (ci := 9) (k := 24) (N := 35) (rf := RX9) (T := TX9) rfl ginX9 (Nat.le_of_ble_eq_true rfl) (m_tb_of 950 (by decide +kernel) rfl) dX9_straysNow_35 rfl)) (m_lf_all (o_bipush C (x := (100)) (m_rngd rfl) rfl dX9_straysNow_38 rfl))) (m_bt_all (m_lf_all (o_icmp_ge C dX9_straysNow_40 rfl rfl)) (m_lf_all (o_iconst C (x := (0)) (m_rngd rfl) dX9_straysNow_43 rfl))))) (m_bt_all (m_bt_all (m_bt_all (m_lf_all (o_zret C hr dX9_straysNow_44)) (m_lf_all (o_aload_n C (i := 0) rfl dX9_straysNow_45 rfl))) (m_bt_all (m_lf_all (o_dup C dX9_straysNow_46 rfl)) (m_lf_all (o_get C (ci := 9) (k := 24) (N := 35) (rf := RX9) (T := TX9) rfl ginX9 (Nat.le_of_ble_eq_true rfl) (m_tb_of 950 (by decide +kernel) rfl) dX9_straysNow_47 rfl)))) (m_bt_all (m_bt_all (m_lf_all (o_bipush C (x := (100)) (m_rngd rfl) rfl dX9_straysNow_50 rfl)) (m_lf_all (o_isub C dX9_straysNow_52 rfl))) (m_bt_all (m_lf_all (o_put C (ci := 9) (k := 24) (N := 35) (rf := RX9) (T := TX9) rfl ginX9 (Nat.le_of_ble_eq_true rfl) (m_tb_of 950 (by decide +kernel) rfl) (ty0 := tyX9) tyX9_ok nmX9 rfl rfl dX9_straysNow_53 rfl)) (m_bt_all (m_lf_all (o_iconst C (x := (1)) (m_rngd rfl) dX9_straysNow_56 rfl)) (m_lf_all (o_zret C hr dX9_straysNow_57))))))))
set_option maxRecDepth 20000 in
def kX9_comesOne : m_C := m_bt 50 (m_bt 26 (m_bt 12 (m_bt 6 (m_bt 1 (m_lf 0 (s_ald 1 0)) (m_bt 4 (m_lf 1 (s_callV 4 1 9 wX9_straysNow)) (m_lf 4 (s_ist 6 4)))) (m_bt 8 (m_bt 7 (m_lf 6 (s_ald 7 0)) (m_lf 7 (s_ild 8 1))) (m_bt 9 (m_lf 8 (s_ild 9 2)) (m_lf 9 (s_callV 12 3 9 wX9_chosen))))) (m_bt 20 (m_bt 16 (m_bt 14 (m_lf 12 (s_ist 14 5)) (m_lf 14 (s_ild 16 5))) (m_bt 19 (m_lf 16 (s_if 19 30 (fun x => 0 ≤ x))) (m_lf 19 (s_ald 20 0)))) (m_bt 24 (m_bt 23 (m_lf 20 (s_get 23 9 20)) (m_lf 23 (s_ild 24 1))) (m_bt 25 (m_lf 24 (s_dup2 25)) (m_lf 25 (s_iald 26)))))) (m_bt 35 (m_bt 30 (m_bt 28 (m_bt 27 (m_lf 26 (s_push 27 (.inl (1)))) (m_lf 27 (s_bin 28 (fun x y => m_wrap (x + y))))) (m_bt 29 (m_lf 28 (s_iast 29)) (m_lf 29 (s_retv)))) (m_bt 33 (m_bt 32 (m_lf 30 (s_ild 32 5)) (m_lf 32 (s_push 33 (.inl (1))))) (m_bt 34 (m_lf 33 (s_bin 34 (fun x y => m_wrap (x + y)))) (m_lf 34 (s_ald 35 0))))) (m_bt 41 (m_bt 39 (m_bt 38 (m_lf 35 (s_get 38 9 1)) (m_lf 38 (s_push 39 (.inl (1))))) (m_bt 40 (m_lf 39 (s_iald 40)) (m_lf 40 (s_rem 41)))) (m_bt 45 (m_bt 43 (m_lf 41 (s_ist 43 6)) (m_lf 43 (s_ild 45 4))) (m_bt 48 (m_lf 45 (s_if 48 93 (fun x => x = 0))) (m_lf 48 (s_ild 50 6))))))) (m_bt 80 (m_bt 64 (m_bt 59 (m_bt 55 (m_bt 52 (m_lf 50 (s_ild 52 5)) (m_lf 52 (s_icmp 55 93 (fun x y => x = y)))) (m_bt 56 (m_lf 55 (s_ald 56 0)) (m_lf 56 (s_get 59 9 14)))) (m_bt 62 (m_bt 61 (m_lf 59 (s_ild 61 6)) (m_lf 61 (s_iald 62))) (m_bt 63 (m_lf 62 (s_ald 63 0)) (m_lf 63 (s_push 64 (.inl (5))))))) (m_bt 72 (m_bt 70 (m_bt 67 (m_lf 64 (s_callV 67 2 9 wX9_setOf)) (m_lf 67 (s_icmp 70 93 (fun x y => y ≤ x)))) (m_bt 71 (m_lf 70 (s_ald 71 0)) (m_lf 71 (s_dup 72)))) (m_bt 76 (m_bt 75 (m_lf 72 (s_get 75 9 23)) (m_lf 75 (s_push 76 (.inl (1))))) (m_bt 77 (m_lf 76 (s_bin 77 (fun x y => m_wrap (x + y)))) (m_lf 77 (s_put 80 9 23)))))) (m_bt 93 (m_bt 85 (m_bt 83 (m_bt 81 (m_lf 80 (s_ald 81 0)) (m_lf 81 (s_ild 83 6))) (m_bt 84 (m_lf 83 (s_ild 84 1)) (m_lf 84 (s_ild 85 2)))) (m_bt 87 (m_bt 86 (m_lf 85 (s_ild 86 3)) (m_lf 86 (s_push 87 (.inl (1))))) (m_bt 90 (m_lf 87 (s_callV 90 6 9 wX9_stands)) (m_lf 90 (s_goto 103))))) (m_bt 98 (m_bt 96 (m_bt 94 (m_lf 93 (s_ald 94 0)) (m_lf 94 (s_ild 96 5))) (m_bt 97 (m_lf 96 (s_ild 97 1)) (m_lf 97 (s_ild 98 2)))) (m_bt 100 (m_bt 99 (m_lf 98 (s_ild 99 3)) (m_lf 99 (s_push 100 (.inl (0))))) (m_bt 103 (m_lf 100 (s_callV 103 6 9 wX9_stands)) (m_lf 103 (s_retv)))))))
theorem kX9_comesOne_0 : kX9_comesOne 0 = some (s_ald 1 0) := rfl
theorem kX9_comesOne_1 : kX9_comesOne 1 = some (s_callV 4 1 9 wX9_straysNow) := rfl
theorem kX9_comesOne_4 : kX9_comesOne 4 = some (s_ist 6 4) := rfl
theorem kX9_comesOne_6 : kX9_comesOne 6 = some (s_ald 7 0) := rfl
theorem kX9_comesOne_7 : kX9_comesOne 7 = some (s_ild 8 1) := rfl
theorem kX9_comesOne_8 : kX9_comesOne 8 = some (s_ild 9 2) := rfl
theorem kX9_comesOne_9 : kX9_comesOne 9 = some (s_callV 12 3 9 wX9_chosen) := rfl
theorem kX9_comesOne_12 : kX9_comesOne 12 = some (s_ist 14 5) := rfl
theorem kX9_comesOne_14 : kX9_comesOne 14 = some (s_ild 16 5) := rfl
theorem kX9_comesOne_16 : kX9_comesOne 16 = some (s_if 19 30 (fun x => 0 ≤ x)) := rfl
theorem kX9_comesOne_19 : kX9_comesOne 19 = some (s_ald 20 0) := rfl
theorem kX9_comesOne_20 : kX9_comesOne 20 = some (s_get 23 9 20) := rfl
theorem kX9_comesOne_23 : kX9_comesOne 23 = some (s_ild 24 1) := rfl
theorem kX9_comesOne_24 : kX9_comesOne 24 = some (s_dup2 25) := rfl
theorem kX9_comesOne_25 : kX9_comesOne 25 = some (s_iald 26) := rfl
theorem kX9_comesOne_26 : kX9_comesOne 26 = some (s_push 27 (.inl (1))) := rfl
theorem kX9_comesOne_27 : kX9_comesOne 27 = some (s_bin 28 (fun x y => m_wrap (x + y))) := rfl
theorem kX9_comesOne_28 : kX9_comesOne 28 = some (s_iast 29) := rfl
theorem kX9_comesOne_29 : kX9_comesOne 29 = some (s_retv) := rfl
theorem kX9_comesOne_30 : kX9_comesOne 30 = some (s_ild 32 5) := rfl
theorem kX9_comesOne_32 : kX9_comesOne 32 = some (s_push 33 (.inl (1))) := rfl
theorem kX9_comesOne_33 : kX9_comesOne 33 = some (s_bin 34 (fun x y => m_wrap (x + y))) := rfl
theorem kX9_comesOne_34 : kX9_comesOne 34 = some (s_ald 35 0) := rfl
theorem kX9_comesOne_35 : kX9_comesOne 35 = some (s_get 38 9 1) := rfl
theorem kX9_comesOne_38 : kX9_comesOne 38 = some (s_push 39 (.inl (1))) := rfl
theorem kX9_comesOne_39 : kX9_comesOne 39 = some (s_iald 40) := rfl
theorem kX9_comesOne_40 : kX9_comesOne 40 = some (s_rem 41) := rfl
theorem kX9_comesOne_41 : kX9_comesOne 41 = some (s_ist 43 6) := rfl
theorem kX9_comesOne_43 : kX9_comesOne 43 = some (s_ild 45 4) := rfl
theorem kX9_comesOne_45 : kX9_comesOne 45 = some (s_if 48 93 (fun x => x = 0)) := rfl
theorem kX9_comesOne_48 : kX9_comesOne 48 = some (s_ild 50 6) := rfl
theorem kX9_comesOne_50 : kX9_comesOne 50 = some (s_ild 52 5) := rfl
theorem kX9_comesOne_52 : kX9_comesOne 52 = some (s_icmp 55 93 (fun x y => x = y)) := rfl
theorem kX9_comesOne_55 : kX9_comesOne 55 = some (s_ald 56 0) := rfl
theorem kX9_comesOne_56 : kX9_comesOne 56 = some (s_get 59 9 14) := rfl
theorem kX9_comesOne_59 : kX9_comesOne 59 = some (s_ild 61 6) := rfl
theorem kX9_comesOne_61 : kX9_comesOne 61 = some (s_iald 62) := rfl
theorem kX9_comesOne_62 : kX9_comesOne 62 = some (s_ald 63 0) := rfl
theorem kX9_comesOne_63 : kX9_comesOne 63 = some (s_push 64 (.inl (5))) := rfl
theorem kX9_comesOne_64 : kX9_comesOne 64 = some (s_callV 67 2 9 wX9_setOf) := rfl
theorem kX9_comesOne_67 : kX9_comesOne 67 = some (s_icmp 70 93 (fun x y => y ≤ x)) := rfl
theorem kX9_comesOne_70 : kX9_comesOne 70 = some (s_ald 71 0) := rfl
theorem kX9_comesOne_71 : kX9_comesOne 71 = some (s_dup 72) := rfl
theorem kX9_comesOne_72 : kX9_comesOne 72 = some (s_get 75 9 23) := rfl
theorem kX9_comesOne_75 : kX9_comesOne 75 = some (s_push 76 (.inl (1))) := rfl
theorem kX9_comesOne_76 : kX9_comesOne 76 = some (s_bin 77 (fun x y => m_wrap (x + y))) := rfl
theorem kX9_comesOne_77 : kX9_comesOne 77 = some (s_put 80 9 23) := rfl
theorem kX9_comesOne_80 : kX9_comesOne 80 = some (s_ald 81 0) := rfl
theorem kX9_comesOne_81 : kX9_comesOne 81 = some (s_ild 83 6) := rfl
theorem kX9_comesOne_83 : kX9_comesOne 83 = some (s_ild 84 1) := rfl
theorem kX9_comesOne_84 : kX9_comesOne 84 = some (s_ild 85 2) := rfl
theorem kX9_comesOne_85 : kX9_comesOne 85 = some (s_ild 86 3) := rfl
theorem kX9_comesOne_86 : kX9_comesOne 86 = some (s_push 87 (.inl (1))) := rfl
theorem kX9_comesOne_87 : kX9_comesOne 87 = some (s_callV 90 6 9 wX9_stands) := rfl
theorem kX9_comesOne_90 : kX9_comesOne 90 = some (s_goto 103) := rfl
theorem kX9_comesOne_93 : kX9_comesOne 93 = some (s_ald 94 0) := rfl
theorem kX9_comesOne_94 : kX9_comesOne 94 = some (s_ild 96 5) := rfl
theorem kX9_comesOne_96 : kX9_comesOne 96 = some (s_ild 97 1) := rfl
theorem kX9_comesOne_97 : kX9_comesOne 97 = some (s_ild 98 2) := rfl
theorem kX9_comesOne_98 : kX9_comesOne 98 = some (s_ild 99 3) := rfl
theorem kX9_comesOne_99 : kX9_comesOne 99 = some (s_push 100 (.inl (0))) := rfl
theorem kX9_comesOne_100 : kX9_comesOne 100 = some (s_callV 103 6 9 wX9_stands) := rfl
theorem kX9_comesOne_103 : kX9_comesOne 103 = some (s_retv) := rfl
def wX9_comesOne : m_GK := m_wp 7 kX9_comesOne
set_option maxRecDepth 100000 in
set_option maxHeartbeats 4000000 in
theorem sX9_comesOne (l : Launch) (X : m_X) (hX : m_inj X.1) : m_Sound l X 5 yX9_comesOne cX9_comesOne 7 none wX9_comesOne := m_sound_of hX (by decide) (fun p e s m args below meth c q C hr => m_bt_all (m_bt_all (m_bt_all (m_bt_all (m_bt_all (m_lf_all (o_aload_n C (i := 0) rfl dX9_comesOne_0 rfl)) (m_bt_all (m_lf_all (o_callV C (T := TX9) (N := 35) (sX9_straysNow l X hX) rfl (m_in_of [1154, 1156, 50, 81] (by decide +kernel) (by decide +kernel)) (m_tb_of 1157 (by decide +kernel) rfl) (by decide +kernel) rfl ⟨Nat.le_of_ble_eq_true rfl, Nat.le_of_ble_eq_true rfl⟩ dX9_comesOne_1 rfl)) (m_lf_all (o_istore C dX9_comesOne_4 rfl)))) (m_bt_all (m_bt_all (m_lf_all (o_aload_n C (i := 0) rfl dX9_comesOne_6 rfl)) (m_lf_all (o_iload_n C (i := 1) rfl dX9_comesOne_7 rfl))) (m_bt_all (m_lf_all (o_iload_n C (i := 2) rfl dX9_comesOne_8 rfl)) (m_lf_all (o_callV C (T := TX9) (N := 35) (sX9_chosen l X hX) rfl (m_in_of [1162, 1164, 52, 81] (by decide +kernel) (by decide +kernel)) (m_tb_of 1165 (by decide +kernel) rfl) (by decide +kernel) rfl ⟨Nat.le_of_ble_eq_true rfl, Nat.le_of_ble_eq_true rfl⟩ dX9_comesOne_9 rfl))))) (m_bt_all (m_bt_all (m_bt_all (m_lf_all (o_istore C dX9_comesOne_12 rfl)) (m_lf_all (o_iload C dX9_comesOne_14 rfl))) (m_bt_all (m_lf_all (o_if_ge C dX9_comesOne_16 rfl rfl)) (m_lf_all (o_aload_n C (i := 0) rfl dX9_comesOne_19 rfl)))) (m_bt_all (m_bt_all (m_lf_all (o_get C (ci := 9) (k := 20) (N := 35) (rf := RX9) (T := TX9) rfl ginX9 (Nat.le_of_ble_eq_true rfl) (m_tb_of 946 (by decide +kernel) rfl) dX9_comesOne_20 rfl)) (m_lf_all (o_iload_n C (i := 1) rfl dX9_comesOne_23 rfl))) (m_bt_all (m_lf_all (o_dup2 C dX9_comesOne_24 rfl)) (m_lf_all (o_iald C dX9_comesOne_25 rfl)))))) (m_bt_all (m_bt_all (m_bt_all (m_bt_all (m_lf_all (o_iconst C (x := (1)) (m_rngd rfl) dX9_comesOne_26 rfl)) (m_lf_all (o_iadd C dX9_comesOne_27 rfl))) (m_bt_all (m_lf_all (o_iast C dX9_comesOne_28 rfl)) (m_lf_all (o_vret C hr dX9_comesOne_29)))) (m_bt_all (m_bt_all (m_lf_all (o_iload C dX9_comesOne_30 rfl)) (m_lf_all (o_iconst C (x := (1)) (m_rngd rfl) dX9_comesOne_32 rfl))) (m_bt_all (m_lf_all (o_iadd C dX9_comesOne_33 rfl)) (m_lf_all (o_aload_n C (i := 0) rfl dX9_comesOne_34 rfl))))) (m_bt_all (m_bt_all (m_bt_all (m_lf_all (o_get C (ci := 9) (k := 1) (N := 35) (rf := RX9) (T := TX9) rfl ginX9 (Nat.le_of_ble_eq_true rfl) (m_tb_of 927 (by decide +kernel) rfl) dX9_comesOne_35 rfl)) (m_lf_all (o_iconst C (x := (1)) (m_rngd rfl) dX9_comesOne_38 rfl))) (m_bt_all (m_lf_all (o_iald C dX9_comesOne_39 rfl)) (m_lf_all (o_irem C dX9_comesOne_40 rfl)))) (m_bt_all (m_bt_all (m_lf_all (o_istore C dX9_comesOne_41 rfl)) (m_lf_all (o_iload C dX9_comesOne_43 rfl))) (m_bt_all (m_lf_all (o_if_eq C dX9_comesOne_45 rfl rfl)) (m_lf_all (o_iload C dX9_comesOne_48 rfl))))))) (m_bt_all (m_bt_all (m_bt_all (m_bt_all (m_bt_all (m_lf_all (o_iload C dX9_comesOne_50 rfl)) (m_lf_all (o_icmp_eq C dX9_comesOne_52 rfl rfl))) (m_bt_all (m_lf_all (o_aload_n C (i := 0) rfl dX9_comesOne_55 rfl)) (m_lf_all (o_get C (ci := 9) (k := 14) (N := 35) (rf := RX9) (T := TX9) rfl ginX9 (Nat.le_of_ble_eq_true rfl) (m_tb_of 940 (by decide +kernel) rfl) dX9_comesOne_56 rfl)))) (m_bt_all (m_bt_all (m_lf_all (o_iload C dX9_comesOne_59 rfl)) (m_lf_all (o_iald C dX9_comesOne_61 rfl))) (m_bt_all (m_lf_all (o_aload_n C (i := 0) rfl dX9_comesOne_62 rfl)) (m_lf_all (o_iconst C (x := (5)) (m_rngd rfl) dX9_comesOne_63 rfl))))) (m_bt_all (m_bt_all (m_bt_all (m_lf_all (o_callV C (T := TX9) (N := 35) (sX9_setOf l X hX) rfl (m_in_of [1158, 1160, 51, 81] (by decide +kernel) (by decide +kernel)) (m_tb_of 1161 (by decide +kernel) rfl) (by decide +kernel) rfl ⟨Nat.le_of_ble_eq_true rfl, Nat.le_of_ble_eq_true rfl⟩ dX9_comesOne_64 rfl)) (m_lf_all (o_icmp_ge C dX9_comesOne_67 rfl rfl))) (m_bt_all (m_lf_all (o_aload_n C (i := 0) rfl dX9_comesOne_70 rfl)) (m_lf_all (o_dup C dX9_comesOne_71 rfl)))) (m_bt_all (m_bt_all (m_lf_all (o_get C (ci := 9) (k := 23) (N := 35) (rf := RX9) (T := TX9) rfl ginX9 (Nat.le_of_ble_eq_true rfl) (m_tb_of 949 (by decide +kernel) rfl) dX9_comesOne_72 rfl)) (m_lf_all (o_iconst C (x := (1)) (m_rngd rfl) dX9_comesOne_75 rfl))) (m_bt_all (m_lf_all (o_iadd C dX9_comesOne_76 rfl)) (m_lf_all (o_put C (ci := 9) (k := 23) (N := 35) (rf := RX9) (T := TX9) rfl ginX9 (Nat.le_of_ble_eq_true rfl) (m_tb_of 949 (by decide +kernel) rfl) (ty0 := tyX9) tyX9_ok nmX9 rfl rfl dX9_comesOne_77 rfl)))))) (m_bt_all (m_bt_all (m_bt_all (m_bt_all (m_lf_all (o_aload_n C (i := 0) rfl dX9_comesOne_80 rfl)) (m_lf_all (o_iload C dX9_comesOne_81 rfl))) (m_bt_all (m_lf_all (o_iload_n C (i := 1) rfl dX9_comesOne_83 rfl)) (m_lf_all (o_iload_n C (i := 2) rfl dX9_comesOne_84 rfl)))) (m_bt_all (m_bt_all (m_lf_all (o_iload_n C (i := 3) rfl dX9_comesOne_85 rfl)) (m_lf_all (o_iconst C (x := (1)) (m_rngd rfl) dX9_comesOne_86 rfl))) (m_bt_all (m_lf_all (o_callV C (T := TX9) (N := 35) (sX9_stands l X hX) rfl (m_in_of [1189, 1191, 58, 81] (by decide +kernel) (by decide +kernel)) (m_tb_of 1192 (by decide +kernel) rfl) (by decide +kernel) rfl ⟨Nat.le_of_ble_eq_true rfl, Nat.le_of_ble_eq_true rfl⟩ dX9_comesOne_87 rfl)) (m_lf_all (o_goto C dX9_comesOne_90 rfl))))) (m_bt_all (m_bt_all (m_bt_all (m_lf_all (o_aload_n C (i := 0) rfl dX9_comesOne_93 rfl)) (m_lf_all (o_iload C dX9_comesOne_94 rfl))) (m_bt_all (m_lf_all (o_iload_n C (i := 1) rfl dX9_comesOne_96 rfl)) (m_lf_all (o_iload_n C (i := 2) rfl dX9_comesOne_97 rfl)))) (m_bt_all (m_bt_all (m_lf_all (o_iload_n C (i := 3) rfl dX9_comesOne_98 rfl)) (m_lf_all (o_iconst C (x := (0)) (m_rngd rfl) dX9_comesOne_99 rfl))) (m_bt_all (m_lf_all (o_callV C (T := TX9) (N := 35) (sX9_stands l X hX) rfl (m_in_of [1189, 1191, 58, 81] (by decide +kernel) (by decide +kernel)) (m_tb_of 1192 (by decide +kernel) rfl) (by decide +kernel) rfl ⟨Nat.le_of_ble_eq_true rfl, Nat.le_of_ble_eq_true rfl⟩ dX9_comesOne_100 rfl)) (m_lf_all (o_vret C hr dX9_comesOne_103))))))))
set_option maxRecDepth 20000 in
def kX9_come_ : m_C := m_bt 49 (m_bt 21 (m_bt 11 (m_bt 5 (m_bt 1 (m_lf 0 (s_ild 1 1)) (m_bt 4 (m_lf 1 (s_push 4 (.inl (900)))) (m_lf 4 (s_div 5)))) (m_bt 7 (m_bt 6 (m_lf 5 (s_ist 6 2)) (m_lf 6 (s_ild 7 2))) (m_bt 8 (m_lf 7 (s_push 8 (.inl (4)))) (m_lf 8 (s_icmp 11 12 (fun x y => x < y)))))) (m_bt 15 (m_bt 13 (m_bt 12 (m_lf 11 (s_retv)) (m_lf 12 (s_push 13 (.inl (0))))) (m_bt 14 (m_lf 13 (s_ist 14 3)) (m_lf 14 (s_ild 15 3)))) (m_bt 19 (m_bt 16 (m_lf 15 (s_ald 16 0)) (m_lf 16 (s_get 19 9 1))) (m_bt 20 (m_lf 19 (s_push 20 (.inl (0)))) (m_lf 20 (s_iald 21)))))) (m_bt 33 (m_bt 26 (m_bt 24 (m_lf 21 (s_icmp 24 109 (fun x y => y ≤ x))) (m_bt 25 (m_lf 24 (s_ald 25 0)) (m_lf 25 (s_ild 26 2)))) (m_bt 30 (m_bt 27 (m_lf 26 (s_ild 27 3)) (m_lf 27 (s_callV 30 3 9 wX9_comeIn))) (m_bt 32 (m_lf 30 (s_ist 32 4)) (m_lf 32 (s_ild 33 3))))) (m_bt 41 (m_bt 37 (m_bt 34 (m_lf 33 (s_ald 34 0)) (m_lf 34 (s_get 37 9 26))) (m_bt 40 (m_lf 37 (s_icmp 40 55 (fun x y => ¬ x = y))) (m_lf 40 (s_ild 41 2)))) (m_bt 45 (m_bt 42 (m_lf 41 (s_ald 42 0)) (m_lf 42 (s_get 45 9 27))) (m_bt 48 (m_lf 45 (s_icmp 48 55 (fun x y => ¬ x = y))) (m_lf 48 (s_ald 49 0))))))) (m_bt 80 (m_bt 63 (m_bt 56 (m_bt 52 (m_lf 49 (s_get 52 9 28)) (m_bt 55 (m_lf 52 (s_goto 60)) (m_lf 55 (s_ald 56 0)))) (m_bt 60 (m_bt 57 (m_lf 56 (s_ild 57 3)) (m_lf 57 (s_callV 60 2 9 wX9_secondsOf))) (m_bt 62 (m_lf 60 (s_ist 62 5)) (m_lf 62 (s_push 63 (.inl (0))))))) (m_bt 72 (m_bt 67 (m_bt 65 (m_lf 63 (s_ist 65 6)) (m_lf 65 (s_ild 67 6))) (m_bt 69 (m_lf 67 (s_ild 69 4)) (m_lf 69 (s_icmp 72 103 (fun x y => y ≤ x))))) (m_bt 77 (m_bt 74 (m_lf 72 (s_ild 74 6)) (m_lf 74 (s_push 77 (.inl (900))))) (m_bt 78 (m_lf 77 (s_bin 78 (fun x y => m_wrap (x * y)))) (m_lf 78 (s_ild 80 4)))))) (m_bt 91 (m_bt 85 (m_bt 81 (m_lf 80 (s_div 81)) (m_bt 82 (m_lf 81 (s_ild 82 1)) (m_lf 82 (s_push 85 (.inl (900)))))) (m_bt 89 (m_bt 86 (m_lf 85 (s_rem 86)) (m_lf 86 (s_icmp 89 97 (fun x y => ¬ x = y)))) (m_bt 90 (m_lf 89 (s_ald 90 0)) (m_lf 90 (s_ild 91 3))))) (m_bt 100 (m_bt 94 (m_bt 92 (m_lf 91 (s_ild 92 1)) (m_lf 92 (s_ild 94 5))) (m_bt 97 (m_lf 94 (s_callV 97 4 9 wX9_comesOne)) (m_lf 97 (s_inc 100 6 (1))))) (m_bt 106 (m_bt 103 (m_lf 100 (s_goto 65)) (m_lf 103 (s_inc 106 3 (1)))) (m_bt 109 (m_lf 106 (s_goto 14)) (m_lf 109 (s_retv)))))))
theorem kX9_come__0 : kX9_come_ 0 = some (s_ild 1 1) := rfl
theorem kX9_come__1 : kX9_come_ 1 = some (s_push 4 (.inl (900))) := rfl
theorem kX9_come__4 : kX9_come_ 4 = some (s_div 5) := rfl
theorem kX9_come__5 : kX9_come_ 5 = some (s_ist 6 2) := rfl
theorem kX9_come__6 : kX9_come_ 6 = some (s_ild 7 2) := rfl
theorem kX9_come__7 : kX9_come_ 7 = some (s_push 8 (.inl (4))) := rfl
theorem kX9_come__8 : kX9_come_ 8 = some (s_icmp 11 12 (fun x y => x < y)) := rfl
theorem kX9_come__11 : kX9_come_ 11 = some (s_retv) := rfl
theorem kX9_come__12 : kX9_come_ 12 = some (s_push 13 (.inl (0))) := rfl
theorem kX9_come__13 : kX9_come_ 13 = some (s_ist 14 3) := rfl
theorem kX9_come__14 : kX9_come_ 14 = some (s_ild 15 3) := rfl
theorem kX9_come__15 : kX9_come_ 15 = some (s_ald 16 0) := rfl
theorem kX9_come__16 : kX9_come_ 16 = some (s_get 19 9 1) := rfl
theorem kX9_come__19 : kX9_come_ 19 = some (s_push 20 (.inl (0))) := rfl
theorem kX9_come__20 : kX9_come_ 20 = some (s_iald 21) := rfl
theorem kX9_come__21 : kX9_come_ 21 = some (s_icmp 24 109 (fun x y => y ≤ x)) := rfl
theorem kX9_come__24 : kX9_come_ 24 = some (s_ald 25 0) := rfl
theorem kX9_come__25 : kX9_come_ 25 = some (s_ild 26 2) := rfl
theorem kX9_come__26 : kX9_come_ 26 = some (s_ild 27 3) := rfl
theorem kX9_come__27 : kX9_come_ 27 = some (s_callV 30 3 9 wX9_comeIn) := rfl
theorem kX9_come__30 : kX9_come_ 30 = some (s_ist 32 4) := rfl
theorem kX9_come__32 : kX9_come_ 32 = some (s_ild 33 3) := rfl
theorem kX9_come__33 : kX9_come_ 33 = some (s_ald 34 0) := rfl
theorem kX9_come__34 : kX9_come_ 34 = some (s_get 37 9 26) := rfl
theorem kX9_come__37 : kX9_come_ 37 = some (s_icmp 40 55 (fun x y => ¬ x = y)) := rfl
theorem kX9_come__40 : kX9_come_ 40 = some (s_ild 41 2) := rfl
theorem kX9_come__41 : kX9_come_ 41 = some (s_ald 42 0) := rfl
theorem kX9_come__42 : kX9_come_ 42 = some (s_get 45 9 27) := rfl
theorem kX9_come__45 : kX9_come_ 45 = some (s_icmp 48 55 (fun x y => ¬ x = y)) := rfl
theorem kX9_come__48 : kX9_come_ 48 = some (s_ald 49 0) := rfl
theorem kX9_come__49 : kX9_come_ 49 = some (s_get 52 9 28) := rfl
theorem kX9_come__52 : kX9_come_ 52 = some (s_goto 60) := rfl
theorem kX9_come__55 : kX9_come_ 55 = some (s_ald 56 0) := rfl
theorem kX9_come__56 : kX9_come_ 56 = some (s_ild 57 3) := rfl
theorem kX9_come__57 : kX9_come_ 57 = some (s_callV 60 2 9 wX9_secondsOf) := rfl
theorem kX9_come__60 : kX9_come_ 60 = some (s_ist 62 5) := rfl
theorem kX9_come__62 : kX9_come_ 62 = some (s_push 63 (.inl (0))) := rfl
theorem kX9_come__63 : kX9_come_ 63 = some (s_ist 65 6) := rfl
theorem kX9_come__65 : kX9_come_ 65 = some (s_ild 67 6) := rfl
theorem kX9_come__67 : kX9_come_ 67 = some (s_ild 69 4) := rfl
theorem kX9_come__69 : kX9_come_ 69 = some (s_icmp 72 103 (fun x y => y ≤ x)) := rfl
theorem kX9_come__72 : kX9_come_ 72 = some (s_ild 74 6) := rfl
theorem kX9_come__74 : kX9_come_ 74 = some (s_push 77 (.inl (900))) := rfl
theorem kX9_come__77 : kX9_come_ 77 = some (s_bin 78 (fun x y => m_wrap (x * y))) := rfl
theorem kX9_come__78 : kX9_come_ 78 = some (s_ild 80 4) := rfl
theorem kX9_come__80 : kX9_come_ 80 = some (s_div 81) := rfl
theorem kX9_come__81 : kX9_come_ 81 = some (s_ild 82 1) := rfl
theorem kX9_come__82 : kX9_come_ 82 = some (s_push 85 (.inl (900))) := rfl
theorem kX9_come__85 : kX9_come_ 85 = some (s_rem 86) := rfl
theorem kX9_come__86 : kX9_come_ 86 = some (s_icmp 89 97 (fun x y => ¬ x = y)) := rfl
theorem kX9_come__89 : kX9_come_ 89 = some (s_ald 90 0) := rfl
theorem kX9_come__90 : kX9_come_ 90 = some (s_ild 91 3) := rfl
theorem kX9_come__91 : kX9_come_ 91 = some (s_ild 92 1) := rfl
theorem kX9_come__92 : kX9_come_ 92 = some (s_ild 94 5) := rfl
theorem kX9_come__94 : kX9_come_ 94 = some (s_callV 97 4 9 wX9_comesOne) := rfl
theorem kX9_come__97 : kX9_come_ 97 = some (s_inc 100 6 (1)) := rfl
theorem kX9_come__100 : kX9_come_ 100 = some (s_goto 65) := rfl
theorem kX9_come__103 : kX9_come_ 103 = some (s_inc 106 3 (1)) := rfl
theorem kX9_come__106 : kX9_come_ 106 = some (s_goto 14) := rfl
theorem kX9_come__109 : kX9_come_ 109 = some (s_retv) := rfl
def wX9_come_ : m_GK := m_wp 7 kX9_come_
set_option maxRecDepth 100000 in
set_option maxHeartbeats 4000000 in
theorem sX9_come_ (l : Launch) (X : m_X) (hX : m_inj X.1) : m_Sound l X 6 yX9_come_ cX9_come_ 7 none wX9_come_ := m_sound_of hX (by decide) (fun p e s m args below meth c q C hr => m_bt_all (m_bt_all (m_bt_all (m_bt_all (m_bt_all (m_lf_all (o_iload_n C (i := 1) rfl dX9_come__0 rfl)) (m_bt_all (m_lf_all (o_sipush C (x := (900)) (m_rngd rfl) rfl dX9_come__1 rfl)) (m_lf_all (o_idiv C dX9_come__4 rfl)))) (m_bt_all (m_bt_all (m_lf_all (o_istore_n C (i := 2) rfl dX9_come__5 rfl)) (m_lf_all (o_iload_n C (i := 2) rfl dX9_come__6 rfl))) (m_bt_all (m_lf_all (o_iconst C (x := (4)) (m_rngd rfl) dX9_come__7 rfl)) (m_lf_all (o_icmp_lt C dX9_come__8 rfl rfl))))) (m_bt_all (m_bt_all (m_bt_all (m_lf_all (o_vret C hr dX9_come__11)) (m_lf_all (o_iconst C (x := (0)) (m_rngd rfl) dX9_come__12 rfl))) (m_bt_all (m_lf_all (o_istore_n C (i := 3) rfl dX9_come__13 rfl)) (m_lf_all (o_iload_n C (i := 3) rfl dX9_come__14 rfl)))) (m_bt_all (m_bt_all (m_lf_all (o_aload_n C (i := 0) rfl dX9_come__15 rfl)) (m_lf_all (o_get C (ci := 9) (k := 1) (N := 35) (rf := RX9) (T := TX9) rfl ginX9 (Nat.le_of_ble_eq_true rfl) (m_tb_of 927 (by decide +kernel) rfl) dX9_come__16 rfl))) (m_bt_all (m_lf_all (o_iconst C (x := (0)) (m_rngd rfl) dX9_come__19 rfl)) (m_lf_all (o_iald C dX9_come__20 rfl)))))) (m_bt_all (m_bt_all (m_bt_all (m_lf_all (o_icmp_ge C dX9_come__21 rfl rfl)) (m_bt_all (m_lf_all (o_aload_n C (i := 0) rfl dX9_come__24 rfl)) (m_lf_all (o_iload_n C (i := 2) rfl dX9_come__25 rfl)))) (m_bt_all (m_bt_all (m_lf_all (o_iload_n C (i := 3) rfl dX9_come__26 rfl)) (m_lf_all (o_callV C (T := TX9) (N := 35) (sX9_comeIn l X hX) rfl (m_in_of [1142, 1144, 47, 81] (by decide +kernel) (by decide +kernel)) (m_tb_of 1145 (by decide +kernel) rfl) (by decide +kernel) rfl ⟨Nat.le_of_ble_eq_true rfl, Nat.le_of_ble_eq_true rfl⟩ dX9_come__27 rfl))) (m_bt_all (m_lf_all (o_istore C dX9_come__30 rfl)) (m_lf_all (o_iload_n C (i := 3) rfl dX9_come__32 rfl))))) (m_bt_all (m_bt_all (m_bt_all (m_lf_all (o_aload_n C (i := 0) rfl dX9_come__33 rfl)) (m_lf_all (o_get C (ci := 9) (k := 26) (N := 35) (rf := RX9) (T := TX9) rfl ginX9 (Nat.le_of_ble_eq_true rfl) (m_tb_of 952 (by decide +kernel) rfl) dX9_come__34 rfl))) (m_bt_all (m_lf_all (o_icmp_ne C dX9_come__37 rfl rfl)) (m_lf_all (o_iload_n C (i := 2) rfl dX9_come__40 rfl)))) (m_bt_all (m_bt_all (m_lf_all (o_aload_n C (i := 0) rfl dX9_come__41 rfl)) (m_lf_all (o_get C (ci := 9) (k := 27) (N := 35) (rf := RX9) (T := TX9) rfl ginX9 (Nat.le_of_ble_eq_true rfl) (m_tb_of 953 (by decide +kernel) rfl) dX9_come__42 rfl))) (m_bt_all (m_lf_all (o_icmp_ne C dX9_come__45 rfl rfl)) (m_lf_all (o_aload_n C (i := 0) rfl dX9_come__48 rfl))))))) (m_bt_all (m_bt_all (m_bt_all (m_bt_all (m_lf_all (o_get C (ci := 9) (k := 28) (N := 35) (rf := RX9) (T := TX9) rfl ginX9 (Nat.le_of_ble_eq_true rfl) (m_tb_of 954 (by decide +kernel) rfl) dX9_come__49 rfl)) (m_bt_all (m_lf_all (o_goto C dX9_come__52 rfl)) (m_lf_all (o_aload_n C (i := 0) rfl dX9_come__55 rfl)))) (m_bt_all (m_bt_all (m_lf_all (o_iload_n C (i := 3) rfl dX9_come__56 rfl)) (m_lf_all (o_callV C (T := TX9) (N := 35) (sX9_secondsOf l X hX) rfl (m_in_of [1146, 1148, 48, 81] (by decide +kernel) (by decide +kernel)) (m_tb_of 1149 (by decide +kernel) rfl) (by decide +kernel) rfl ⟨Nat.le_of_ble_eq_true rfl, Nat.le_of_ble_eq_true rfl⟩ dX9_come__57 rfl))) (m_bt_all (m_lf_all (o_istore C dX9_come__60 rfl)) (m_lf_all (o_iconst C (x := (0)) (m_rngd rfl) dX9_come__62 rfl))))) (m_bt_all (m_bt_all (m_bt_all (m_lf_all (o_istore C dX9_come__63 rfl)) (m_lf_all (o_iload C dX9_come__65 rfl))) (m_bt_all (m_lf_all (o_iload C dX9_come__67 rfl)) (m_lf_all (o_icmp_ge C dX9_come__69 rfl rfl)))) (m_bt_all (m_bt_all (m_lf_all (o_iload C dX9_come__72 rfl)) (m_lf_all (o_sipush C (x := (900)) (m_rngd rfl) rfl dX9_come__74 rfl))) (m_bt_all (m_lf_all (o_imul C dX9_come__77 rfl)) (m_lf_all (o_iload C dX9_come__78 rfl)))))) (m_bt_all (m_bt_all (m_bt_all (m_lf_all (o_idiv C dX9_come__80 rfl)) (m_bt_all (m_lf_all (o_iload_n C (i := 1) rfl dX9_come__81 rfl)) (m_lf_all (o_sipush C (x := (900)) (m_rngd rfl) rfl dX9_come__82 rfl)))) (m_bt_all (m_bt_all (m_lf_all (o_irem C dX9_come__85 rfl)) (m_lf_all (o_icmp_ne C dX9_come__86 rfl rfl))) (m_bt_all (m_lf_all (o_aload_n C (i := 0) rfl dX9_come__89 rfl)) (m_lf_all (o_iload_n C (i := 3) rfl dX9_come__90 rfl))))) (m_bt_all (m_bt_all (m_bt_all (m_lf_all (o_iload_n C (i := 1) rfl dX9_come__91 rfl)) (m_lf_all (o_iload C dX9_come__92 rfl))) (m_bt_all (m_lf_all (o_callV C (T := TX9) (N := 35) (sX9_comesOne l X hX) rfl (m_in_of [1150, 1152, 49, 81] (by decide +kernel) (by decide +kernel)) (m_tb_of 1153 (by decide +kernel) rfl) (by decide +kernel) rfl ⟨Nat.le_of_ble_eq_true rfl, Nat.le_of_ble_eq_true rfl⟩ dX9_come__94 rfl)) (m_lf_all (o_iinc C dX9_come__97 rfl)))) (m_bt_all (m_bt_all (m_lf_all (o_goto C dX9_come__100 rfl)) (m_lf_all (o_iinc C dX9_come__103 rfl))) (m_bt_all (m_lf_all (o_goto C dX9_come__106 rfl)) (m_lf_all (o_vret C hr dX9_come__109))))))))
set_option maxRecDepth 20000 in
def kX9_leaves : m_C := m_bt 86 (m_bt 41 (m_bt 22 (m_bt 10 (m_bt 4 (m_bt 2 (m_lf 0 (s_push 2 (.inl (60)))) (m_bt 3 (m_lf 2 (s_ild 3 1)) (m_lf 3 (s_bin 4 (fun x y => m_wrap (x * y)))))) (m_bt 6 (m_bt 5 (m_lf 4 (s_ist 5 3)) (m_lf 5 (s_ald 6 0))) (m_bt 9 (m_lf 6 (s_get 9 9 17)) (m_lf 9 (s_ald 10 0))))) (m_bt 16 (m_bt 14 (m_bt 13 (m_lf 10 (s_get 13 9 10)) (m_lf 13 (s_ild 14 3))) (m_bt 15 (m_lf 14 (s_iald 15)) (m_lf 15 (s_dup2 16)))) (m_bt 18 (m_bt 17 (m_lf 16 (s_iald 17)) (m_lf 17 (s_ild 18 2))) (m_bt 19 (m_lf 18 (s_ald 19 0)) (m_lf 19 (s_get 22 9 15)))))) (m_bt 31 (m_bt 25 (m_bt 23 (m_lf 22 (s_ild 23 1)) (m_bt 24 (m_lf 23 (s_iald 24)) (m_lf 24 (s_bin 25 (fun x y => m_wrap (x - y)))))) (m_bt 27 (m_bt 26 (m_lf 25 (s_bin 26 (fun x y => m_wrap (x + y)))) (m_lf 26 (s_iast 27))) (m_bt 28 (m_lf 27 (s_ald 28 0)) (m_lf 28 (s_get 31 9 19))))) (m_bt 37 (m_bt 35 (m_bt 32 (m_lf 31 (s_ald 32 0)) (m_lf 32 (s_get 35 9 10))) (m_bt 36 (m_lf 35 (s_ild 36 3)) (m_lf 36 (s_iald 37)))) (m_bt 39 (m_bt 38 (m_lf 37 (s_dup2 38)) (m_lf 38 (s_iald 39))) (m_bt 40 (m_lf 39 (s_push 40 (.inl (1)))) (m_lf 40 (s_bin 41 (fun x y => m_wrap (x + y))))))))) (m_bt 62 (m_bt 50 (m_bt 46 (m_bt 42 (m_lf 41 (s_iast 42)) (m_bt 43 (m_lf 42 (s_ald 43 0)) (m_lf 43 (s_get 46 9 22)))) (m_bt 48 (m_bt 47 (m_lf 46 (s_ild 47 1)) (m_lf 47 (s_dup2 48))) (m_bt 49 (m_lf 48 (s_iald 49)) (m_lf 49 (s_push 50 (.inl (1))))))) (m_bt 54 (m_bt 52 (m_bt 51 (m_lf 50 (s_bin 51 (fun x y => m_wrap (x + y)))) (m_lf 51 (s_iast 52))) (m_bt 53 (m_lf 52 (s_ald 53 0)) (m_lf 53 (s_ild 54 2)))) (m_bt 58 (m_bt 57 (m_lf 54 (s_put 57 9 25)) (m_lf 57 (s_ald 58 0))) (m_bt 61 (m_lf 58 (s_get 61 9 14)) (m_lf 61 (s_ild 62 1)))))) (m_bt 72 (m_bt 66 (m_bt 64 (m_bt 63 (m_lf 62 (s_dup2 63)) (m_lf 63 (s_iald 64))) (m_bt 65 (m_lf 64 (s_push 65 (.inl (1)))) (m_lf 65 (s_bin 66 (fun x y => m_wrap (x - y)))))) (m_bt 68 (m_bt 67 (m_lf 66 (s_iast 67)) (m_lf 67 (s_push 68 (.inl (0))))) (m_bt 70 (m_lf 68 (s_ist 70 4)) (m_lf 70 (s_ild 72 4))))) (m_bt 78 (m_bt 76 (m_bt 73 (m_lf 72 (s_ald 73 0)) (m_lf 73 (s_get 76 9 14))) (m_bt 77 (m_lf 76 (s_ild 77 1)) (m_lf 77 (s_iald 78)))) (m_bt 82 (m_bt 81 (m_lf 78 (s_icmp 81 167 (fun x y => y ≤ x))) (m_lf 81 (s_ald 82 0))) (m_bt 85 (m_lf 82 (s_get 85 9 10)) (m_lf 85 (s_ild 86 3)))))))) (m_bt 129 (m_bt 108 (m_bt 97 (m_bt 90 (m_bt 88 (m_lf 86 (s_ild 88 4)) (m_bt 89 (m_lf 88 (s_bin 89 (fun x y => m_wrap (x + y)))) (m_lf 89 (s_ald 90 0)))) (m_bt 94 (m_bt 93 (m_lf 90 (s_get 93 9 10)) (m_lf 93 (s_ild 94 3))) (m_bt 96 (m_lf 94 (s_ild 96 4)) (m_lf 96 (s_bin 97 (fun x y => m_wrap (x + y))))))) (m_bt 101 (m_bt 99 (m_bt 98 (m_lf 97 (s_push 98 (.inl (1)))) (m_lf 98 (s_bin 99 (fun x y => m_wrap (x + y))))) (m_bt 100 (m_lf 99 (s_iald 100)) (m_lf 100 (s_iast 101)))) (m_bt 105 (m_bt 102 (m_lf 101 (s_ald 102 0)) (m_lf 102 (s_get 105 9 11))) (m_bt 106 (m_lf 105 (s_ild 106 3)) (m_lf 106 (s_ild 108 4)))))) (m_bt 118 (m_bt 113 (m_bt 109 (m_lf 108 (s_bin 109 (fun x y => m_wrap (x + y)))) (m_bt 110 (m_lf 109 (s_ald 110 0)) (m_lf 110 (s_get 113 9 11)))) (m_bt 116 (m_bt 114 (m_lf 113 (s_ild 114 3)) (m_lf 114 (s_ild 116 4))) (m_bt 117 (m_lf 116 (s_bin 117 (fun x y => m_wrap (x + y)))) (m_lf 117 (s_push 118 (.inl (1))))))) (m_bt 122 (m_bt 120 (m_bt 119 (m_lf 118 (s_bin 119 (fun x y => m_wrap (x + y)))) (m_lf 119 (s_iald 120))) (m_bt 121 (m_lf 120 (s_iast 121)) (m_lf 121 (s_ald 122 0)))) (m_bt 126 (m_bt 125 (m_lf 122 (s_get 125 9 12)) (m_lf 125 (s_ild 126 3))) (m_bt 128 (m_lf 126 (s_ild 128 4)) (m_lf 128 (s_bin 129 (fun x y => m_wrap (x + y))))))))) (m_bt 150 (m_bt 139 (m_bt 134 (m_bt 130 (m_lf 129 (s_ald 130 0)) (m_bt 133 (m_lf 130 (s_get 133 9 12)) (m_lf 133 (s_ild 134 3)))) (m_bt 137 (m_bt 136 (m_lf 134 (s_ild 136 4)) (m_lf 136 (s_bin 137 (fun x y => m_wrap (x + y))))) (m_bt 138 (m_lf 137 (s_push 138 (.inl (1)))) (m_lf 138 (s_bin 139 (fun x y => m_wrap (x + y))))))) (m_bt 145 (m_bt 141 (m_bt 140 (m_lf 139 (s_iald 140)) (m_lf 140 (s_iast 141))) (m_bt 142 (m_lf 141 (s_ald 142 0)) (m_lf 142 (s_get 145 9 13)))) (m_bt 148 (m_bt 146 (m_lf 145 (s_ild 146 3)) (m_lf 146 (s_ild 148 4))) (m_bt 149 (m_lf 148 (s_bin 149 (fun x y => m_wrap (x + y)))) (m_lf 149 (s_ald 150 0)))))) (m_bt 161 (m_bt 157 (m_bt 154 (m_bt 153 (m_lf 150 (s_get 153 9 13)) (m_lf 153 (s_ild 154 3))) (m_bt 156 (m_lf 154 (s_ild 156 4)) (m_lf 156 (s_bin 157 (fun x y => m_wrap (x + y)))))) (m_bt 159 (m_bt 158 (m_lf 157 (s_push 158 (.inl (1)))) (m_lf 158 (s_bin 159 (fun x y => m_wrap (x + y))))) (m_bt 160 (m_lf 159 (s_iald 160)) (m_lf 160 (s_iast 161))))) (m_bt 171 (m_bt 167 (m_bt 164 (m_lf 161 (s_inc 164 4 (1))) (m_lf 164 (s_goto 70))) (m_bt 168 (m_lf 167 (s_ald 168 0)) (m_lf 168 (s_get 171 9 15)))) (m_bt 174 (m_bt 172 (m_lf 171 (s_ild 172 1)) (m_lf 172 (s_push 174 (.inl (-9))))) (m_bt 175 (m_lf 174 (s_iast 175)) (m_lf 175 (s_retv))))))))
theorem kX9_leaves_0 : kX9_leaves 0 = some (s_push 2 (.inl (60))) := rfl
theorem kX9_leaves_2 : kX9_leaves 2 = some (s_ild 3 1) := rfl
theorem kX9_leaves_3 : kX9_leaves 3 = some (s_bin 4 (fun x y => m_wrap (x * y))) := rfl
theorem kX9_leaves_4 : kX9_leaves 4 = some (s_ist 5 3) := rfl
theorem kX9_leaves_5 : kX9_leaves 5 = some (s_ald 6 0) := rfl
theorem kX9_leaves_6 : kX9_leaves 6 = some (s_get 9 9 17) := rfl
theorem kX9_leaves_9 : kX9_leaves 9 = some (s_ald 10 0) := rfl
theorem kX9_leaves_10 : kX9_leaves 10 = some (s_get 13 9 10) := rfl
theorem kX9_leaves_13 : kX9_leaves 13 = some (s_ild 14 3) := rfl
theorem kX9_leaves_14 : kX9_leaves 14 = some (s_iald 15) := rfl
theorem kX9_leaves_15 : kX9_leaves 15 = some (s_dup2 16) := rfl
theorem kX9_leaves_16 : kX9_leaves 16 = some (s_iald 17) := rfl
theorem kX9_leaves_17 : kX9_leaves 17 = some (s_ild 18 2) := rfl
theorem kX9_leaves_18 : kX9_leaves 18 = some (s_ald 19 0) := rfl
theorem kX9_leaves_19 : kX9_leaves 19 = some (s_get 22 9 15) := rfl
theorem kX9_leaves_22 : kX9_leaves 22 = some (s_ild 23 1) := rfl
theorem kX9_leaves_23 : kX9_leaves 23 = some (s_iald 24) := rfl
theorem kX9_leaves_24 : kX9_leaves 24 = some (s_bin 25 (fun x y => m_wrap (x - y))) := rfl
theorem kX9_leaves_25 : kX9_leaves 25 = some (s_bin 26 (fun x y => m_wrap (x + y))) := rfl
theorem kX9_leaves_26 : kX9_leaves 26 = some (s_iast 27) := rfl
theorem kX9_leaves_27 : kX9_leaves 27 = some (s_ald 28 0) := rfl
theorem kX9_leaves_28 : kX9_leaves 28 = some (s_get 31 9 19) := rfl
theorem kX9_leaves_31 : kX9_leaves 31 = some (s_ald 32 0) := rfl
theorem kX9_leaves_32 : kX9_leaves 32 = some (s_get 35 9 10) := rfl
theorem kX9_leaves_35 : kX9_leaves 35 = some (s_ild 36 3) := rfl
theorem kX9_leaves_36 : kX9_leaves 36 = some (s_iald 37) := rfl
theorem kX9_leaves_37 : kX9_leaves 37 = some (s_dup2 38) := rfl
theorem kX9_leaves_38 : kX9_leaves 38 = some (s_iald 39) := rfl
theorem kX9_leaves_39 : kX9_leaves 39 = some (s_push 40 (.inl (1))) := rfl
theorem kX9_leaves_40 : kX9_leaves 40 = some (s_bin 41 (fun x y => m_wrap (x + y))) := rfl
theorem kX9_leaves_41 : kX9_leaves 41 = some (s_iast 42) := rfl
theorem kX9_leaves_42 : kX9_leaves 42 = some (s_ald 43 0) := rfl
theorem kX9_leaves_43 : kX9_leaves 43 = some (s_get 46 9 22) := rfl
theorem kX9_leaves_46 : kX9_leaves 46 = some (s_ild 47 1) := rfl
theorem kX9_leaves_47 : kX9_leaves 47 = some (s_dup2 48) := rfl
theorem kX9_leaves_48 : kX9_leaves 48 = some (s_iald 49) := rfl
theorem kX9_leaves_49 : kX9_leaves 49 = some (s_push 50 (.inl (1))) := rfl
theorem kX9_leaves_50 : kX9_leaves 50 = some (s_bin 51 (fun x y => m_wrap (x + y))) := rfl
theorem kX9_leaves_51 : kX9_leaves 51 = some (s_iast 52) := rfl
theorem kX9_leaves_52 : kX9_leaves 52 = some (s_ald 53 0) := rfl
theorem kX9_leaves_53 : kX9_leaves 53 = some (s_ild 54 2) := rfl
theorem kX9_leaves_54 : kX9_leaves 54 = some (s_put 57 9 25) := rfl
theorem kX9_leaves_57 : kX9_leaves 57 = some (s_ald 58 0) := rfl
theorem kX9_leaves_58 : kX9_leaves 58 = some (s_get 61 9 14) := rfl
theorem kX9_leaves_61 : kX9_leaves 61 = some (s_ild 62 1) := rfl
theorem kX9_leaves_62 : kX9_leaves 62 = some (s_dup2 63) := rfl
theorem kX9_leaves_63 : kX9_leaves 63 = some (s_iald 64) := rfl
theorem kX9_leaves_64 : kX9_leaves 64 = some (s_push 65 (.inl (1))) := rfl
theorem kX9_leaves_65 : kX9_leaves 65 = some (s_bin 66 (fun x y => m_wrap (x - y))) := rfl
theorem kX9_leaves_66 : kX9_leaves 66 = some (s_iast 67) := rfl
theorem kX9_leaves_67 : kX9_leaves 67 = some (s_push 68 (.inl (0))) := rfl
theorem kX9_leaves_68 : kX9_leaves 68 = some (s_ist 70 4) := rfl
theorem kX9_leaves_70 : kX9_leaves 70 = some (s_ild 72 4) := rfl
theorem kX9_leaves_72 : kX9_leaves 72 = some (s_ald 73 0) := rfl
theorem kX9_leaves_73 : kX9_leaves 73 = some (s_get 76 9 14) := rfl
theorem kX9_leaves_76 : kX9_leaves 76 = some (s_ild 77 1) := rfl
theorem kX9_leaves_77 : kX9_leaves 77 = some (s_iald 78) := rfl
theorem kX9_leaves_78 : kX9_leaves 78 = some (s_icmp 81 167 (fun x y => y ≤ x)) := rfl
theorem kX9_leaves_81 : kX9_leaves 81 = some (s_ald 82 0) := rfl
theorem kX9_leaves_82 : kX9_leaves 82 = some (s_get 85 9 10) := rfl
theorem kX9_leaves_85 : kX9_leaves 85 = some (s_ild 86 3) := rfl
theorem kX9_leaves_86 : kX9_leaves 86 = some (s_ild 88 4) := rfl
theorem kX9_leaves_88 : kX9_leaves 88 = some (s_bin 89 (fun x y => m_wrap (x + y))) := rfl
theorem kX9_leaves_89 : kX9_leaves 89 = some (s_ald 90 0) := rfl
theorem kX9_leaves_90 : kX9_leaves 90 = some (s_get 93 9 10) := rfl
theorem kX9_leaves_93 : kX9_leaves 93 = some (s_ild 94 3) := rfl
theorem kX9_leaves_94 : kX9_leaves 94 = some (s_ild 96 4) := rfl
theorem kX9_leaves_96 : kX9_leaves 96 = some (s_bin 97 (fun x y => m_wrap (x + y))) := rfl
theorem kX9_leaves_97 : kX9_leaves 97 = some (s_push 98 (.inl (1))) := rfl
theorem kX9_leaves_98 : kX9_leaves 98 = some (s_bin 99 (fun x y => m_wrap (x + y))) := rfl
theorem kX9_leaves_99 : kX9_leaves 99 = some (s_iald 100) := rfl
theorem kX9_leaves_100 : kX9_leaves 100 = some (s_iast 101) := rfl
theorem kX9_leaves_101 : kX9_leaves 101 = some (s_ald 102 0) := rfl
theorem kX9_leaves_102 : kX9_leaves 102 = some (s_get 105 9 11) := rfl
theorem kX9_leaves_105 : kX9_leaves 105 = some (s_ild 106 3) := rfl
theorem kX9_leaves_106 : kX9_leaves 106 = some (s_ild 108 4) := rfl
theorem kX9_leaves_108 : kX9_leaves 108 = some (s_bin 109 (fun x y => m_wrap (x + y))) := rfl
theorem kX9_leaves_109 : kX9_leaves 109 = some (s_ald 110 0) := rfl
theorem kX9_leaves_110 : kX9_leaves 110 = some (s_get 113 9 11) := rfl
theorem kX9_leaves_113 : kX9_leaves 113 = some (s_ild 114 3) := rfl
theorem kX9_leaves_114 : kX9_leaves 114 = some (s_ild 116 4) := rfl
theorem kX9_leaves_116 : kX9_leaves 116 = some (s_bin 117 (fun x y => m_wrap (x + y))) := rfl
theorem kX9_leaves_117 : kX9_leaves 117 = some (s_push 118 (.inl (1))) := rfl
theorem kX9_leaves_118 : kX9_leaves 118 = some (s_bin 119 (fun x y => m_wrap (x + y))) := rfl
theorem kX9_leaves_119 : kX9_leaves 119 = some (s_iald 120) := rfl
theorem kX9_leaves_120 : kX9_leaves 120 = some (s_iast 121) := rfl
theorem kX9_leaves_121 : kX9_leaves 121 = some (s_ald 122 0) := rfl
theorem kX9_leaves_122 : kX9_leaves 122 = some (s_get 125 9 12) := rfl
theorem kX9_leaves_125 : kX9_leaves 125 = some (s_ild 126 3) := rfl
theorem kX9_leaves_126 : kX9_leaves 126 = some (s_ild 128 4) := rfl
theorem kX9_leaves_128 : kX9_leaves 128 = some (s_bin 129 (fun x y => m_wrap (x + y))) := rfl
theorem kX9_leaves_129 : kX9_leaves 129 = some (s_ald 130 0) := rfl
theorem kX9_leaves_130 : kX9_leaves 130 = some (s_get 133 9 12) := rfl
theorem kX9_leaves_133 : kX9_leaves 133 = some (s_ild 134 3) := rfl
theorem kX9_leaves_134 : kX9_leaves 134 = some (s_ild 136 4) := rfl
theorem kX9_leaves_136 : kX9_leaves 136 = some (s_bin 137 (fun x y => m_wrap (x + y))) := rfl
theorem kX9_leaves_137 : kX9_leaves 137 = some (s_push 138 (.inl (1))) := rfl
theorem kX9_leaves_138 : kX9_leaves 138 = some (s_bin 139 (fun x y => m_wrap (x + y))) := rfl
theorem kX9_leaves_139 : kX9_leaves 139 = some (s_iald 140) := rfl
theorem kX9_leaves_140 : kX9_leaves 140 = some (s_iast 141) := rfl
theorem kX9_leaves_141 : kX9_leaves 141 = some (s_ald 142 0) := rfl
theorem kX9_leaves_142 : kX9_leaves 142 = some (s_get 145 9 13) := rfl
theorem kX9_leaves_145 : kX9_leaves 145 = some (s_ild 146 3) := rfl
theorem kX9_leaves_146 : kX9_leaves 146 = some (s_ild 148 4) := rfl
theorem kX9_leaves_148 : kX9_leaves 148 = some (s_bin 149 (fun x y => m_wrap (x + y))) := rfl
theorem kX9_leaves_149 : kX9_leaves 149 = some (s_ald 150 0) := rfl
theorem kX9_leaves_150 : kX9_leaves 150 = some (s_get 153 9 13) := rfl
theorem kX9_leaves_153 : kX9_leaves 153 = some (s_ild 154 3) := rfl
theorem kX9_leaves_154 : kX9_leaves 154 = some (s_ild 156 4) := rfl
theorem kX9_leaves_156 : kX9_leaves 156 = some (s_bin 157 (fun x y => m_wrap (x + y))) := rfl
theorem kX9_leaves_157 : kX9_leaves 157 = some (s_push 158 (.inl (1))) := rfl
theorem kX9_leaves_158 : kX9_leaves 158 = some (s_bin 159 (fun x y => m_wrap (x + y))) := rfl
theorem kX9_leaves_159 : kX9_leaves 159 = some (s_iald 160) := rfl
theorem kX9_leaves_160 : kX9_leaves 160 = some (s_iast 161) := rfl
theorem kX9_leaves_161 : kX9_leaves 161 = some (s_inc 164 4 (1)) := rfl
theorem kX9_leaves_164 : kX9_leaves 164 = some (s_goto 70) := rfl
theorem kX9_leaves_167 : kX9_leaves 167 = some (s_ald 168 0) := rfl
theorem kX9_leaves_168 : kX9_leaves 168 = some (s_get 171 9 15) := rfl
theorem kX9_leaves_171 : kX9_leaves 171 = some (s_ild 172 1) := rfl
theorem kX9_leaves_172 : kX9_leaves 172 = some (s_push 174 (.inl (-9))) := rfl
theorem kX9_leaves_174 : kX9_leaves 174 = some (s_iast 175) := rfl
theorem kX9_leaves_175 : kX9_leaves 175 = some (s_retv) := rfl
def wX9_leaves : m_GK := m_wp 5 kX9_leaves
set_option maxRecDepth 100000 in
set_option maxHeartbeats 4000000 in
theorem sX9_leaves (l : Launch) (X : m_X) (hX : m_inj X.1) : m_Sound l X 1 yX9_leaves cX9_leaves 5 none wX9_leaves := m_sound_of hX (by decide) (fun p e s m args below meth c q C hr => m_bt_all (m_bt_all (m_bt_all (m_bt_all (m_bt_all (m_bt_all (m_lf_all (o_bipush C (x := (60)) (m_rngd rfl) rfl dX9_leaves_0 rfl)) (m_bt_all (m_lf_all (o_iload_n C (i := 1) rfl dX9_leaves_2 rfl)) (m_lf_all (o_imul C dX9_leaves_3 rfl)))) (m_bt_all (m_bt_all (m_lf_all (o_istore_n C (i := 3) rfl dX9_leaves_4 rfl)) (m_lf_all (o_aload_n C (i := 0) rfl dX9_leaves_5 rfl))) (m_bt_all (m_lf_all (o_get C (ci := 9) (k := 17) (N := 35) (rf := RX9) (T := TX9) rfl ginX9 (Nat.le_of_ble_eq_true rfl) (m_tb_of 943 (by decide +kernel) rfl) dX9_leaves_6 rfl)) (m_lf_all (o_aload_n C (i := 0) rfl dX9_leaves_9 rfl))))) (m_bt_all (m_bt_all (m_bt_all (m_lf_all (o_get C (ci := 9) (k := 10) (N := 35) (rf := RX9) (T := TX9) rfl ginX9 (Nat.le_of_ble_eq_true rfl) (m_tb_of 936 (by decide +kernel) rfl) dX9_leaves_10 rfl)) (m_lf_all (o_iload_n C (i := 3) rfl dX9_leaves_13 rfl))) (m_bt_all (m_lf_all (o_iald C dX9_leaves_14 rfl)) (m_lf_all (o_dup2 C dX9_leaves_15 rfl)))) (m_bt_all (m_bt_all (m_lf_all (o_iald C dX9_leaves_16 rfl)) (m_lf_all (o_iload_n C (i := 2) rfl dX9_leaves_17 rfl))) (m_bt_all (m_lf_all (o_aload_n C (i := 0) rfl dX9_leaves_18 rfl)) (m_lf_all (o_get C (ci := 9) (k := 15) (N := 35) (rf := RX9) (T := TX9) rfl ginX9 (Nat.le_of_ble_eq_true rfl) (m_tb_of 941 (by decide +kernel) rfl) dX9_leaves_19 rfl)))))) (m_bt_all (m_bt_all (m_bt_all (m_lf_all (o_iload_n C (i := 1) rfl dX9_leaves_22 rfl)) (m_bt_all (m_lf_all (o_iald C dX9_leaves_23 rfl)) (m_lf_all (o_isub C dX9_leaves_24 rfl)))) (m_bt_all (m_bt_all (m_lf_all (o_iadd C dX9_leaves_25 rfl)) (m_lf_all (o_iast C dX9_leaves_26 rfl))) (m_bt_all (m_lf_all (o_aload_n C (i := 0) rfl dX9_leaves_27 rfl)) (m_lf_all (o_get C (ci := 9) (k := 19) (N := 35) (rf := RX9) (T := TX9) rfl ginX9 (Nat.le_of_ble_eq_true rfl) (m_tb_of 945 (by decide +kernel) rfl) dX9_leaves_28 rfl))))) (m_bt_all (m_bt_all (m_bt_all (m_lf_all (o_aload_n C (i := 0) rfl dX9_leaves_31 rfl)) (m_lf_all (o_get C (ci := 9) (k := 10) (N := 35) (rf := RX9) (T := TX9) rfl ginX9 (Nat.le_of_ble_eq_true rfl) (m_tb_of 936 (by decide +kernel) rfl) dX9_leaves_32 rfl))) (m_bt_all (m_lf_all (o_iload_n C (i := 3) rfl dX9_leaves_35 rfl)) (m_lf_all (o_iald C dX9_leaves_36 rfl)))) (m_bt_all (m_bt_all (m_lf_all (o_dup2 C dX9_leaves_37 rfl)) (m_lf_all (o_iald C dX9_leaves_38 rfl))) (m_bt_all (m_lf_all (o_iconst C (x := (1)) (m_rngd rfl) dX9_leaves_39 rfl)) (m_lf_all (o_iadd C dX9_leaves_40 rfl))))))) (m_bt_all (m_bt_all (m_bt_all (m_bt_all (m_lf_all (o_iast C dX9_leaves_41 rfl)) (m_bt_all (m_lf_all (o_aload_n C (i := 0) rfl dX9_leaves_42 rfl)) (m_lf_all (o_get C (ci := 9) (k := 22) (N := 35) (rf := RX9) (T := TX9) rfl ginX9 (Nat.le_of_ble_eq_true rfl) (m_tb_of 948 (by decide +kernel) rfl) dX9_leaves_43 rfl)))) (m_bt_all (m_bt_all (m_lf_all (o_iload_n C (i := 1) rfl dX9_leaves_46 rfl)) (m_lf_all (o_dup2 C dX9_leaves_47 rfl))) (m_bt_all (m_lf_all (o_iald C dX9_leaves_48 rfl)) (m_lf_all (o_iconst C (x := (1)) (m_rngd rfl) dX9_leaves_49 rfl))))) (m_bt_all (m_bt_all (m_bt_all (m_lf_all (o_iadd C dX9_leaves_50 rfl)) (m_lf_all (o_iast C dX9_leaves_51 rfl))) (m_bt_all (m_lf_all (o_aload_n C (i := 0) rfl dX9_leaves_52 rfl)) (m_lf_all (o_iload_n C (i := 2) rfl dX9_leaves_53 rfl)))) (m_bt_all (m_bt_all (m_lf_all (o_put C (ci := 9) (k := 25) (N := 35) (rf := RX9) (T := TX9) rfl ginX9 (Nat.le_of_ble_eq_true rfl) (m_tb_of 951 (by decide +kernel) rfl) (ty0 := tyX9) tyX9_ok nmX9 rfl rfl dX9_leaves_54 rfl)) (m_lf_all (o_aload_n C (i := 0) rfl dX9_leaves_57 rfl))) (m_bt_all (m_lf_all (o_get C (ci := 9) (k := 14) (N := 35) (rf := RX9) (T := TX9) rfl ginX9 (Nat.le_of_ble_eq_true rfl) (m_tb_of 940 (by decide +kernel) rfl) dX9_leaves_58 rfl)) (m_lf_all (o_iload_n C (i := 1) rfl dX9_leaves_61 rfl)))))) (m_bt_all (m_bt_all (m_bt_all (m_bt_all (m_lf_all (o_dup2 C dX9_leaves_62 rfl)) (m_lf_all (o_iald C dX9_leaves_63 rfl))) (m_bt_all (m_lf_all (o_iconst C (x := (1)) (m_rngd rfl) dX9_leaves_64 rfl)) (m_lf_all (o_isub C dX9_leaves_65 rfl)))) (m_bt_all (m_bt_all (m_lf_all (o_iast C dX9_leaves_66 rfl)) (m_lf_all (o_iconst C (x := (0)) (m_rngd rfl) dX9_leaves_67 rfl))) (m_bt_all (m_lf_all (o_istore C dX9_leaves_68 rfl)) (m_lf_all (o_iload C dX9_leaves_70 rfl))))) (m_bt_all (m_bt_all (m_bt_all (m_lf_all (o_aload_n C (i := 0) rfl dX9_leaves_72 rfl)) (m_lf_all (o_get C (ci := 9) (k := 14) (N := 35) (rf := RX9) (T := TX9) rfl ginX9 (Nat.le_of_ble_eq_true rfl) (m_tb_of 940 (by decide +kernel) rfl) dX9_leaves_73 rfl))) (m_bt_all (m_lf_all (o_iload_n C (i := 1) rfl dX9_leaves_76 rfl)) (m_lf_all (o_iald C dX9_leaves_77 rfl)))) (m_bt_all (m_bt_all (m_lf_all (o_icmp_ge C dX9_leaves_78 rfl rfl)) (m_lf_all (o_aload_n C (i := 0) rfl dX9_leaves_81 rfl))) (m_bt_all (m_lf_all (o_get C (ci := 9) (k := 10) (N := 35) (rf := RX9) (T := TX9) rfl ginX9 (Nat.le_of_ble_eq_true rfl) (m_tb_of 936 (by decide +kernel) rfl) dX9_leaves_82 rfl)) (m_lf_all (o_iload_n C (i := 3) rfl dX9_leaves_85 rfl)))))))) (m_bt_all (m_bt_all (m_bt_all (m_bt_all (m_bt_all (m_lf_all (o_iload C dX9_leaves_86 rfl)) (m_bt_all (m_lf_all (o_iadd C dX9_leaves_88 rfl)) (m_lf_all (o_aload_n C (i := 0) rfl dX9_leaves_89 rfl)))) (m_bt_all (m_bt_all (m_lf_all (o_get C (ci := 9) (k := 10) (N := 35) (rf := RX9) (T := TX9) rfl ginX9 (Nat.le_of_ble_eq_true rfl) (m_tb_of 936 (by decide +kernel) rfl) dX9_leaves_90 rfl)) (m_lf_all (o_iload_n C (i := 3) rfl dX9_leaves_93 rfl))) (m_bt_all (m_lf_all (o_iload C dX9_leaves_94 rfl)) (m_lf_all (o_iadd C dX9_leaves_96 rfl))))) (m_bt_all (m_bt_all (m_bt_all (m_lf_all (o_iconst C (x := (1)) (m_rngd rfl) dX9_leaves_97 rfl)) (m_lf_all (o_iadd C dX9_leaves_98 rfl))) (m_bt_all (m_lf_all (o_iald C dX9_leaves_99 rfl)) (m_lf_all (o_iast C dX9_leaves_100 rfl)))) (m_bt_all (m_bt_all (m_lf_all (o_aload_n C (i := 0) rfl dX9_leaves_101 rfl)) (m_lf_all (o_get C (ci := 9) (k := 11) (N := 35) (rf := RX9) (T := TX9) rfl ginX9 (Nat.le_of_ble_eq_true rfl) (m_tb_of 937 (by decide +kernel) rfl) dX9_leaves_102 rfl))) (m_bt_all (m_lf_all (o_iload_n C (i := 3) rfl dX9_leaves_105 rfl)) (m_lf_all (o_iload C dX9_leaves_106 rfl)))))) (m_bt_all (m_bt_all (m_bt_all (m_lf_all (o_iadd C dX9_leaves_108 rfl)) (m_bt_all (m_lf_all (o_aload_n C (i := 0) rfl dX9_leaves_109 rfl)) (m_lf_all (o_get C (ci := 9) (k := 11) (N := 35) (rf := RX9) (T := TX9) rfl ginX9 (Nat.le_of_ble_eq_true rfl) (m_tb_of 937 (by decide +kernel) rfl) dX9_leaves_110 rfl)))) (m_bt_all (m_bt_all (m_lf_all (o_iload_n C (i := 3) rfl dX9_leaves_113 rfl)) (m_lf_all (o_iload C dX9_leaves_114 rfl))) (m_bt_all (m_lf_all (o_iadd C dX9_leaves_116 rfl)) (m_lf_all (o_iconst C (x := (1)) (m_rngd rfl) dX9_leaves_117 rfl))))) (m_bt_all (m_bt_all (m_bt_all (m_lf_all (o_iadd C dX9_leaves_118 rfl)) (m_lf_all (o_iald C dX9_leaves_119 rfl))) (m_bt_all (m_lf_all (o_iast C dX9_leaves_120 rfl)) (m_lf_all (o_aload_n C (i := 0) rfl dX9_leaves_121 rfl)))) (m_bt_all (m_bt_all (m_lf_all (o_get C (ci := 9) (k := 12) (N := 35) (rf := RX9) (T := TX9) rfl ginX9 (Nat.le_of_ble_eq_true rfl) (m_tb_of 938 (by decide +kernel) rfl) dX9_leaves_122 rfl)) (m_lf_all (o_iload_n C (i := 3) rfl dX9_leaves_125 rfl))) (m_bt_all (m_lf_all (o_iload C dX9_leaves_126 rfl)) (m_lf_all (o_iadd C dX9_leaves_128 rfl))))))) (m_bt_all (m_bt_all (m_bt_all (m_bt_all (m_lf_all (o_aload_n C (i := 0) rfl dX9_leaves_129 rfl)) (m_bt_all (m_lf_all (o_get C (ci := 9) (k := 12) (N := 35) (rf := RX9) (T := TX9) rfl ginX9 (Nat.le_of_ble_eq_true rfl) (m_tb_of 938 (by decide +kernel) rfl) dX9_leaves_130 rfl)) (m_lf_all (o_iload_n C (i := 3) rfl dX9_leaves_133 rfl)))) (m_bt_all (m_bt_all (m_lf_all (o_iload C dX9_leaves_134 rfl)) (m_lf_all (o_iadd C dX9_leaves_136 rfl))) (m_bt_all (m_lf_all (o_iconst C (x := (1)) (m_rngd rfl) dX9_leaves_137 rfl)) (m_lf_all (o_iadd C dX9_leaves_138 rfl))))) (m_bt_all (m_bt_all (m_bt_all (m_lf_all (o_iald C dX9_leaves_139 rfl)) (m_lf_all (o_iast C dX9_leaves_140 rfl))) (m_bt_all (m_lf_all (o_aload_n C (i := 0) rfl dX9_leaves_141 rfl)) (m_lf_all (o_get C (ci := 9) (k := 13) (N := 35) (rf := RX9) (T := TX9) rfl ginX9 (Nat.le_of_ble_eq_true rfl) (m_tb_of 939 (by decide +kernel) rfl) dX9_leaves_142 rfl)))) (m_bt_all (m_bt_all (m_lf_all (o_iload_n C (i := 3) rfl dX9_leaves_145 rfl)) (m_lf_all (o_iload C dX9_leaves_146 rfl))) (m_bt_all (m_lf_all (o_iadd C dX9_leaves_148 rfl)) (m_lf_all (o_aload_n C (i := 0) rfl dX9_leaves_149 rfl)))))) (m_bt_all (m_bt_all (m_bt_all (m_bt_all (m_lf_all (o_get C (ci := 9) (k := 13) (N := 35) (rf := RX9) (T := TX9) rfl ginX9 (Nat.le_of_ble_eq_true rfl) (m_tb_of 939 (by decide +kernel) rfl) dX9_leaves_150 rfl)) (m_lf_all (o_iload_n C (i := 3) rfl dX9_leaves_153 rfl))) (m_bt_all (m_lf_all (o_iload C dX9_leaves_154 rfl)) (m_lf_all (o_iadd C dX9_leaves_156 rfl)))) (m_bt_all (m_bt_all (m_lf_all (o_iconst C (x := (1)) (m_rngd rfl) dX9_leaves_157 rfl)) (m_lf_all (o_iadd C dX9_leaves_158 rfl))) (m_bt_all (m_lf_all (o_iald C dX9_leaves_159 rfl)) (m_lf_all (o_iast C dX9_leaves_160 rfl))))) (m_bt_all (m_bt_all (m_bt_all (m_lf_all (o_iinc C dX9_leaves_161 rfl)) (m_lf_all (o_goto C dX9_leaves_164 rfl))) (m_bt_all (m_lf_all (o_aload_n C (i := 0) rfl dX9_leaves_167 rfl)) (m_lf_all (o_get C (ci := 9) (k := 15) (N := 35) (rf := RX9) (T := TX9) rfl ginX9 (Nat.le_of_ble_eq_true rfl) (m_tb_of 941 (by decide +kernel) rfl) dX9_leaves_168 rfl)))) (m_bt_all (m_bt_all (m_lf_all (o_iload_n C (i := 1) rfl dX9_leaves_171 rfl)) (m_lf_all (o_bipush C (x := (-9)) (m_rngd rfl) rfl dX9_leaves_172 rfl))) (m_bt_all (m_lf_all (o_iast C dX9_leaves_174 rfl)) (m_lf_all (o_vret C hr dX9_leaves_175)))))))))
set_option maxRecDepth 20000 in
def kX9_serves : m_C := m_bt 63 (m_bt 29 (m_bt 13 (m_bt 5 (m_bt 3 (m_bt 2 (m_lf 0 (s_push 2 (.inl (60)))) (m_lf 2 (s_ild 3 1))) (m_bt 4 (m_lf 3 (s_bin 4 (fun x y => m_wrap (x * y)))) (m_lf 4 (s_ist 5 3)))) (m_bt 9 (m_bt 6 (m_lf 5 (s_ald 6 0)) (m_lf 6 (s_get 9 9 10))) (m_bt 10 (m_lf 9 (s_ild 10 3)) (m_bt 11 (m_lf 10 (s_iald 11)) (m_lf 11 (s_ist 13 4)))))) (m_bt 20 (m_bt 17 (m_bt 14 (m_lf 13 (s_ald 14 0)) (m_lf 14 (s_get 17 9 12))) (m_bt 18 (m_lf 17 (s_ild 18 3)) (m_bt 19 (m_lf 18 (s_iald 19)) (m_lf 19 (s_ald 20 0))))) (m_bt 24 (m_bt 23 (m_lf 20 (s_get 23 9 16)) (m_lf 23 (s_ild 24 1))) (m_bt 25 (m_lf 24 (s_iald 25)) (m_bt 28 (m_lf 25 (s_if 28 47 (fun x => x < 0))) (m_lf 28 (s_ald 29 0))))))) (m_bt 48 (m_bt 39 (m_bt 33 (m_bt 32 (m_lf 29 (s_get 32 9 16)) (m_lf 32 (s_ild 33 1))) (m_bt 34 (m_lf 33 (s_iald 34)) (m_bt 36 (m_lf 34 (s_ild 36 4)) (m_lf 36 (s_icmp 39 47 (fun x y => x = y)))))) (m_bt 41 (m_bt 40 (m_lf 39 (s_ald 40 0)) (m_lf 40 (s_push 41 (.inl (0))))) (m_bt 44 (m_lf 41 (s_callV 44 2 9 wX9_setOf)) (m_bt 47 (m_lf 44 (s_goto 48)) (m_lf 47 (s_push 48 (.inl (0)))))))) (m_bt 56 (m_bt 51 (m_bt 49 (m_lf 48 (s_bin 49 (fun x y => m_wrap (x + y)))) (m_lf 49 (s_ist 51 5))) (m_bt 52 (m_lf 51 (s_ald 52 0)) (m_bt 55 (m_lf 52 (s_get 55 9 13)) (m_lf 55 (s_ild 56 3))))) (m_bt 58 (m_bt 57 (m_lf 56 (s_iald 57)) (m_lf 57 (s_push 58 (.inl (1))))) (m_bt 61 (m_lf 58 (s_icmp 61 85 (fun x y => ¬ x = y))) (m_bt 62 (m_lf 61 (s_ald 62 0)) (m_lf 62 (s_ild 63 1)))))))) (m_bt 94 (m_bt 78 (m_bt 70 (m_bt 67 (m_bt 64 (m_lf 63 (s_ild 64 2)) (m_lf 64 (s_callV 67 3 9 wX9_wordAt))) (m_bt 69 (m_lf 67 (s_ild 69 4)) (m_lf 69 (s_bin 70 m_ishr)))) (m_bt 72 (m_bt 71 (m_lf 70 (s_push 71 (.inl (1)))) (m_lf 71 (s_bin 72 m_iand))) (m_bt 75 (m_lf 72 (s_if 75 85 (fun x => ¬ x = 0))) (m_bt 77 (m_lf 75 (s_ild 77 5)) (m_lf 77 (s_ald 78 0)))))) (m_bt 86 (m_bt 82 (m_bt 79 (m_lf 78 (s_push 79 (.inl (3)))) (m_lf 79 (s_callV 82 2 9 wX9_setOf))) (m_bt 83 (m_lf 82 (s_bin 83 (fun x y => m_wrap (x + y)))) (m_bt 85 (m_lf 83 (s_ist 85 5)) (m_lf 85 (s_ald 86 0))))) (m_bt 91 (m_bt 89 (m_lf 86 (s_get 89 9 17)) (m_lf 89 (s_ild 91 4))) (m_bt 92 (m_lf 91 (s_dup2 92)) (m_bt 93 (m_lf 92 (s_iald 93)) (m_lf 93 (s_ild 94 2))))))) (m_bt 108 (m_bt 101 (m_bt 98 (m_bt 95 (m_lf 94 (s_ald 95 0)) (m_lf 95 (s_get 98 9 11))) (m_bt 99 (m_lf 98 (s_ild 99 3)) (m_bt 100 (m_lf 99 (s_iald 100)) (m_lf 100 (s_bin 101 (fun x y => m_wrap (x - y))))))) (m_bt 103 (m_bt 102 (m_lf 101 (s_bin 102 (fun x y => m_wrap (x + y)))) (m_lf 102 (s_iast 103))) (m_bt 104 (m_lf 103 (s_ald 104 0)) (m_bt 107 (m_lf 104 (s_get 107 9 15)) (m_lf 107 (s_ild 108 1)))))) (m_bt 114 (m_bt 111 (m_bt 109 (m_lf 108 (s_ild 109 2)) (m_lf 109 (s_ild 111 5))) (m_bt 112 (m_lf 111 (s_bin 112 (fun x y => m_wrap (x + y)))) (m_bt 113 (m_lf 112 (s_iast 113)) (m_lf 113 (s_ald 114 0))))) (m_bt 118 (m_bt 117 (m_lf 114 (s_get 117 9 16)) (m_lf 117 (s_ild 118 1))) (m_bt 120 (m_lf 118 (s_ild 120 4)) (m_bt 121 (m_lf 120 (s_iast 121)) (m_lf 121 (s_retv))))))))
theorem kX9_serves_0 : kX9_serves 0 = some (s_push 2 (.inl (60))) := rfl
theorem kX9_serves_2 : kX9_serves 2 = some (s_ild 3 1) := rfl
theorem kX9_serves_3 : kX9_serves 3 = some (s_bin 4 (fun x y => m_wrap (x * y))) := rfl
theorem kX9_serves_4 : kX9_serves 4 = some (s_ist 5 3) := rfl
theorem kX9_serves_5 : kX9_serves 5 = some (s_ald 6 0) := rfl
theorem kX9_serves_6 : kX9_serves 6 = some (s_get 9 9 10) := rfl
theorem kX9_serves_9 : kX9_serves 9 = some (s_ild 10 3) := rfl
theorem kX9_serves_10 : kX9_serves 10 = some (s_iald 11) := rfl
theorem kX9_serves_11 : kX9_serves 11 = some (s_ist 13 4) := rfl
theorem kX9_serves_13 : kX9_serves 13 = some (s_ald 14 0) := rfl
theorem kX9_serves_14 : kX9_serves 14 = some (s_get 17 9 12) := rfl
theorem kX9_serves_17 : kX9_serves 17 = some (s_ild 18 3) := rfl
theorem kX9_serves_18 : kX9_serves 18 = some (s_iald 19) := rfl
theorem kX9_serves_19 : kX9_serves 19 = some (s_ald 20 0) := rfl
theorem kX9_serves_20 : kX9_serves 20 = some (s_get 23 9 16) := rfl
theorem kX9_serves_23 : kX9_serves 23 = some (s_ild 24 1) := rfl
theorem kX9_serves_24 : kX9_serves 24 = some (s_iald 25) := rfl
theorem kX9_serves_25 : kX9_serves 25 = some (s_if 28 47 (fun x => x < 0)) := rfl
theorem kX9_serves_28 : kX9_serves 28 = some (s_ald 29 0) := rfl
theorem kX9_serves_29 : kX9_serves 29 = some (s_get 32 9 16) := rfl
theorem kX9_serves_32 : kX9_serves 32 = some (s_ild 33 1) := rfl
theorem kX9_serves_33 : kX9_serves 33 = some (s_iald 34) := rfl
theorem kX9_serves_34 : kX9_serves 34 = some (s_ild 36 4) := rfl
theorem kX9_serves_36 : kX9_serves 36 = some (s_icmp 39 47 (fun x y => x = y)) := rfl
theorem kX9_serves_39 : kX9_serves 39 = some (s_ald 40 0) := rfl
theorem kX9_serves_40 : kX9_serves 40 = some (s_push 41 (.inl (0))) := rfl
theorem kX9_serves_41 : kX9_serves 41 = some (s_callV 44 2 9 wX9_setOf) := rfl
theorem kX9_serves_44 : kX9_serves 44 = some (s_goto 48) := rfl
theorem kX9_serves_47 : kX9_serves 47 = some (s_push 48 (.inl (0))) := rfl
theorem kX9_serves_48 : kX9_serves 48 = some (s_bin 49 (fun x y => m_wrap (x + y))) := rfl
theorem kX9_serves_49 : kX9_serves 49 = some (s_ist 51 5) := rfl
theorem kX9_serves_51 : kX9_serves 51 = some (s_ald 52 0) := rfl
theorem kX9_serves_52 : kX9_serves 52 = some (s_get 55 9 13) := rfl
theorem kX9_serves_55 : kX9_serves 55 = some (s_ild 56 3) := rfl
theorem kX9_serves_56 : kX9_serves 56 = some (s_iald 57) := rfl
theorem kX9_serves_57 : kX9_serves 57 = some (s_push 58 (.inl (1))) := rfl
theorem kX9_serves_58 : kX9_serves 58 = some (s_icmp 61 85 (fun x y => ¬ x = y)) := rfl
theorem kX9_serves_61 : kX9_serves 61 = some (s_ald 62 0) := rfl
theorem kX9_serves_62 : kX9_serves 62 = some (s_ild 63 1) := rfl
theorem kX9_serves_63 : kX9_serves 63 = some (s_ild 64 2) := rfl
theorem kX9_serves_64 : kX9_serves 64 = some (s_callV 67 3 9 wX9_wordAt) := rfl
theorem kX9_serves_67 : kX9_serves 67 = some (s_ild 69 4) := rfl
theorem kX9_serves_69 : kX9_serves 69 = some (s_bin 70 m_ishr) := rfl
theorem kX9_serves_70 : kX9_serves 70 = some (s_push 71 (.inl (1))) := rfl
theorem kX9_serves_71 : kX9_serves 71 = some (s_bin 72 m_iand) := rfl
theorem kX9_serves_72 : kX9_serves 72 = some (s_if 75 85 (fun x => ¬ x = 0)) := rfl
theorem kX9_serves_75 : kX9_serves 75 = some (s_ild 77 5) := rfl
theorem kX9_serves_77 : kX9_serves 77 = some (s_ald 78 0) := rfl
theorem kX9_serves_78 : kX9_serves 78 = some (s_push 79 (.inl (3))) := rfl
theorem kX9_serves_79 : kX9_serves 79 = some (s_callV 82 2 9 wX9_setOf) := rfl
theorem kX9_serves_82 : kX9_serves 82 = some (s_bin 83 (fun x y => m_wrap (x + y))) := rfl
theorem kX9_serves_83 : kX9_serves 83 = some (s_ist 85 5) := rfl
theorem kX9_serves_85 : kX9_serves 85 = some (s_ald 86 0) := rfl
theorem kX9_serves_86 : kX9_serves 86 = some (s_get 89 9 17) := rfl
theorem kX9_serves_89 : kX9_serves 89 = some (s_ild 91 4) := rfl
theorem kX9_serves_91 : kX9_serves 91 = some (s_dup2 92) := rfl
theorem kX9_serves_92 : kX9_serves 92 = some (s_iald 93) := rfl
theorem kX9_serves_93 : kX9_serves 93 = some (s_ild 94 2) := rfl
theorem kX9_serves_94 : kX9_serves 94 = some (s_ald 95 0) := rfl
theorem kX9_serves_95 : kX9_serves 95 = some (s_get 98 9 11) := rfl
theorem kX9_serves_98 : kX9_serves 98 = some (s_ild 99 3) := rfl
theorem kX9_serves_99 : kX9_serves 99 = some (s_iald 100) := rfl
theorem kX9_serves_100 : kX9_serves 100 = some (s_bin 101 (fun x y => m_wrap (x - y))) := rfl
theorem kX9_serves_101 : kX9_serves 101 = some (s_bin 102 (fun x y => m_wrap (x + y))) := rfl
theorem kX9_serves_102 : kX9_serves 102 = some (s_iast 103) := rfl
theorem kX9_serves_103 : kX9_serves 103 = some (s_ald 104 0) := rfl
theorem kX9_serves_104 : kX9_serves 104 = some (s_get 107 9 15) := rfl
theorem kX9_serves_107 : kX9_serves 107 = some (s_ild 108 1) := rfl
theorem kX9_serves_108 : kX9_serves 108 = some (s_ild 109 2) := rfl
theorem kX9_serves_109 : kX9_serves 109 = some (s_ild 111 5) := rfl
theorem kX9_serves_111 : kX9_serves 111 = some (s_bin 112 (fun x y => m_wrap (x + y))) := rfl
theorem kX9_serves_112 : kX9_serves 112 = some (s_iast 113) := rfl
theorem kX9_serves_113 : kX9_serves 113 = some (s_ald 114 0) := rfl
theorem kX9_serves_114 : kX9_serves 114 = some (s_get 117 9 16) := rfl
theorem kX9_serves_117 : kX9_serves 117 = some (s_ild 118 1) := rfl
theorem kX9_serves_118 : kX9_serves 118 = some (s_ild 120 4) := rfl
theorem kX9_serves_120 : kX9_serves 120 = some (s_iast 121) := rfl
theorem kX9_serves_121 : kX9_serves 121 = some (s_retv) := rfl
def wX9_serves : m_GK := m_wp 6 kX9_serves
set_option maxRecDepth 100000 in
set_option maxHeartbeats 4000000 in
theorem sX9_serves (l : Launch) (X : m_X) (hX : m_inj X.1) : m_Sound l X 3 yX9_serves cX9_serves 6 none wX9_serves := m_sound_of hX (by decide) (fun p e s m args below meth c q C hr => m_bt_all (m_bt_all (m_bt_all (m_bt_all (m_bt_all (m_bt_all (m_lf_all (o_bipush C (x := (60)) (m_rngd rfl) rfl dX9_serves_0 rfl)) (m_lf_all (o_iload_n C (i := 1) rfl dX9_serves_2 rfl))) (m_bt_all (m_lf_all (o_imul C dX9_serves_3 rfl)) (m_lf_all (o_istore_n C (i := 3) rfl dX9_serves_4 rfl)))) (m_bt_all (m_bt_all (m_lf_all (o_aload_n C (i := 0) rfl dX9_serves_5 rfl)) (m_lf_all (o_get C (ci := 9) (k := 10) (N := 35) (rf := RX9) (T := TX9) rfl ginX9 (Nat.le_of_ble_eq_true rfl) (m_tb_of 936 (by decide +kernel) rfl) dX9_serves_6 rfl))) (m_bt_all (m_lf_all (o_iload_n C (i := 3) rfl dX9_serves_9 rfl)) (m_bt_all (m_lf_all (o_iald C dX9_serves_10 rfl)) (m_lf_all (o_istore C dX9_serves_11 rfl)))))) (m_bt_all (m_bt_all (m_bt_all (m_lf_all (o_aload_n C (i := 0) rfl dX9_serves_13 rfl)) (m_lf_all (o_get C (ci := 9) (k := 12) (N := 35) (rf := RX9) (T := TX9) rfl ginX9 (Nat.le_of_ble_eq_true rfl) (m_tb_of 938 (by decide +kernel) rfl) dX9_serves_14 rfl))) (m_bt_all (m_lf_all (o_iload_n C (i := 3) rfl dX9_serves_17 rfl)) (m_bt_all (m_lf_all (o_iald C dX9_serves_18 rfl)) (m_lf_all (o_aload_n C (i := 0) rfl dX9_serves_19 rfl))))) (m_bt_all (m_bt_all (m_lf_all (o_get C (ci := 9) (k := 16) (N := 35) (rf := RX9) (T := TX9) rfl ginX9 (Nat.le_of_ble_eq_true rfl) (m_tb_of 942 (by decide +kernel) rfl) dX9_serves_20 rfl)) (m_lf_all (o_iload_n C (i := 1) rfl dX9_serves_23 rfl))) (m_bt_all (m_lf_all (o_iald C dX9_serves_24 rfl)) (m_bt_all (m_lf_all (o_if_lt C dX9_serves_25 rfl rfl)) (m_lf_all (o_aload_n C (i := 0) rfl dX9_serves_28 rfl))))))) (m_bt_all (m_bt_all (m_bt_all (m_bt_all (m_lf_all (o_get C (ci := 9) (k := 16) (N := 35) (rf := RX9) (T := TX9) rfl ginX9 (Nat.le_of_ble_eq_true rfl) (m_tb_of 942 (by decide +kernel) rfl) dX9_serves_29 rfl)) (m_lf_all (o_iload_n C (i := 1) rfl dX9_serves_32 rfl))) (m_bt_all (m_lf_all (o_iald C dX9_serves_33 rfl)) (m_bt_all (m_lf_all (o_iload C dX9_serves_34 rfl)) (m_lf_all (o_icmp_eq C dX9_serves_36 rfl rfl))))) (m_bt_all (m_bt_all (m_lf_all (o_aload_n C (i := 0) rfl dX9_serves_39 rfl)) (m_lf_all (o_iconst C (x := (0)) (m_rngd rfl) dX9_serves_40 rfl))) (m_bt_all (m_lf_all (o_callV C (T := TX9) (N := 35) (sX9_setOf l X hX) rfl (m_in_of [1158, 1160, 51, 81] (by decide +kernel) (by decide +kernel)) (m_tb_of 1161 (by decide +kernel) rfl) (by decide +kernel) rfl ⟨Nat.le_of_ble_eq_true rfl, Nat.le_of_ble_eq_true rfl⟩ dX9_serves_41 rfl)) (m_bt_all (m_lf_all (o_goto C dX9_serves_44 rfl)) (m_lf_all (o_iconst C (x := (0)) (m_rngd rfl) dX9_serves_47 rfl)))))) (m_bt_all (m_bt_all (m_bt_all (m_lf_all (o_iadd C dX9_serves_48 rfl)) (m_lf_all (o_istore C dX9_serves_49 rfl))) (m_bt_all (m_lf_all (o_aload_n C (i := 0) rfl dX9_serves_51 rfl)) (m_bt_all (m_lf_all (o_get C (ci := 9) (k := 13) (N := 35) (rf := RX9) (T := TX9) rfl ginX9 (Nat.le_of_ble_eq_true rfl) (m_tb_of 939 (by decide +kernel) rfl) dX9_serves_52 rfl)) (m_lf_all (o_iload_n C (i := 3) rfl dX9_serves_55 rfl))))) (m_bt_all (m_bt_all (m_lf_all (o_iald C dX9_serves_56 rfl)) (m_lf_all (o_iconst C (x := (1)) (m_rngd rfl) dX9_serves_57 rfl))) (m_bt_all (m_lf_all (o_icmp_ne C dX9_serves_58 rfl rfl)) (m_bt_all (m_lf_all (o_aload_n C (i := 0) rfl dX9_serves_61 rfl)) (m_lf_all (o_iload_n C (i := 1) rfl dX9_serves_62 rfl)))))))) (m_bt_all (m_bt_all (m_bt_all (m_bt_all (m_bt_all (m_lf_all (o_iload_n C (i := 2) rfl dX9_serves_63 rfl)) (m_lf_all (o_callV C (T := TX9) (N := 35) (sX9_wordAt l X hX) rfl (m_in_of [1170, 1172, 54, 81] (by decide +kernel) (by decide +kernel)) (m_tb_of 1173 (by decide +kernel) rfl) (by decide +kernel) rfl ⟨Nat.le_of_ble_eq_true rfl, Nat.le_of_ble_eq_true rfl⟩ dX9_serves_64 rfl))) (m_bt_all (m_lf_all (o_iload C dX9_serves_67 rfl)) (m_lf_all (o_ishr C dX9_serves_69 rfl)))) (m_bt_all (m_bt_all (m_lf_all (o_iconst C (x := (1)) (m_rngd rfl) dX9_serves_70 rfl)) (m_lf_all (o_iand C dX9_serves_71 rfl))) (m_bt_all (m_lf_all (o_if_ne C dX9_serves_72 rfl rfl)) (m_bt_all (m_lf_all (o_iload C dX9_serves_75 rfl)) (m_lf_all (o_aload_n C (i := 0) rfl dX9_serves_77 rfl)))))) (m_bt_all (m_bt_all (m_bt_all (m_lf_all (o_iconst C (x := (3)) (m_rngd rfl) dX9_serves_78 rfl)) (m_lf_all (o_callV C (T := TX9) (N := 35) (sX9_setOf l X hX) rfl (m_in_of [1158, 1160, 51, 81] (by decide +kernel) (by decide +kernel)) (m_tb_of 1161 (by decide +kernel) rfl) (by decide +kernel) rfl ⟨Nat.le_of_ble_eq_true rfl, Nat.le_of_ble_eq_true rfl⟩ dX9_serves_79 rfl))) (m_bt_all (m_lf_all (o_iadd C dX9_serves_82 rfl)) (m_bt_all (m_lf_all (o_istore C dX9_serves_83 rfl)) (m_lf_all (o_aload_n C (i := 0) rfl dX9_serves_85 rfl))))) (m_bt_all (m_bt_all (m_lf_all (o_get C (ci := 9) (k := 17) (N := 35) (rf := RX9) (T := TX9) rfl ginX9 (Nat.le_of_ble_eq_true rfl) (m_tb_of 943 (by decide +kernel) rfl) dX9_serves_86 rfl)) (m_lf_all (o_iload C dX9_serves_89 rfl))) (m_bt_all (m_lf_all (o_dup2 C dX9_serves_91 rfl)) (m_bt_all (m_lf_all (o_iald C dX9_serves_92 rfl)) (m_lf_all (o_iload_n C (i := 2) rfl dX9_serves_93 rfl))))))) (m_bt_all (m_bt_all (m_bt_all (m_bt_all (m_lf_all (o_aload_n C (i := 0) rfl dX9_serves_94 rfl)) (m_lf_all (o_get C (ci := 9) (k := 11) (N := 35) (rf := RX9) (T := TX9) rfl ginX9 (Nat.le_of_ble_eq_true rfl) (m_tb_of 937 (by decide +kernel) rfl) dX9_serves_95 rfl))) (m_bt_all (m_lf_all (o_iload_n C (i := 3) rfl dX9_serves_98 rfl)) (m_bt_all (m_lf_all (o_iald C dX9_serves_99 rfl)) (m_lf_all (o_isub C dX9_serves_100 rfl))))) (m_bt_all (m_bt_all (m_lf_all (o_iadd C dX9_serves_101 rfl)) (m_lf_all (o_iast C dX9_serves_102 rfl))) (m_bt_all (m_lf_all (o_aload_n C (i := 0) rfl dX9_serves_103 rfl)) (m_bt_all (m_lf_all (o_get C (ci := 9) (k := 15) (N := 35) (rf := RX9) (T := TX9) rfl ginX9 (Nat.le_of_ble_eq_true rfl) (m_tb_of 941 (by decide +kernel) rfl) dX9_serves_104 rfl)) (m_lf_all (o_iload_n C (i := 1) rfl dX9_serves_107 rfl)))))) (m_bt_all (m_bt_all (m_bt_all (m_lf_all (o_iload_n C (i := 2) rfl dX9_serves_108 rfl)) (m_lf_all (o_iload C dX9_serves_109 rfl))) (m_bt_all (m_lf_all (o_iadd C dX9_serves_111 rfl)) (m_bt_all (m_lf_all (o_iast C dX9_serves_112 rfl)) (m_lf_all (o_aload_n C (i := 0) rfl dX9_serves_113 rfl))))) (m_bt_all (m_bt_all (m_lf_all (o_get C (ci := 9) (k := 16) (N := 35) (rf := RX9) (T := TX9) rfl ginX9 (Nat.le_of_ble_eq_true rfl) (m_tb_of 942 (by decide +kernel) rfl) dX9_serves_114 rfl)) (m_lf_all (o_iload_n C (i := 1) rfl dX9_serves_117 rfl))) (m_bt_all (m_lf_all (o_iload C dX9_serves_118 rfl)) (m_bt_all (m_lf_all (o_iast C dX9_serves_120 rfl)) (m_lf_all (o_vret C hr dX9_serves_121)))))))))
set_option maxRecDepth 20000 in
def kX9_second : m_C := m_bt 68 (m_bt 32 (m_bt 14 (m_bt 7 (m_bt 2 (m_bt 1 (m_lf 0 (s_ald 1 0)) (m_lf 1 (s_ild 2 1))) (m_bt 5 (m_lf 2 (s_callV 5 2 9 wX9_come_)) (m_bt 6 (m_lf 5 (s_push 6 (.inl (0)))) (m_lf 6 (s_ist 7 2))))) (m_bt 9 (m_bt 8 (m_lf 7 (s_ild 8 2)) (m_lf 8 (s_ald 9 0))) (m_bt 12 (m_lf 9 (s_get 12 9 1)) (m_bt 13 (m_lf 12 (s_push 13 (.inl (1)))) (m_lf 13 (s_iald 14)))))) (m_bt 23 (m_bt 18 (m_bt 17 (m_lf 14 (s_icmp 17 138 (fun x y => y ≤ x))) (m_lf 17 (s_ald 18 0))) (m_bt 21 (m_lf 18 (s_get 21 9 14)) (m_bt 22 (m_lf 21 (s_ild 22 2)) (m_lf 22 (s_iald 23))))) (m_bt 27 (m_bt 26 (m_lf 23 (s_if 26 72 (fun x => x ≤ 0))) (m_lf 26 (s_ald 27 0))) (m_bt 30 (m_lf 27 (s_get 30 9 15)) (m_bt 31 (m_lf 30 (s_ild 31 2)) (m_lf 31 (s_iald 32))))))) (m_bt 52 (m_bt 41 (m_bt 36 (m_bt 35 (m_lf 32 (s_if 35 72 (fun x => x < 0))) (m_lf 35 (s_ald 36 0))) (m_bt 39 (m_lf 36 (s_get 39 9 15)) (m_bt 40 (m_lf 39 (s_ild 40 2)) (m_lf 40 (s_iald 41))))) (m_bt 45 (m_bt 42 (m_lf 41 (s_ild 42 1)) (m_lf 42 (s_icmp 45 72 (fun x y => y < x)))) (m_bt 46 (m_lf 45 (s_ald 46 0)) (m_bt 49 (m_lf 46 (s_get 49 9 25)) (m_lf 49 (s_if 52 66 (fun x => x < 0))))))) (m_bt 59 (m_bt 54 (m_bt 53 (m_lf 52 (s_ild 53 1)) (m_lf 53 (s_ald 54 0))) (m_bt 57 (m_lf 54 (s_get 57 9 25)) (m_bt 58 (m_lf 57 (s_bin 58 (fun x y => m_wrap (x - y)))) (m_lf 58 (s_ald 59 0))))) (m_bt 63 (m_bt 60 (m_lf 59 (s_push 60 (.inl (1)))) (m_lf 60 (s_callV 63 2 9 wX9_setOf))) (m_bt 66 (m_lf 63 (s_icmp 66 72 (fun x y => x < y))) (m_bt 67 (m_lf 66 (s_ald 67 0)) (m_lf 67 (s_ild 68 2)))))))) (m_bt 102 (m_bt 86 (m_bt 77 (m_bt 72 (m_bt 69 (m_lf 68 (s_ild 69 1)) (m_lf 69 (s_callV 72 3 9 wX9_leaves))) (m_bt 73 (m_lf 72 (s_ald 73 0)) (m_bt 76 (m_lf 73 (s_get 76 9 14)) (m_lf 76 (s_ild 77 2))))) (m_bt 81 (m_bt 78 (m_lf 77 (s_iald 78)) (m_lf 78 (s_if 81 96 (fun x => x ≤ 0)))) (m_bt 82 (m_lf 81 (s_ald 82 0)) (m_bt 85 (m_lf 82 (s_get 85 9 15)) (m_lf 85 (s_ild 86 2)))))) (m_bt 93 (m_bt 90 (m_bt 87 (m_lf 86 (s_iald 87)) (m_lf 87 (s_if 90 96 (fun x => 0 ≤ x)))) (m_bt 91 (m_lf 90 (s_ald 91 0)) (m_bt 92 (m_lf 91 (s_ild 92 2)) (m_lf 92 (s_ild 93 1))))) (m_bt 97 (m_bt 96 (m_lf 93 (s_callV 96 3 9 wX9_serves)) (m_lf 96 (s_ald 97 0))) (m_bt 100 (m_lf 97 (s_get 100 9 21)) (m_bt 101 (m_lf 100 (s_ild 101 2)) (m_lf 101 (s_ald 102 0))))))) (m_bt 120 (m_bt 111 (m_bt 106 (m_bt 105 (m_lf 102 (s_get 105 9 14)) (m_lf 105 (s_ild 106 2))) (m_bt 107 (m_lf 106 (s_iald 107)) (m_bt 108 (m_lf 107 (s_ald 108 0)) (m_lf 108 (s_get 111 9 21))))) (m_bt 113 (m_bt 112 (m_lf 111 (s_ild 112 2)) (m_lf 112 (s_iald 113))) (m_bt 116 (m_lf 113 (s_icmp 116 125 (fun x y => x ≤ y))) (m_bt 117 (m_lf 116 (s_ald 117 0)) (m_lf 117 (s_get 120 9 14)))))) (m_bt 129 (m_bt 122 (m_bt 121 (m_lf 120 (s_ild 121 2)) (m_lf 121 (s_iald 122))) (m_bt 125 (m_lf 122 (s_goto 131)) (m_bt 126 (m_lf 125 (s_ald 126 0)) (m_lf 126 (s_get 129 9 21))))) (m_bt 132 (m_bt 130 (m_lf 129 (s_ild 130 2)) (m_bt 131 (m_lf 130 (s_iald 131)) (m_lf 131 (s_iast 132)))) (m_bt 135 (m_lf 132 (s_inc 135 2 (1))) (m_bt 138 (m_lf 135 (s_goto 7)) (m_lf 138 (s_retv))))))))
theorem kX9_second_0 : kX9_second 0 = some (s_ald 1 0) := rfl
theorem kX9_second_1 : kX9_second 1 = some (s_ild 2 1) := rfl
theorem kX9_second_2 : kX9_second 2 = some (s_callV 5 2 9 wX9_come_) := rfl
theorem kX9_second_5 : kX9_second 5 = some (s_push 6 (.inl (0))) := rfl
theorem kX9_second_6 : kX9_second 6 = some (s_ist 7 2) := rfl
theorem kX9_second_7 : kX9_second 7 = some (s_ild 8 2) := rfl
theorem kX9_second_8 : kX9_second 8 = some (s_ald 9 0) := rfl
theorem kX9_second_9 : kX9_second 9 = some (s_get 12 9 1) := rfl
theorem kX9_second_12 : kX9_second 12 = some (s_push 13 (.inl (1))) := rfl
theorem kX9_second_13 : kX9_second 13 = some (s_iald 14) := rfl
theorem kX9_second_14 : kX9_second 14 = some (s_icmp 17 138 (fun x y => y ≤ x)) := rfl
theorem kX9_second_17 : kX9_second 17 = some (s_ald 18 0) := rfl
theorem kX9_second_18 : kX9_second 18 = some (s_get 21 9 14) := rfl
theorem kX9_second_21 : kX9_second 21 = some (s_ild 22 2) := rfl
theorem kX9_second_22 : kX9_second 22 = some (s_iald 23) := rfl
theorem kX9_second_23 : kX9_second 23 = some (s_if 26 72 (fun x => x ≤ 0)) := rfl
theorem kX9_second_26 : kX9_second 26 = some (s_ald 27 0) := rfl
theorem kX9_second_27 : kX9_second 27 = some (s_get 30 9 15) := rfl
theorem kX9_second_30 : kX9_second 30 = some (s_ild 31 2) := rfl
theorem kX9_second_31 : kX9_second 31 = some (s_iald 32) := rfl
theorem kX9_second_32 : kX9_second 32 = some (s_if 35 72 (fun x => x < 0)) := rfl
theorem kX9_second_35 : kX9_second 35 = some (s_ald 36 0) := rfl
theorem kX9_second_36 : kX9_second 36 = some (s_get 39 9 15) := rfl
theorem kX9_second_39 : kX9_second 39 = some (s_ild 40 2) := rfl
theorem kX9_second_40 : kX9_second 40 = some (s_iald 41) := rfl
theorem kX9_second_41 : kX9_second 41 = some (s_ild 42 1) := rfl
theorem kX9_second_42 : kX9_second 42 = some (s_icmp 45 72 (fun x y => y < x)) := rfl
theorem kX9_second_45 : kX9_second 45 = some (s_ald 46 0) := rfl
theorem kX9_second_46 : kX9_second 46 = some (s_get 49 9 25) := rfl
theorem kX9_second_49 : kX9_second 49 = some (s_if 52 66 (fun x => x < 0)) := rfl
theorem kX9_second_52 : kX9_second 52 = some (s_ild 53 1) := rfl
theorem kX9_second_53 : kX9_second 53 = some (s_ald 54 0) := rfl
theorem kX9_second_54 : kX9_second 54 = some (s_get 57 9 25) := rfl
theorem kX9_second_57 : kX9_second 57 = some (s_bin 58 (fun x y => m_wrap (x - y))) := rfl
theorem kX9_second_58 : kX9_second 58 = some (s_ald 59 0) := rfl
theorem kX9_second_59 : kX9_second 59 = some (s_push 60 (.inl (1))) := rfl
theorem kX9_second_60 : kX9_second 60 = some (s_callV 63 2 9 wX9_setOf) := rfl
theorem kX9_second_63 : kX9_second 63 = some (s_icmp 66 72 (fun x y => x < y)) := rfl
theorem kX9_second_66 : kX9_second 66 = some (s_ald 67 0) := rfl
theorem kX9_second_67 : kX9_second 67 = some (s_ild 68 2) := rfl
theorem kX9_second_68 : kX9_second 68 = some (s_ild 69 1) := rfl
theorem kX9_second_69 : kX9_second 69 = some (s_callV 72 3 9 wX9_leaves) := rfl
theorem kX9_second_72 : kX9_second 72 = some (s_ald 73 0) := rfl
theorem kX9_second_73 : kX9_second 73 = some (s_get 76 9 14) := rfl
theorem kX9_second_76 : kX9_second 76 = some (s_ild 77 2) := rfl
theorem kX9_second_77 : kX9_second 77 = some (s_iald 78) := rfl
theorem kX9_second_78 : kX9_second 78 = some (s_if 81 96 (fun x => x ≤ 0)) := rfl
theorem kX9_second_81 : kX9_second 81 = some (s_ald 82 0) := rfl
theorem kX9_second_82 : kX9_second 82 = some (s_get 85 9 15) := rfl
theorem kX9_second_85 : kX9_second 85 = some (s_ild 86 2) := rfl
theorem kX9_second_86 : kX9_second 86 = some (s_iald 87) := rfl
theorem kX9_second_87 : kX9_second 87 = some (s_if 90 96 (fun x => 0 ≤ x)) := rfl
theorem kX9_second_90 : kX9_second 90 = some (s_ald 91 0) := rfl
theorem kX9_second_91 : kX9_second 91 = some (s_ild 92 2) := rfl
theorem kX9_second_92 : kX9_second 92 = some (s_ild 93 1) := rfl
theorem kX9_second_93 : kX9_second 93 = some (s_callV 96 3 9 wX9_serves) := rfl
theorem kX9_second_96 : kX9_second 96 = some (s_ald 97 0) := rfl
theorem kX9_second_97 : kX9_second 97 = some (s_get 100 9 21) := rfl
theorem kX9_second_100 : kX9_second 100 = some (s_ild 101 2) := rfl
theorem kX9_second_101 : kX9_second 101 = some (s_ald 102 0) := rfl
theorem kX9_second_102 : kX9_second 102 = some (s_get 105 9 14) := rfl
theorem kX9_second_105 : kX9_second 105 = some (s_ild 106 2) := rfl
theorem kX9_second_106 : kX9_second 106 = some (s_iald 107) := rfl
theorem kX9_second_107 : kX9_second 107 = some (s_ald 108 0) := rfl
theorem kX9_second_108 : kX9_second 108 = some (s_get 111 9 21) := rfl
theorem kX9_second_111 : kX9_second 111 = some (s_ild 112 2) := rfl
theorem kX9_second_112 : kX9_second 112 = some (s_iald 113) := rfl
theorem kX9_second_113 : kX9_second 113 = some (s_icmp 116 125 (fun x y => x ≤ y)) := rfl
theorem kX9_second_116 : kX9_second 116 = some (s_ald 117 0) := rfl
theorem kX9_second_117 : kX9_second 117 = some (s_get 120 9 14) := rfl
theorem kX9_second_120 : kX9_second 120 = some (s_ild 121 2) := rfl
theorem kX9_second_121 : kX9_second 121 = some (s_iald 122) := rfl
theorem kX9_second_122 : kX9_second 122 = some (s_goto 131) := rfl
theorem kX9_second_125 : kX9_second 125 = some (s_ald 126 0) := rfl
theorem kX9_second_126 : kX9_second 126 = some (s_get 129 9 21) := rfl
theorem kX9_second_129 : kX9_second 129 = some (s_ild 130 2) := rfl
theorem kX9_second_130 : kX9_second 130 = some (s_iald 131) := rfl
theorem kX9_second_131 : kX9_second 131 = some (s_iast 132) := rfl
theorem kX9_second_132 : kX9_second 132 = some (s_inc 135 2 (1)) := rfl
theorem kX9_second_135 : kX9_second 135 = some (s_goto 7) := rfl
theorem kX9_second_138 : kX9_second 138 = some (s_retv) := rfl
def wX9_second : m_GK := m_wp 3 kX9_second
set_option maxRecDepth 100000 in
set_option maxHeartbeats 4000000 in
theorem sX9_second (l : Launch) (X : m_X) (hX : m_inj X.1) : m_Sound l X 7 yX9_second cX9_second 3 none wX9_second := m_sound_of hX (by decide) (fun p e s m args below meth c q C hr => m_bt_all (m_bt_all (m_bt_all (m_bt_all (m_bt_all (m_bt_all (m_lf_all (o_aload_n C (i := 0) rfl dX9_second_0 rfl)) (m_lf_all (o_iload_n C (i := 1) rfl dX9_second_1 rfl))) (m_bt_all (m_lf_all (o_callV C (T := TX9) (N := 35) (sX9_come_ l X hX) rfl (m_in_of [1138, 1140, 46, 81] (by decide +kernel) (by decide +kernel)) (m_tb_of 1141 (by decide +kernel) rfl) (by decide +kernel) rfl ⟨Nat.le_of_ble_eq_true rfl, Nat.le_of_ble_eq_true rfl⟩ dX9_second_2 rfl)) (m_bt_all (m_lf_all (o_iconst C (x := (0)) (m_rngd rfl) dX9_second_5 rfl)) (m_lf_all (o_istore_n C (i := 2) rfl dX9_second_6 rfl))))) (m_bt_all (m_bt_all (m_lf_all (o_iload_n C (i := 2) rfl dX9_second_7 rfl)) (m_lf_all (o_aload_n C (i := 0) rfl dX9_second_8 rfl))) (m_bt_all (m_lf_all (o_get C (ci := 9) (k := 1) (N := 35) (rf := RX9) (T := TX9) rfl ginX9 (Nat.le_of_ble_eq_true rfl) (m_tb_of 927 (by decide +kernel) rfl) dX9_second_9 rfl)) (m_bt_all (m_lf_all (o_iconst C (x := (1)) (m_rngd rfl) dX9_second_12 rfl)) (m_lf_all (o_iald C dX9_second_13 rfl)))))) (m_bt_all (m_bt_all (m_bt_all (m_lf_all (o_icmp_ge C dX9_second_14 rfl rfl)) (m_lf_all (o_aload_n C (i := 0) rfl dX9_second_17 rfl))) (m_bt_all (m_lf_all (o_get C (ci := 9) (k := 14) (N := 35) (rf := RX9) (T := TX9) rfl ginX9 (Nat.le_of_ble_eq_true rfl) (m_tb_of 940 (by decide +kernel) rfl) dX9_second_18 rfl)) (m_bt_all (m_lf_all (o_iload_n C (i := 2) rfl dX9_second_21 rfl)) (m_lf_all (o_iald C dX9_second_22 rfl))))) (m_bt_all (m_bt_all (m_lf_all (o_if_le C dX9_second_23 rfl rfl)) (m_lf_all (o_aload_n C (i := 0) rfl dX9_second_26 rfl))) (m_bt_all (m_lf_all (o_get C (ci := 9) (k := 15) (N := 35) (rf := RX9) (T := TX9) rfl ginX9 (Nat.le_of_ble_eq_true rfl) (m_tb_of 941 (by decide +kernel) rfl) dX9_second_27 rfl)) (m_bt_all (m_lf_all (o_iload_n C (i := 2) rfl dX9_second_30 rfl)) (m_lf_all (o_iald C dX9_second_31 rfl))))))) (m_bt_all (m_bt_all (m_bt_all (m_bt_all (m_lf_all (o_if_lt C dX9_second_32 rfl rfl)) (m_lf_all (o_aload_n C (i := 0) rfl dX9_second_35 rfl))) (m_bt_all (m_lf_all (o_get C (ci := 9) (k := 15) (N := 35) (rf := RX9) (T := TX9) rfl ginX9 (Nat.le_of_ble_eq_true rfl) (m_tb_of 941 (by decide +kernel) rfl) dX9_second_36 rfl)) (m_bt_all (m_lf_all (o_iload_n C (i := 2) rfl dX9_second_39 rfl)) (m_lf_all (o_iald C dX9_second_40 rfl))))) (m_bt_all (m_bt_all (m_lf_all (o_iload_n C (i := 1) rfl dX9_second_41 rfl)) (m_lf_all (o_icmp_gt C dX9_second_42 rfl rfl))) (m_bt_all (m_lf_all (o_aload_n C (i := 0) rfl dX9_second_45 rfl)) (m_bt_all (m_lf_all (o_get C (ci := 9) (k := 25) (N := 35) (rf := RX9) (T := TX9) rfl ginX9 (Nat.le_of_ble_eq_true rfl) (m_tb_of 951 (by decide +kernel) rfl) dX9_second_46 rfl)) (m_lf_all (o_if_lt C dX9_second_49 rfl rfl)))))) (m_bt_all (m_bt_all (m_bt_all (m_lf_all (o_iload_n C (i := 1) rfl dX9_second_52 rfl)) (m_lf_all (o_aload_n C (i := 0) rfl dX9_second_53 rfl))) (m_bt_all (m_lf_all (o_get C (ci := 9) (k := 25) (N := 35) (rf := RX9) (T := TX9) rfl ginX9 (Nat.le_of_ble_eq_true rfl) (m_tb_of 951 (by decide +kernel) rfl) dX9_second_54 rfl)) (m_bt_all (m_lf_all (o_isub C dX9_second_57 rfl)) (m_lf_all (o_aload_n C (i := 0) rfl dX9_second_58 rfl))))) (m_bt_all (m_bt_all (m_lf_all (o_iconst C (x := (1)) (m_rngd rfl) dX9_second_59 rfl)) (m_lf_all (o_callV C (T := TX9) (N := 35) (sX9_setOf l X hX) rfl (m_in_of [1158, 1160, 51, 81] (by decide +kernel) (by decide +kernel)) (m_tb_of 1161 (by decide +kernel) rfl) (by decide +kernel) rfl ⟨Nat.le_of_ble_eq_true rfl, Nat.le_of_ble_eq_true rfl⟩ dX9_second_60 rfl))) (m_bt_all (m_lf_all (o_icmp_lt C dX9_second_63 rfl rfl)) (m_bt_all (m_lf_all (o_aload_n C (i := 0) rfl dX9_second_66 rfl)) (m_lf_all (o_iload_n C (i := 2) rfl dX9_second_67 rfl)))))))) (m_bt_all (m_bt_all (m_bt_all (m_bt_all (m_bt_all (m_lf_all (o_iload_n C (i := 1) rfl dX9_second_68 rfl)) (m_lf_all (o_callV C (T := TX9) (N := 35) (sX9_leaves l X hX) rfl (m_in_of [1193, 1195, 59, 81] (by decide +kernel) (by decide +kernel)) (m_tb_of 1196 (by decide +kernel) rfl) (by decide +kernel) rfl ⟨Nat.le_of_ble_eq_true rfl, Nat.le_of_ble_eq_true rfl⟩ dX9_second_69 rfl))) (m_bt_all (m_lf_all (o_aload_n C (i := 0) rfl dX9_second_72 rfl)) (m_bt_all (m_lf_all (o_get C (ci := 9) (k := 14) (N := 35) (rf := RX9) (T := TX9) rfl ginX9 (Nat.le_of_ble_eq_true rfl) (m_tb_of 940 (by decide +kernel) rfl) dX9_second_73 rfl)) (m_lf_all (o_iload_n C (i := 2) rfl dX9_second_76 rfl))))) (m_bt_all (m_bt_all (m_lf_all (o_iald C dX9_second_77 rfl)) (m_lf_all (o_if_le C dX9_second_78 rfl rfl))) (m_bt_all (m_lf_all (o_aload_n C (i := 0) rfl dX9_second_81 rfl)) (m_bt_all (m_lf_all (o_get C (ci := 9) (k := 15) (N := 35) (rf := RX9) (T := TX9) rfl ginX9 (Nat.le_of_ble_eq_true rfl) (m_tb_of 941 (by decide +kernel) rfl) dX9_second_82 rfl)) (m_lf_all (o_iload_n C (i := 2) rfl dX9_second_85 rfl)))))) (m_bt_all (m_bt_all (m_bt_all (m_lf_all (o_iald C dX9_second_86 rfl)) (m_lf_all (o_if_ge C dX9_second_87 rfl rfl))) (m_bt_all (m_lf_all (o_aload_n C (i := 0) rfl dX9_second_90 rfl)) (m_bt_all (m_lf_all (o_iload_n C (i := 2) rfl dX9_second_91 rfl)) (m_lf_all (o_iload_n C (i := 1) rfl dX9_second_92 rfl))))) (m_bt_all (m_bt_all (m_lf_all (o_callV C (T := TX9) (N := 35) (sX9_serves l X hX) rfl (m_in_of [1197, 1199, 60, 81] (by decide +kernel) (by decide +kernel)) (m_tb_of 1200 (by decide +kernel) rfl) (by decide +kernel) rfl ⟨Nat.le_of_ble_eq_true rfl, Nat.le_of_ble_eq_true rfl⟩ dX9_second_93 rfl)) (m_lf_all (o_aload_n C (i := 0) rfl dX9_second_96 rfl))) (m_bt_all (m_lf_all (o_get C (ci := 9) (k := 21) (N := 35) (rf := RX9) (T := TX9) rfl ginX9 (Nat.le_of_ble_eq_true rfl) (m_tb_of 947 (by decide +kernel) rfl) dX9_second_97 rfl)) (m_bt_all (m_lf_all (o_iload_n C (i := 2) rfl dX9_second_100 rfl)) (m_lf_all (o_aload_n C (i := 0) rfl dX9_second_101 rfl))))))) (m_bt_all (m_bt_all (m_bt_all (m_bt_all (m_lf_all (o_get C (ci := 9) (k := 14) (N := 35) (rf := RX9) (T := TX9) rfl ginX9 (Nat.le_of_ble_eq_true rfl) (m_tb_of 940 (by decide +kernel) rfl) dX9_second_102 rfl)) (m_lf_all (o_iload_n C (i := 2) rfl dX9_second_105 rfl))) (m_bt_all (m_lf_all (o_iald C dX9_second_106 rfl)) (m_bt_all (m_lf_all (o_aload_n C (i := 0) rfl dX9_second_107 rfl)) (m_lf_all (o_get C (ci := 9) (k := 21) (N := 35) (rf := RX9) (T := TX9) rfl ginX9 (Nat.le_of_ble_eq_true rfl) (m_tb_of 947 (by decide +kernel) rfl) dX9_second_108 rfl))))) (m_bt_all (m_bt_all (m_lf_all (o_iload_n C (i := 2) rfl dX9_second_111 rfl)) (m_lf_all (o_iald C dX9_second_112 rfl))) (m_bt_all (m_lf_all (o_icmp_le C dX9_second_113 rfl rfl)) (m_bt_all (m_lf_all (o_aload_n C (i := 0) rfl dX9_second_116 rfl)) (m_lf_all (o_get C (ci := 9) (k := 14) (N := 35) (rf := RX9) (T := TX9) rfl ginX9 (Nat.le_of_ble_eq_true rfl) (m_tb_of 940 (by decide +kernel) rfl) dX9_second_117 rfl)))))) (m_bt_all (m_bt_all (m_bt_all (m_lf_all (o_iload_n C (i := 2) rfl dX9_second_120 rfl)) (m_lf_all (o_iald C dX9_second_121 rfl))) (m_bt_all (m_lf_all (o_goto C dX9_second_122 rfl)) (m_bt_all (m_lf_all (o_aload_n C (i := 0) rfl dX9_second_125 rfl)) (m_lf_all (o_get C (ci := 9) (k := 21) (N := 35) (rf := RX9) (T := TX9) rfl ginX9 (Nat.le_of_ble_eq_true rfl) (m_tb_of 947 (by decide +kernel) rfl) dX9_second_126 rfl))))) (m_bt_all (m_bt_all (m_lf_all (o_iload_n C (i := 2) rfl dX9_second_129 rfl)) (m_bt_all (m_lf_all (o_iald C dX9_second_130 rfl)) (m_lf_all (o_iast C dX9_second_131 rfl)))) (m_bt_all (m_lf_all (o_iinc C dX9_second_132 rfl)) (m_bt_all (m_lf_all (o_goto C dX9_second_135 rfl)) (m_lf_all (o_vret C hr dX9_second_138)))))))))
set_option maxRecDepth 20000 in
def kX9_ends : m_C := m_bt 56 (m_bt 28 (m_bt 13 (m_bt 4 (m_bt 2 (m_bt 1 (m_lf 0 (s_push 1 (.inl (0)))) (m_lf 1 (s_ist 2 1))) (m_bt 3 (m_lf 2 (s_ild 3 1)) (m_lf 3 (s_ald 4 0)))) (m_bt 8 (m_bt 7 (m_lf 4 (s_get 7 9 1)) (m_lf 7 (s_push 8 (.inl (1))))) (m_bt 9 (m_lf 8 (s_iald 9)) (m_bt 12 (m_lf 9 (s_icmp 12 119 (fun x y => y ≤ x))) (m_lf 12 (s_push 13 (.inl (0)))))))) (m_bt 19 (m_bt 15 (m_bt 14 (m_lf 13 (s_ist 14 2)) (m_lf 14 (s_ild 15 2))) (m_bt 16 (m_lf 15 (s_ald 16 0)) (m_lf 16 (s_get 19 9 14)))) (m_bt 21 (m_bt 20 (m_lf 19 (s_ild 20 1)) (m_lf 20 (s_iald 21))) (m_bt 24 (m_lf 21 (s_icmp 24 113 (fun x y => y ≤ x))) (m_bt 25 (m_lf 24 (s_ald 25 0)) (m_lf 25 (s_get 28 9 10))))))) (m_bt 40 (m_bt 33 (m_bt 31 (m_bt 30 (m_lf 28 (s_push 30 (.inl (60)))) (m_lf 30 (s_ild 31 1))) (m_bt 32 (m_lf 31 (s_bin 32 (fun x y => m_wrap (x * y)))) (m_lf 32 (s_ild 33 2)))) (m_bt 35 (m_bt 34 (m_lf 33 (s_bin 34 (fun x y => m_wrap (x + y)))) (m_lf 34 (s_iald 35))) (m_bt 36 (m_lf 35 (s_ist 36 3)) (m_bt 37 (m_lf 36 (s_ild 37 2)) (m_lf 37 (s_if 40 49 (fun x => 0 < x))))))) (m_bt 49 (m_bt 44 (m_bt 41 (m_lf 40 (s_ald 41 0)) (m_lf 41 (s_get 44 9 15))) (m_bt 45 (m_lf 44 (s_ild 45 1)) (m_bt 46 (m_lf 45 (s_iald 46)) (m_lf 46 (s_if 49 76 (fun x => 0 ≤ x)))))) (m_bt 53 (m_bt 50 (m_lf 49 (s_ald 50 0)) (m_lf 50 (s_get 53 9 17))) (m_bt 54 (m_lf 53 (s_ild 54 3)) (m_bt 55 (m_lf 54 (s_dup2 55)) (m_lf 55 (s_iald 56)))))))) (m_bt 85 (m_bt 70 (m_bt 65 (m_bt 60 (m_bt 59 (m_lf 56 (s_push 59 (.inl (7200)))) (m_lf 59 (s_ald 60 0))) (m_bt 63 (m_lf 60 (s_get 63 9 11)) (m_lf 63 (s_push 65 (.inl (60)))))) (m_bt 67 (m_bt 66 (m_lf 65 (s_ild 66 1)) (m_lf 66 (s_bin 67 (fun x y => m_wrap (x * y))))) (m_bt 68 (m_lf 67 (s_ild 68 2)) (m_bt 69 (m_lf 68 (s_bin 69 (fun x y => m_wrap (x + y)))) (m_lf 69 (s_iald 70)))))) (m_bt 76 (m_bt 72 (m_bt 71 (m_lf 70 (s_bin 71 (fun x y => m_wrap (x - y)))) (m_lf 71 (s_bin 72 (fun x y => m_wrap (x + y))))) (m_bt 73 (m_lf 72 (s_iast 73)) (m_lf 73 (s_goto 107)))) (m_bt 80 (m_bt 77 (m_lf 76 (s_ald 77 0)) (m_lf 77 (s_get 80 9 15))) (m_bt 81 (m_lf 80 (s_ild 81 1)) (m_bt 82 (m_lf 81 (s_iald 82)) (m_lf 82 (s_push 85 (.inl (7200))))))))) (m_bt 102 (m_bt 93 (m_bt 89 (m_bt 88 (m_lf 85 (s_icmp 88 107 (fun x y => y ≤ x))) (m_lf 88 (s_ald 89 0))) (m_bt 92 (m_lf 89 (s_get 92 9 17)) (m_lf 92 (s_ild 93 3)))) (m_bt 95 (m_bt 94 (m_lf 93 (s_dup2 94)) (m_lf 94 (s_iald 95))) (m_bt 98 (m_lf 95 (s_push 98 (.inl (7200)))) (m_bt 99 (m_lf 98 (s_ald 99 0)) (m_lf 99 (s_get 102 9 15)))))) (m_bt 107 (m_bt 104 (m_bt 103 (m_lf 102 (s_ild 103 1)) (m_lf 103 (s_iald 104))) (m_bt 105 (m_lf 104 (s_bin 105 (fun x y => m_wrap (x - y)))) (m_bt 106 (m_lf 105 (s_bin 106 (fun x y => m_wrap (x + y)))) (m_lf 106 (s_iast 107))))) (m_bt 113 (m_bt 110 (m_lf 107 (s_inc 110 2 (1))) (m_lf 110 (s_goto 14))) (m_bt 116 (m_lf 113 (s_inc 116 1 (1))) (m_bt 119 (m_lf 116 (s_goto 2)) (m_lf 119 (s_retv))))))))
theorem kX9_ends_0 : kX9_ends 0 = some (s_push 1 (.inl (0))) := rfl
theorem kX9_ends_1 : kX9_ends 1 = some (s_ist 2 1) := rfl
theorem kX9_ends_2 : kX9_ends 2 = some (s_ild 3 1) := rfl
theorem kX9_ends_3 : kX9_ends 3 = some (s_ald 4 0) := rfl
theorem kX9_ends_4 : kX9_ends 4 = some (s_get 7 9 1) := rfl
theorem kX9_ends_7 : kX9_ends 7 = some (s_push 8 (.inl (1))) := rfl
theorem kX9_ends_8 : kX9_ends 8 = some (s_iald 9) := rfl
theorem kX9_ends_9 : kX9_ends 9 = some (s_icmp 12 119 (fun x y => y ≤ x)) := rfl
theorem kX9_ends_12 : kX9_ends 12 = some (s_push 13 (.inl (0))) := rfl
theorem kX9_ends_13 : kX9_ends 13 = some (s_ist 14 2) := rfl
theorem kX9_ends_14 : kX9_ends 14 = some (s_ild 15 2) := rfl
theorem kX9_ends_15 : kX9_ends 15 = some (s_ald 16 0) := rfl
theorem kX9_ends_16 : kX9_ends 16 = some (s_get 19 9 14) := rfl
theorem kX9_ends_19 : kX9_ends 19 = some (s_ild 20 1) := rfl
theorem kX9_ends_20 : kX9_ends 20 = some (s_iald 21) := rfl
theorem kX9_ends_21 : kX9_ends 21 = some (s_icmp 24 113 (fun x y => y ≤ x)) := rfl
theorem kX9_ends_24 : kX9_ends 24 = some (s_ald 25 0) := rfl
theorem kX9_ends_25 : kX9_ends 25 = some (s_get 28 9 10) := rfl
theorem kX9_ends_28 : kX9_ends 28 = some (s_push 30 (.inl (60))) := rfl
theorem kX9_ends_30 : kX9_ends 30 = some (s_ild 31 1) := rfl
theorem kX9_ends_31 : kX9_ends 31 = some (s_bin 32 (fun x y => m_wrap (x * y))) := rfl
theorem kX9_ends_32 : kX9_ends 32 = some (s_ild 33 2) := rfl
theorem kX9_ends_33 : kX9_ends 33 = some (s_bin 34 (fun x y => m_wrap (x + y))) := rfl
theorem kX9_ends_34 : kX9_ends 34 = some (s_iald 35) := rfl
theorem kX9_ends_35 : kX9_ends 35 = some (s_ist 36 3) := rfl
theorem kX9_ends_36 : kX9_ends 36 = some (s_ild 37 2) := rfl
theorem kX9_ends_37 : kX9_ends 37 = some (s_if 40 49 (fun x => 0 < x)) := rfl
theorem kX9_ends_40 : kX9_ends 40 = some (s_ald 41 0) := rfl
theorem kX9_ends_41 : kX9_ends 41 = some (s_get 44 9 15) := rfl
theorem kX9_ends_44 : kX9_ends 44 = some (s_ild 45 1) := rfl
theorem kX9_ends_45 : kX9_ends 45 = some (s_iald 46) := rfl
theorem kX9_ends_46 : kX9_ends 46 = some (s_if 49 76 (fun x => 0 ≤ x)) := rfl
theorem kX9_ends_49 : kX9_ends 49 = some (s_ald 50 0) := rfl
theorem kX9_ends_50 : kX9_ends 50 = some (s_get 53 9 17) := rfl
theorem kX9_ends_53 : kX9_ends 53 = some (s_ild 54 3) := rfl
theorem kX9_ends_54 : kX9_ends 54 = some (s_dup2 55) := rfl
theorem kX9_ends_55 : kX9_ends 55 = some (s_iald 56) := rfl
theorem kX9_ends_56 : kX9_ends 56 = some (s_push 59 (.inl (7200))) := rfl
theorem kX9_ends_59 : kX9_ends 59 = some (s_ald 60 0) := rfl
theorem kX9_ends_60 : kX9_ends 60 = some (s_get 63 9 11) := rfl
theorem kX9_ends_63 : kX9_ends 63 = some (s_push 65 (.inl (60))) := rfl
theorem kX9_ends_65 : kX9_ends 65 = some (s_ild 66 1) := rfl
theorem kX9_ends_66 : kX9_ends 66 = some (s_bin 67 (fun x y => m_wrap (x * y))) := rfl
theorem kX9_ends_67 : kX9_ends 67 = some (s_ild 68 2) := rfl
theorem kX9_ends_68 : kX9_ends 68 = some (s_bin 69 (fun x y => m_wrap (x + y))) := rfl
theorem kX9_ends_69 : kX9_ends 69 = some (s_iald 70) := rfl
theorem kX9_ends_70 : kX9_ends 70 = some (s_bin 71 (fun x y => m_wrap (x - y))) := rfl
theorem kX9_ends_71 : kX9_ends 71 = some (s_bin 72 (fun x y => m_wrap (x + y))) := rfl
theorem kX9_ends_72 : kX9_ends 72 = some (s_iast 73) := rfl
theorem kX9_ends_73 : kX9_ends 73 = some (s_goto 107) := rfl
theorem kX9_ends_76 : kX9_ends 76 = some (s_ald 77 0) := rfl
theorem kX9_ends_77 : kX9_ends 77 = some (s_get 80 9 15) := rfl
theorem kX9_ends_80 : kX9_ends 80 = some (s_ild 81 1) := rfl
theorem kX9_ends_81 : kX9_ends 81 = some (s_iald 82) := rfl
theorem kX9_ends_82 : kX9_ends 82 = some (s_push 85 (.inl (7200))) := rfl
theorem kX9_ends_85 : kX9_ends 85 = some (s_icmp 88 107 (fun x y => y ≤ x)) := rfl
theorem kX9_ends_88 : kX9_ends 88 = some (s_ald 89 0) := rfl
theorem kX9_ends_89 : kX9_ends 89 = some (s_get 92 9 17) := rfl
theorem kX9_ends_92 : kX9_ends 92 = some (s_ild 93 3) := rfl
theorem kX9_ends_93 : kX9_ends 93 = some (s_dup2 94) := rfl
theorem kX9_ends_94 : kX9_ends 94 = some (s_iald 95) := rfl
theorem kX9_ends_95 : kX9_ends 95 = some (s_push 98 (.inl (7200))) := rfl
theorem kX9_ends_98 : kX9_ends 98 = some (s_ald 99 0) := rfl
theorem kX9_ends_99 : kX9_ends 99 = some (s_get 102 9 15) := rfl
theorem kX9_ends_102 : kX9_ends 102 = some (s_ild 103 1) := rfl
theorem kX9_ends_103 : kX9_ends 103 = some (s_iald 104) := rfl
theorem kX9_ends_104 : kX9_ends 104 = some (s_bin 105 (fun x y => m_wrap (x - y))) := rfl
theorem kX9_ends_105 : kX9_ends 105 = some (s_bin 106 (fun x y => m_wrap (x + y))) := rfl
theorem kX9_ends_106 : kX9_ends 106 = some (s_iast 107) := rfl
theorem kX9_ends_107 : kX9_ends 107 = some (s_inc 110 2 (1)) := rfl
theorem kX9_ends_110 : kX9_ends 110 = some (s_goto 14) := rfl
theorem kX9_ends_113 : kX9_ends 113 = some (s_inc 116 1 (1)) := rfl
theorem kX9_ends_116 : kX9_ends 116 = some (s_goto 2) := rfl
theorem kX9_ends_119 : kX9_ends 119 = some (s_retv) := rfl
def wX9_ends : m_GK := m_wp 4 kX9_ends
set_option maxRecDepth 100000 in
set_option maxHeartbeats 4000000 in
theorem sX9_ends (l : Launch) (X : m_X) (hX : m_inj X.1) : m_Sound l X 1 yX9_ends cX9_ends 4 none wX9_ends := m_sound_of hX (by decide) (fun p e s m args below meth c q C hr => m_bt_all (m_bt_all (m_bt_all (m_bt_all (m_bt_all (m_bt_all (m_lf_all (o_iconst C (x := (0)) (m_rngd rfl) dX9_ends_0 rfl)) (m_lf_all (o_istore_n C (i := 1) rfl dX9_ends_1 rfl))) (m_bt_all (m_lf_all (o_iload_n C (i := 1) rfl dX9_ends_2 rfl)) (m_lf_all (o_aload_n C (i := 0) rfl dX9_ends_3 rfl)))) (m_bt_all (m_bt_all (m_lf_all (o_get C (ci := 9) (k := 1) (N := 35) (rf := RX9) (T := TX9) rfl ginX9 (Nat.le_of_ble_eq_true rfl) (m_tb_of 927 (by decide +kernel) rfl) dX9_ends_4 rfl)) (m_lf_all (o_iconst C (x := (1)) (m_rngd rfl) dX9_ends_7 rfl))) (m_bt_all (m_lf_all (o_iald C dX9_ends_8 rfl)) (m_bt_all (m_lf_all (o_icmp_ge C dX9_ends_9 rfl rfl)) (m_lf_all (o_iconst C (x := (0)) (m_rngd rfl) dX9_ends_12 rfl)))))) (m_bt_all (m_bt_all (m_bt_all (m_lf_all (o_istore_n C (i := 2) rfl dX9_ends_13 rfl)) (m_lf_all (o_iload_n C (i := 2) rfl dX9_ends_14 rfl))) (m_bt_all (m_lf_all (o_aload_n C (i := 0) rfl dX9_ends_15 rfl)) (m_lf_all (o_get C (ci := 9) (k := 14) (N := 35) (rf := RX9) (T := TX9) rfl ginX9 (Nat.le_of_ble_eq_true rfl) (m_tb_of 940 (by decide +kernel) rfl) dX9_ends_16 rfl)))) (m_bt_all (m_bt_all (m_lf_all (o_iload_n C (i := 1) rfl dX9_ends_19 rfl)) (m_lf_all (o_iald C dX9_ends_20 rfl))) (m_bt_all (m_lf_all (o_icmp_ge C dX9_ends_21 rfl rfl)) (m_bt_all (m_lf_all (o_aload_n C (i := 0) rfl dX9_ends_24 rfl)) (m_lf_all (o_get C (ci := 9) (k := 10) (N := 35) (rf := RX9) (T := TX9) rfl ginX9 (Nat.le_of_ble_eq_true rfl) (m_tb_of 936 (by decide +kernel) rfl) dX9_ends_25 rfl))))))) (m_bt_all (m_bt_all (m_bt_all (m_bt_all (m_lf_all (o_bipush C (x := (60)) (m_rngd rfl) rfl dX9_ends_28 rfl)) (m_lf_all (o_iload_n C (i := 1) rfl dX9_ends_30 rfl))) (m_bt_all (m_lf_all (o_imul C dX9_ends_31 rfl)) (m_lf_all (o_iload_n C (i := 2) rfl dX9_ends_32 rfl)))) (m_bt_all (m_bt_all (m_lf_all (o_iadd C dX9_ends_33 rfl)) (m_lf_all (o_iald C dX9_ends_34 rfl))) (m_bt_all (m_lf_all (o_istore_n C (i := 3) rfl dX9_ends_35 rfl)) (m_bt_all (m_lf_all (o_iload_n C (i := 2) rfl dX9_ends_36 rfl)) (m_lf_all (o_if_gt C dX9_ends_37 rfl rfl)))))) (m_bt_all (m_bt_all (m_bt_all (m_lf_all (o_aload_n C (i := 0) rfl dX9_ends_40 rfl)) (m_lf_all (o_get C (ci := 9) (k := 15) (N := 35) (rf := RX9) (T := TX9) rfl ginX9 (Nat.le_of_ble_eq_true rfl) (m_tb_of 941 (by decide +kernel) rfl) dX9_ends_41 rfl))) (m_bt_all (m_lf_all (o_iload_n C (i := 1) rfl dX9_ends_44 rfl)) (m_bt_all (m_lf_all (o_iald C dX9_ends_45 rfl)) (m_lf_all (o_if_ge C dX9_ends_46 rfl rfl))))) (m_bt_all (m_bt_all (m_lf_all (o_aload_n C (i := 0) rfl dX9_ends_49 rfl)) (m_lf_all (o_get C (ci := 9) (k := 17) (N := 35) (rf := RX9) (T := TX9) rfl ginX9 (Nat.le_of_ble_eq_true rfl) (m_tb_of 943 (by decide +kernel) rfl) dX9_ends_50 rfl))) (m_bt_all (m_lf_all (o_iload_n C (i := 3) rfl dX9_ends_53 rfl)) (m_bt_all (m_lf_all (o_dup2 C dX9_ends_54 rfl)) (m_lf_all (o_iald C dX9_ends_55 rfl)))))))) (m_bt_all (m_bt_all (m_bt_all (m_bt_all (m_bt_all (m_lf_all (o_sipush C (x := (7200)) (m_rngd rfl) rfl dX9_ends_56 rfl)) (m_lf_all (o_aload_n C (i := 0) rfl dX9_ends_59 rfl))) (m_bt_all (m_lf_all (o_get C (ci := 9) (k := 11) (N := 35) (rf := RX9) (T := TX9) rfl ginX9 (Nat.le_of_ble_eq_true rfl) (m_tb_of 937 (by decide +kernel) rfl) dX9_ends_60 rfl)) (m_lf_all (o_bipush C (x := (60)) (m_rngd rfl) rfl dX9_ends_63 rfl)))) (m_bt_all (m_bt_all (m_lf_all (o_iload_n C (i := 1) rfl dX9_ends_65 rfl)) (m_lf_all (o_imul C dX9_ends_66 rfl))) (m_bt_all (m_lf_all (o_iload_n C (i := 2) rfl dX9_ends_67 rfl)) (m_bt_all (m_lf_all (o_iadd C dX9_ends_68 rfl)) (m_lf_all (o_iald C dX9_ends_69 rfl)))))) (m_bt_all (m_bt_all (m_bt_all (m_lf_all (o_isub C dX9_ends_70 rfl)) (m_lf_all (o_iadd C dX9_ends_71 rfl))) (m_bt_all (m_lf_all (o_iast C dX9_ends_72 rfl)) (m_lf_all (o_goto C dX9_ends_73 rfl)))) (m_bt_all (m_bt_all (m_lf_all (o_aload_n C (i := 0) rfl dX9_ends_76 rfl)) (m_lf_all (o_get C (ci := 9) (k := 15) (N := 35) (rf := RX9) (T := TX9) rfl ginX9 (Nat.le_of_ble_eq_true rfl) (m_tb_of 941 (by decide +kernel) rfl) dX9_ends_77 rfl))) (m_bt_all (m_lf_all (o_iload_n C (i := 1) rfl dX9_ends_80 rfl)) (m_bt_all (m_lf_all (o_iald C dX9_ends_81 rfl)) (m_lf_all (o_sipush C (x := (7200)) (m_rngd rfl) rfl dX9_ends_82 rfl))))))) (m_bt_all (m_bt_all (m_bt_all (m_bt_all (m_lf_all (o_icmp_ge C dX9_ends_85 rfl rfl)) (m_lf_all (o_aload_n C (i := 0) rfl dX9_ends_88 rfl))) (m_bt_all (m_lf_all (o_get C (ci := 9) (k := 17) (N := 35) (rf := RX9) (T := TX9) rfl ginX9 (Nat.le_of_ble_eq_true rfl) (m_tb_of 943 (by decide +kernel) rfl) dX9_ends_89 rfl)) (m_lf_all (o_iload_n C (i := 3) rfl dX9_ends_92 rfl)))) (m_bt_all (m_bt_all (m_lf_all (o_dup2 C dX9_ends_93 rfl)) (m_lf_all (o_iald C dX9_ends_94 rfl))) (m_bt_all (m_lf_all (o_sipush C (x := (7200)) (m_rngd rfl) rfl dX9_ends_95 rfl)) (m_bt_all (m_lf_all (o_aload_n C (i := 0) rfl dX9_ends_98 rfl)) (m_lf_all (o_get C (ci := 9) (k := 15) (N := 35) (rf := RX9) (T := TX9) rfl ginX9 (Nat.le_of_ble_eq_true rfl) (m_tb_of 941 (by decide +kernel) rfl) dX9_ends_99 rfl)))))) (m_bt_all (m_bt_all (m_bt_all (m_lf_all (o_iload_n C (i := 1) rfl dX9_ends_102 rfl)) (m_lf_all (o_iald C dX9_ends_103 rfl))) (m_bt_all (m_lf_all (o_isub C dX9_ends_104 rfl)) (m_bt_all (m_lf_all (o_iadd C dX9_ends_105 rfl)) (m_lf_all (o_iast C dX9_ends_106 rfl))))) (m_bt_all (m_bt_all (m_lf_all (o_iinc C dX9_ends_107 rfl)) (m_lf_all (o_goto C dX9_ends_110 rfl))) (m_bt_all (m_lf_all (o_iinc C dX9_ends_113 rfl)) (m_bt_all (m_lf_all (o_goto C dX9_ends_116 rfl)) (m_lf_all (o_vret C hr dX9_ends_119)))))))))
set_option maxRecDepth 20000 in
def kX9_day : m_C := m_bt 63 (m_bt 31 (m_bt 15 (m_bt 8 (m_bt 2 (m_bt 1 (m_lf 0 (s_push 1 (.inl (0)))) (m_lf 1 (s_ist 2 1))) (m_bt 3 (m_lf 2 (s_ild 3 1)) (m_bt 5 (m_lf 3 (s_push 5 (.inl (6)))) (m_lf 5 (s_icmp 8 51 (fun x y => y ≤ x)))))) (m_bt 12 (m_bt 9 (m_lf 8 (s_ald 9 0)) (m_lf 9 (s_get 12 9 14))) (m_bt 13 (m_lf 12 (s_ild 13 1)) (m_bt 14 (m_lf 13 (s_push 14 (.inl (0)))) (m_lf 14 (s_iast 15)))))) (m_bt 23 (m_bt 19 (m_bt 16 (m_lf 15 (s_ald 16 0)) (m_lf 16 (s_get 19 9 15))) (m_bt 20 (m_lf 19 (s_ild 20 1)) (m_bt 22 (m_lf 20 (s_push 22 (.inl (-9)))) (m_lf 22 (s_iast 23))))) (m_bt 27 (m_bt 24 (m_lf 23 (s_ald 24 0)) (m_lf 24 (s_get 27 9 16))) (m_bt 28 (m_lf 27 (s_ild 28 1)) (m_bt 30 (m_lf 28 (s_push 30 (.inl (-9)))) (m_lf 30 (s_iast 31))))))) (m_bt 45 (m_bt 38 (m_bt 35 (m_bt 32 (m_lf 31 (s_ald 32 0)) (m_lf 32 (s_get 35 9 21))) (m_bt 36 (m_lf 35 (s_ild 36 1)) (m_bt 37 (m_lf 36 (s_push 37 (.inl (0)))) (m_lf 37 (s_iast 38))))) (m_bt 42 (m_bt 39 (m_lf 38 (s_ald 39 0)) (m_lf 39 (s_get 42 9 22))) (m_bt 43 (m_lf 42 (s_ild 43 1)) (m_bt 44 (m_lf 43 (s_push 44 (.inl (0)))) (m_lf 44 (s_iast 45)))))) (m_bt 54 (m_bt 51 (m_bt 48 (m_lf 45 (s_inc 48 1 (1))) (m_lf 48 (s_goto 2))) (m_bt 52 (m_lf 51 (s_push 52 (.inl (0)))) (m_bt 53 (m_lf 52 (s_ist 53 1)) (m_lf 53 (s_ild 54 1))))) (m_bt 58 (m_bt 55 (m_lf 54 (s_push 55 (.inl (5)))) (m_lf 55 (s_icmp 58 92 (fun x y => y ≤ x)))) (m_bt 59 (m_lf 58 (s_ald 59 0)) (m_bt 62 (m_lf 59 (s_get 62 9 17)) (m_lf 62 (s_ild 63 1)))))))) (m_bt 93 (m_bt 77 (m_bt 70 (m_bt 65 (m_bt 64 (m_lf 63 (s_push 64 (.inl (0)))) (m_lf 64 (s_iast 65))) (m_bt 66 (m_lf 65 (s_ald 66 0)) (m_bt 69 (m_lf 66 (s_get 69 9 18)) (m_lf 69 (s_ild 70 1))))) (m_bt 72 (m_bt 71 (m_lf 70 (s_push 71 (.inl (0)))) (m_lf 71 (s_iast 72))) (m_bt 73 (m_lf 72 (s_ald 73 0)) (m_bt 76 (m_lf 73 (s_get 76 9 19)) (m_lf 76 (s_ild 77 1)))))) (m_bt 84 (m_bt 79 (m_bt 78 (m_lf 77 (s_push 78 (.inl (0)))) (m_lf 78 (s_iast 79))) (m_bt 80 (m_lf 79 (s_ald 80 0)) (m_bt 83 (m_lf 80 (s_get 83 9 20)) (m_lf 83 (s_ild 84 1))))) (m_bt 86 (m_bt 85 (m_lf 84 (s_push 85 (.inl (0)))) (m_lf 85 (s_iast 86))) (m_bt 89 (m_lf 86 (s_inc 89 1 (1))) (m_bt 92 (m_lf 89 (s_goto 53)) (m_lf 92 (s_ald 93 0))))))) (m_bt 110 (m_bt 102 (m_bt 97 (m_bt 94 (m_lf 93 (s_push 94 (.inl (0)))) (m_lf 94 (s_put 97 9 23))) (m_bt 98 (m_lf 97 (s_ald 98 0)) (m_bt 99 (m_lf 98 (s_push 99 (.inl (0)))) (m_lf 99 (s_put 102 9 24))))) (m_bt 105 (m_bt 103 (m_lf 102 (s_ald 103 0)) (m_lf 103 (s_push 105 (.inl (-9))))) (m_bt 108 (m_lf 105 (s_put 108 9 25)) (m_bt 109 (m_lf 108 (s_push 109 (.inl (0)))) (m_lf 109 (s_ist 110 1)))))) (m_bt 119 (m_bt 114 (m_bt 111 (m_lf 110 (s_ild 111 1)) (m_lf 111 (s_push 114 (.inl (7200))))) (m_bt 117 (m_lf 114 (s_icmp 117 128 (fun x y => y ≤ x))) (m_bt 118 (m_lf 117 (s_ald 118 0)) (m_lf 118 (s_ild 119 1))))) (m_bt 128 (m_bt 122 (m_lf 119 (s_callV 122 2 9 wX9_second)) (m_bt 125 (m_lf 122 (s_inc 125 1 (1))) (m_lf 125 (s_goto 110)))) (m_bt 129 (m_lf 128 (s_ald 129 0)) (m_bt 132 (m_lf 129 (s_callV 132 1 9 wX9_ends)) (m_lf 132 (s_retv))))))))
theorem kX9_day_0 : kX9_day 0 = some (s_push 1 (.inl (0))) := rfl
theorem kX9_day_1 : kX9_day 1 = some (s_ist 2 1) := rfl
theorem kX9_day_2 : kX9_day 2 = some (s_ild 3 1) := rfl
theorem kX9_day_3 : kX9_day 3 = some (s_push 5 (.inl (6))) := rfl
theorem kX9_day_5 : kX9_day 5 = some (s_icmp 8 51 (fun x y => y ≤ x)) := rfl
theorem kX9_day_8 : kX9_day 8 = some (s_ald 9 0) := rfl
theorem kX9_day_9 : kX9_day 9 = some (s_get 12 9 14) := rfl
theorem kX9_day_12 : kX9_day 12 = some (s_ild 13 1) := rfl
theorem kX9_day_13 : kX9_day 13 = some (s_push 14 (.inl (0))) := rfl
theorem kX9_day_14 : kX9_day 14 = some (s_iast 15) := rfl
theorem kX9_day_15 : kX9_day 15 = some (s_ald 16 0) := rfl
theorem kX9_day_16 : kX9_day 16 = some (s_get 19 9 15) := rfl
theorem kX9_day_19 : kX9_day 19 = some (s_ild 20 1) := rfl
theorem kX9_day_20 : kX9_day 20 = some (s_push 22 (.inl (-9))) := rfl
theorem kX9_day_22 : kX9_day 22 = some (s_iast 23) := rfl
theorem kX9_day_23 : kX9_day 23 = some (s_ald 24 0) := rfl
theorem kX9_day_24 : kX9_day 24 = some (s_get 27 9 16) := rfl
theorem kX9_day_27 : kX9_day 27 = some (s_ild 28 1) := rfl
theorem kX9_day_28 : kX9_day 28 = some (s_push 30 (.inl (-9))) := rfl
theorem kX9_day_30 : kX9_day 30 = some (s_iast 31) := rfl
theorem kX9_day_31 : kX9_day 31 = some (s_ald 32 0) := rfl
theorem kX9_day_32 : kX9_day 32 = some (s_get 35 9 21) := rfl
theorem kX9_day_35 : kX9_day 35 = some (s_ild 36 1) := rfl
theorem kX9_day_36 : kX9_day 36 = some (s_push 37 (.inl (0))) := rfl
theorem kX9_day_37 : kX9_day 37 = some (s_iast 38) := rfl
theorem kX9_day_38 : kX9_day 38 = some (s_ald 39 0) := rfl
theorem kX9_day_39 : kX9_day 39 = some (s_get 42 9 22) := rfl
theorem kX9_day_42 : kX9_day 42 = some (s_ild 43 1) := rfl
theorem kX9_day_43 : kX9_day 43 = some (s_push 44 (.inl (0))) := rfl
theorem kX9_day_44 : kX9_day 44 = some (s_iast 45) := rfl
theorem kX9_day_45 : kX9_day 45 = some (s_inc 48 1 (1)) := rfl
theorem kX9_day_48 : kX9_day 48 = some (s_goto 2) := rfl
theorem kX9_day_51 : kX9_day 51 = some (s_push 52 (.inl (0))) := rfl
theorem kX9_day_52 : kX9_day 52 = some (s_ist 53 1) := rfl
theorem kX9_day_53 : kX9_day 53 = some (s_ild 54 1) := rfl
theorem kX9_day_54 : kX9_day 54 = some (s_push 55 (.inl (5))) := rfl
theorem kX9_day_55 : kX9_day 55 = some (s_icmp 58 92 (fun x y => y ≤ x)) := rfl
theorem kX9_day_58 : kX9_day 58 = some (s_ald 59 0) := rfl
theorem kX9_day_59 : kX9_day 59 = some (s_get 62 9 17) := rfl
theorem kX9_day_62 : kX9_day 62 = some (s_ild 63 1) := rfl
theorem kX9_day_63 : kX9_day 63 = some (s_push 64 (.inl (0))) := rfl
theorem kX9_day_64 : kX9_day 64 = some (s_iast 65) := rfl
theorem kX9_day_65 : kX9_day 65 = some (s_ald 66 0) := rfl
theorem kX9_day_66 : kX9_day 66 = some (s_get 69 9 18) := rfl
theorem kX9_day_69 : kX9_day 69 = some (s_ild 70 1) := rfl
theorem kX9_day_70 : kX9_day 70 = some (s_push 71 (.inl (0))) := rfl
theorem kX9_day_71 : kX9_day 71 = some (s_iast 72) := rfl
theorem kX9_day_72 : kX9_day 72 = some (s_ald 73 0) := rfl
theorem kX9_day_73 : kX9_day 73 = some (s_get 76 9 19) := rfl
theorem kX9_day_76 : kX9_day 76 = some (s_ild 77 1) := rfl
theorem kX9_day_77 : kX9_day 77 = some (s_push 78 (.inl (0))) := rfl
theorem kX9_day_78 : kX9_day 78 = some (s_iast 79) := rfl
theorem kX9_day_79 : kX9_day 79 = some (s_ald 80 0) := rfl
theorem kX9_day_80 : kX9_day 80 = some (s_get 83 9 20) := rfl
theorem kX9_day_83 : kX9_day 83 = some (s_ild 84 1) := rfl
theorem kX9_day_84 : kX9_day 84 = some (s_push 85 (.inl (0))) := rfl
theorem kX9_day_85 : kX9_day 85 = some (s_iast 86) := rfl
theorem kX9_day_86 : kX9_day 86 = some (s_inc 89 1 (1)) := rfl
theorem kX9_day_89 : kX9_day 89 = some (s_goto 53) := rfl
theorem kX9_day_92 : kX9_day 92 = some (s_ald 93 0) := rfl
theorem kX9_day_93 : kX9_day 93 = some (s_push 94 (.inl (0))) := rfl
theorem kX9_day_94 : kX9_day 94 = some (s_put 97 9 23) := rfl
theorem kX9_day_97 : kX9_day 97 = some (s_ald 98 0) := rfl
theorem kX9_day_98 : kX9_day 98 = some (s_push 99 (.inl (0))) := rfl
theorem kX9_day_99 : kX9_day 99 = some (s_put 102 9 24) := rfl
theorem kX9_day_102 : kX9_day 102 = some (s_ald 103 0) := rfl
theorem kX9_day_103 : kX9_day 103 = some (s_push 105 (.inl (-9))) := rfl
theorem kX9_day_105 : kX9_day 105 = some (s_put 108 9 25) := rfl
theorem kX9_day_108 : kX9_day 108 = some (s_push 109 (.inl (0))) := rfl
theorem kX9_day_109 : kX9_day 109 = some (s_ist 110 1) := rfl
theorem kX9_day_110 : kX9_day 110 = some (s_ild 111 1) := rfl
theorem kX9_day_111 : kX9_day 111 = some (s_push 114 (.inl (7200))) := rfl
theorem kX9_day_114 : kX9_day 114 = some (s_icmp 117 128 (fun x y => y ≤ x)) := rfl
theorem kX9_day_117 : kX9_day 117 = some (s_ald 118 0) := rfl
theorem kX9_day_118 : kX9_day 118 = some (s_ild 119 1) := rfl
theorem kX9_day_119 : kX9_day 119 = some (s_callV 122 2 9 wX9_second) := rfl
theorem kX9_day_122 : kX9_day 122 = some (s_inc 125 1 (1)) := rfl
theorem kX9_day_125 : kX9_day 125 = some (s_goto 110) := rfl
theorem kX9_day_128 : kX9_day 128 = some (s_ald 129 0) := rfl
theorem kX9_day_129 : kX9_day 129 = some (s_callV 132 1 9 wX9_ends) := rfl
theorem kX9_day_132 : kX9_day 132 = some (s_retv) := rfl
def wX9_day : m_GK := m_wp 2 kX9_day
set_option maxRecDepth 100000 in
set_option maxHeartbeats 4000000 in
theorem sX9_day (l : Launch) (X : m_X) (hX : m_inj X.1) : m_Sound l X 8 yX9_day cX9_day 2 none wX9_day := m_sound_of hX (by decide) (fun p e s m args below meth c q C hr => m_bt_all (m_bt_all (m_bt_all (m_bt_all (m_bt_all (m_bt_all (m_lf_all (o_iconst C (x := (0)) (m_rngd rfl) dX9_day_0 rfl)) (m_lf_all (o_istore_n C (i := 1) rfl dX9_day_1 rfl))) (m_bt_all (m_lf_all (o_iload_n C (i := 1) rfl dX9_day_2 rfl)) (m_bt_all (m_lf_all (o_bipush C (x := (6)) (m_rngd rfl) rfl dX9_day_3 rfl)) (m_lf_all (o_icmp_ge C dX9_day_5 rfl rfl))))) (m_bt_all (m_bt_all (m_lf_all (o_aload_n C (i := 0) rfl dX9_day_8 rfl)) (m_lf_all (o_get C (ci := 9) (k := 14) (N := 35) (rf := RX9) (T := TX9) rfl ginX9 (Nat.le_of_ble_eq_true rfl) (m_tb_of 940 (by decide +kernel) rfl) dX9_day_9 rfl))) (m_bt_all (m_lf_all (o_iload_n C (i := 1) rfl dX9_day_12 rfl)) (m_bt_all (m_lf_all (o_iconst C (x := (0)) (m_rngd rfl) dX9_day_13 rfl)) (m_lf_all (o_iast C dX9_day_14 rfl)))))) (m_bt_all (m_bt_all (m_bt_all (m_lf_all (o_aload_n C (i := 0) rfl dX9_day_15 rfl)) (m_lf_all (o_get C (ci := 9) (k := 15) (N := 35) (rf := RX9) (T := TX9) rfl ginX9 (Nat.le_of_ble_eq_true rfl) (m_tb_of 941 (by decide +kernel) rfl) dX9_day_16 rfl))) (m_bt_all (m_lf_all (o_iload_n C (i := 1) rfl dX9_day_19 rfl)) (m_bt_all (m_lf_all (o_bipush C (x := (-9)) (m_rngd rfl) rfl dX9_day_20 rfl)) (m_lf_all (o_iast C dX9_day_22 rfl))))) (m_bt_all (m_bt_all (m_lf_all (o_aload_n C (i := 0) rfl dX9_day_23 rfl)) (m_lf_all (o_get C (ci := 9) (k := 16) (N := 35) (rf := RX9) (T := TX9) rfl ginX9 (Nat.le_of_ble_eq_true rfl) (m_tb_of 942 (by decide +kernel) rfl) dX9_day_24 rfl))) (m_bt_all (m_lf_all (o_iload_n C (i := 1) rfl dX9_day_27 rfl)) (m_bt_all (m_lf_all (o_bipush C (x := (-9)) (m_rngd rfl) rfl dX9_day_28 rfl)) (m_lf_all (o_iast C dX9_day_30 rfl))))))) (m_bt_all (m_bt_all (m_bt_all (m_bt_all (m_lf_all (o_aload_n C (i := 0) rfl dX9_day_31 rfl)) (m_lf_all (o_get C (ci := 9) (k := 21) (N := 35) (rf := RX9) (T := TX9) rfl ginX9 (Nat.le_of_ble_eq_true rfl) (m_tb_of 947 (by decide +kernel) rfl) dX9_day_32 rfl))) (m_bt_all (m_lf_all (o_iload_n C (i := 1) rfl dX9_day_35 rfl)) (m_bt_all (m_lf_all (o_iconst C (x := (0)) (m_rngd rfl) dX9_day_36 rfl)) (m_lf_all (o_iast C dX9_day_37 rfl))))) (m_bt_all (m_bt_all (m_lf_all (o_aload_n C (i := 0) rfl dX9_day_38 rfl)) (m_lf_all (o_get C (ci := 9) (k := 22) (N := 35) (rf := RX9) (T := TX9) rfl ginX9 (Nat.le_of_ble_eq_true rfl) (m_tb_of 948 (by decide +kernel) rfl) dX9_day_39 rfl))) (m_bt_all (m_lf_all (o_iload_n C (i := 1) rfl dX9_day_42 rfl)) (m_bt_all (m_lf_all (o_iconst C (x := (0)) (m_rngd rfl) dX9_day_43 rfl)) (m_lf_all (o_iast C dX9_day_44 rfl)))))) (m_bt_all (m_bt_all (m_bt_all (m_lf_all (o_iinc C dX9_day_45 rfl)) (m_lf_all (o_goto C dX9_day_48 rfl))) (m_bt_all (m_lf_all (o_iconst C (x := (0)) (m_rngd rfl) dX9_day_51 rfl)) (m_bt_all (m_lf_all (o_istore_n C (i := 1) rfl dX9_day_52 rfl)) (m_lf_all (o_iload_n C (i := 1) rfl dX9_day_53 rfl))))) (m_bt_all (m_bt_all (m_lf_all (o_iconst C (x := (5)) (m_rngd rfl) dX9_day_54 rfl)) (m_lf_all (o_icmp_ge C dX9_day_55 rfl rfl))) (m_bt_all (m_lf_all (o_aload_n C (i := 0) rfl dX9_day_58 rfl)) (m_bt_all (m_lf_all (o_get C (ci := 9) (k := 17) (N := 35) (rf := RX9) (T := TX9) rfl ginX9 (Nat.le_of_ble_eq_true rfl) (m_tb_of 943 (by decide +kernel) rfl) dX9_day_59 rfl)) (m_lf_all (o_iload_n C (i := 1) rfl dX9_day_62 rfl)))))))) (m_bt_all (m_bt_all (m_bt_all (m_bt_all (m_bt_all (m_lf_all (o_iconst C (x := (0)) (m_rngd rfl) dX9_day_63 rfl)) (m_lf_all (o_iast C dX9_day_64 rfl))) (m_bt_all (m_lf_all (o_aload_n C (i := 0) rfl dX9_day_65 rfl)) (m_bt_all (m_lf_all (o_get C (ci := 9) (k := 18) (N := 35) (rf := RX9) (T := TX9) rfl ginX9 (Nat.le_of_ble_eq_true rfl) (m_tb_of 944 (by decide +kernel) rfl) dX9_day_66 rfl)) (m_lf_all (o_iload_n C (i := 1) rfl dX9_day_69 rfl))))) (m_bt_all (m_bt_all (m_lf_all (o_iconst C (x := (0)) (m_rngd rfl) dX9_day_70 rfl)) (m_lf_all (o_iast C dX9_day_71 rfl))) (m_bt_all (m_lf_all (o_aload_n C (i := 0) rfl dX9_day_72 rfl)) (m_bt_all (m_lf_all (o_get C (ci := 9) (k := 19) (N := 35) (rf := RX9) (T := TX9) rfl ginX9 (Nat.le_of_ble_eq_true rfl) (m_tb_of 945 (by decide +kernel) rfl) dX9_day_73 rfl)) (m_lf_all (o_iload_n C (i := 1) rfl dX9_day_76 rfl)))))) (m_bt_all (m_bt_all (m_bt_all (m_lf_all (o_iconst C (x := (0)) (m_rngd rfl) dX9_day_77 rfl)) (m_lf_all (o_iast C dX9_day_78 rfl))) (m_bt_all (m_lf_all (o_aload_n C (i := 0) rfl dX9_day_79 rfl)) (m_bt_all (m_lf_all (o_get C (ci := 9) (k := 20) (N := 35) (rf := RX9) (T := TX9) rfl ginX9 (Nat.le_of_ble_eq_true rfl) (m_tb_of 946 (by decide +kernel) rfl) dX9_day_80 rfl)) (m_lf_all (o_iload_n C (i := 1) rfl dX9_day_83 rfl))))) (m_bt_all (m_bt_all (m_lf_all (o_iconst C (x := (0)) (m_rngd rfl) dX9_day_84 rfl)) (m_lf_all (o_iast C dX9_day_85 rfl))) (m_bt_all (m_lf_all (o_iinc C dX9_day_86 rfl)) (m_bt_all (m_lf_all (o_goto C dX9_day_89 rfl)) (m_lf_all (o_aload_n C (i := 0) rfl dX9_day_92 rfl))))))) (m_bt_all (m_bt_all (m_bt_all (m_bt_all (m_lf_all (o_iconst C (x := (0)) (m_rngd rfl) dX9_day_93 rfl)) (m_lf_all (o_put C (ci := 9) (k := 23) (N := 35) (rf := RX9) (T := TX9) rfl ginX9 (Nat.le_of_ble_eq_true rfl) (m_tb_of 949 (by decide +kernel) rfl) (ty0 := tyX9) tyX9_ok nmX9 rfl rfl dX9_day_94 rfl))) (m_bt_all (m_lf_all (o_aload_n C (i := 0) rfl dX9_day_97 rfl)) (m_bt_all (m_lf_all (o_iconst C (x := (0)) (m_rngd rfl) dX9_day_98 rfl)) (m_lf_all (o_put C (ci := 9) (k := 24) (N := 35) (rf := RX9) (T := TX9) rfl ginX9 (Nat.le_of_ble_eq_true rfl) (m_tb_of 950 (by decide +kernel) rfl) (ty0 := tyX9) tyX9_ok nmX9 rfl rfl dX9_day_99 rfl))))) (m_bt_all (m_bt_all (m_lf_all (o_aload_n C (i := 0) rfl dX9_day_102 rfl)) (m_lf_all (o_bipush C (x := (-9)) (m_rngd rfl) rfl dX9_day_103 rfl))) (m_bt_all (m_lf_all (o_put C (ci := 9) (k := 25) (N := 35) (rf := RX9) (T := TX9) rfl ginX9 (Nat.le_of_ble_eq_true rfl) (m_tb_of 951 (by decide +kernel) rfl) (ty0 := tyX9) tyX9_ok nmX9 rfl rfl dX9_day_105 rfl)) (m_bt_all (m_lf_all (o_iconst C (x := (0)) (m_rngd rfl) dX9_day_108 rfl)) (m_lf_all (o_istore_n C (i := 1) rfl dX9_day_109 rfl)))))) (m_bt_all (m_bt_all (m_bt_all (m_lf_all (o_iload_n C (i := 1) rfl dX9_day_110 rfl)) (m_lf_all (o_sipush C (x := (7200)) (m_rngd rfl) rfl dX9_day_111 rfl))) (m_bt_all (m_lf_all (o_icmp_ge C dX9_day_114 rfl rfl)) (m_bt_all (m_lf_all (o_aload_n C (i := 0) rfl dX9_day_117 rfl)) (m_lf_all (o_iload_n C (i := 1) rfl dX9_day_118 rfl))))) (m_bt_all (m_bt_all (m_lf_all (o_callV C (T := TX9) (N := 35) (sX9_second l X hX) rfl (m_in_of [1134, 1136, 45, 81] (by decide +kernel) (by decide +kernel)) (m_tb_of 1137 (by decide +kernel) rfl) (by decide +kernel) rfl ⟨Nat.le_of_ble_eq_true rfl, Nat.le_of_ble_eq_true rfl⟩ dX9_day_119 rfl)) (m_bt_all (m_lf_all (o_iinc C dX9_day_122 rfl)) (m_lf_all (o_goto C dX9_day_125 rfl)))) (m_bt_all (m_lf_all (o_aload_n C (i := 0) rfl dX9_day_128 rfl)) (m_bt_all (m_lf_all (o_callV C (T := TX9) (N := 35) (sX9_ends l X hX) rfl (m_in_of [1201, 1203, 61, 81] (by decide +kernel) (by decide +kernel)) (m_tb_of 1204 (by decide +kernel) rfl) (by decide +kernel) rfl ⟨Nat.le_of_ble_eq_true rfl, Nat.le_of_ble_eq_true rfl⟩ dX9_day_129 rfl)) (m_lf_all (o_vret C hr dX9_day_132)))))))))
set_option maxRecDepth 20000 in
def kX9_costNow : m_C := m_bt 25 (m_bt 10 (m_bt 6 (m_bt 4 (m_bt 1 (m_lf 0 (s_ald 1 0)) (m_lf 1 (s_callV 4 1 9 wX9_day))) (m_bt 5 (m_lf 4 (s_push 5 (.inl (0)))) (m_lf 5 (s_ist 6 1)))) (m_bt 8 (m_bt 7 (m_lf 6 (s_push 7 (.inl (0)))) (m_lf 7 (s_ist 8 2))) (m_bt 9 (m_lf 8 (s_ild 9 2)) (m_lf 9 (s_ald 10 0))))) (m_bt 18 (m_bt 14 (m_bt 13 (m_lf 10 (s_get 13 9 1)) (m_lf 13 (s_push 14 (.inl (0))))) (m_bt 15 (m_lf 14 (s_iald 15)) (m_lf 15 (s_icmp 18 50 (fun x y => y ≤ x))))) (m_bt 20 (m_bt 19 (m_lf 18 (s_ild 19 1)) (m_lf 19 (s_ald 20 0))) (m_bt 23 (m_lf 20 (s_get 23 9 17)) (m_bt 24 (m_lf 23 (s_ild 24 2)) (m_lf 24 (s_iald 25))))))) (m_bt 39 (m_bt 31 (m_bt 27 (m_bt 26 (m_lf 25 (s_ald 26 0)) (m_lf 26 (s_ild 27 2))) (m_bt 30 (m_lf 27 (s_callV 30 2 9 wX9_worthOf)) (m_lf 30 (s_bin 31 (fun x y => m_wrap (x * y)))))) (m_bt 35 (m_bt 34 (m_lf 31 (s_push 34 (.inl (1000)))) (m_lf 34 (s_ald 35 0))) (m_bt 38 (m_lf 35 (s_get 38 9 20)) (m_lf 38 (s_ild 39 2))))) (m_bt 43 (m_bt 41 (m_bt 40 (m_lf 39 (s_iald 40)) (m_lf 40 (s_bin 41 (fun x y => m_wrap (x * y))))) (m_bt 42 (m_lf 41 (s_bin 42 (fun x y => m_wrap (x + y)))) (m_lf 42 (s_bin 43 (fun x y => m_wrap (x + y)))))) (m_bt 47 (m_bt 44 (m_lf 43 (s_ist 44 1)) (m_lf 44 (s_inc 47 2 (1)))) (m_bt 50 (m_lf 47 (s_goto 8)) (m_bt 51 (m_lf 50 (s_ild 51 1)) (m_lf 51 (s_ret)))))))
theorem kX9_costNow_0 : kX9_costNow 0 = some (s_ald 1 0) := rfl
theorem kX9_costNow_1 : kX9_costNow 1 = some (s_callV 4 1 9 wX9_day) := rfl
theorem kX9_costNow_4 : kX9_costNow 4 = some (s_push 5 (.inl (0))) := rfl
theorem kX9_costNow_5 : kX9_costNow 5 = some (s_ist 6 1) := rfl
theorem kX9_costNow_6 : kX9_costNow 6 = some (s_push 7 (.inl (0))) := rfl
theorem kX9_costNow_7 : kX9_costNow 7 = some (s_ist 8 2) := rfl
theorem kX9_costNow_8 : kX9_costNow 8 = some (s_ild 9 2) := rfl
theorem kX9_costNow_9 : kX9_costNow 9 = some (s_ald 10 0) := rfl
theorem kX9_costNow_10 : kX9_costNow 10 = some (s_get 13 9 1) := rfl
theorem kX9_costNow_13 : kX9_costNow 13 = some (s_push 14 (.inl (0))) := rfl
theorem kX9_costNow_14 : kX9_costNow 14 = some (s_iald 15) := rfl
theorem kX9_costNow_15 : kX9_costNow 15 = some (s_icmp 18 50 (fun x y => y ≤ x)) := rfl
theorem kX9_costNow_18 : kX9_costNow 18 = some (s_ild 19 1) := rfl
theorem kX9_costNow_19 : kX9_costNow 19 = some (s_ald 20 0) := rfl
theorem kX9_costNow_20 : kX9_costNow 20 = some (s_get 23 9 17) := rfl
theorem kX9_costNow_23 : kX9_costNow 23 = some (s_ild 24 2) := rfl
theorem kX9_costNow_24 : kX9_costNow 24 = some (s_iald 25) := rfl
theorem kX9_costNow_25 : kX9_costNow 25 = some (s_ald 26 0) := rfl
theorem kX9_costNow_26 : kX9_costNow 26 = some (s_ild 27 2) := rfl
theorem kX9_costNow_27 : kX9_costNow 27 = some (s_callV 30 2 9 wX9_worthOf) := rfl
theorem kX9_costNow_30 : kX9_costNow 30 = some (s_bin 31 (fun x y => m_wrap (x * y))) := rfl
theorem kX9_costNow_31 : kX9_costNow 31 = some (s_push 34 (.inl (1000))) := rfl
theorem kX9_costNow_34 : kX9_costNow 34 = some (s_ald 35 0) := rfl
theorem kX9_costNow_35 : kX9_costNow 35 = some (s_get 38 9 20) := rfl
theorem kX9_costNow_38 : kX9_costNow 38 = some (s_ild 39 2) := rfl
theorem kX9_costNow_39 : kX9_costNow 39 = some (s_iald 40) := rfl
theorem kX9_costNow_40 : kX9_costNow 40 = some (s_bin 41 (fun x y => m_wrap (x * y))) := rfl
theorem kX9_costNow_41 : kX9_costNow 41 = some (s_bin 42 (fun x y => m_wrap (x + y))) := rfl
theorem kX9_costNow_42 : kX9_costNow 42 = some (s_bin 43 (fun x y => m_wrap (x + y))) := rfl
theorem kX9_costNow_43 : kX9_costNow 43 = some (s_ist 44 1) := rfl
theorem kX9_costNow_44 : kX9_costNow 44 = some (s_inc 47 2 (1)) := rfl
theorem kX9_costNow_47 : kX9_costNow 47 = some (s_goto 8) := rfl
theorem kX9_costNow_50 : kX9_costNow 50 = some (s_ild 51 1) := rfl
theorem kX9_costNow_51 : kX9_costNow 51 = some (s_ret) := rfl
def wX9_costNow : m_GK := m_wp 3 kX9_costNow
set_option maxRecDepth 100000 in
set_option maxHeartbeats 4000000 in
theorem sX9_costNow (l : Launch) (X : m_X) (hX : m_inj X.1) : m_Sound l X 9 yX9_costNow cX9_costNow 3 (some .int) wX9_costNow := m_sound_of hX (by decide) (fun p e s m args below meth c q C hr => m_bt_all (m_bt_all (m_bt_all (m_bt_all (m_bt_all (m_lf_all (o_aload_n C (i := 0) rfl dX9_costNow_0 rfl)) (m_lf_all (o_callV C (T := TX9) (N := 35) (sX9_day l X hX) rfl (m_in_of [1130, 1132, 44, 81] (by decide +kernel) (by decide +kernel)) (m_tb_of 1133 (by decide +kernel) rfl) (by decide +kernel) rfl ⟨Nat.le_of_ble_eq_true rfl, Nat.le_of_ble_eq_true rfl⟩ dX9_costNow_1 rfl))) (m_bt_all (m_lf_all (o_iconst C (x := (0)) (m_rngd rfl) dX9_costNow_4 rfl)) (m_lf_all (o_istore_n C (i := 1) rfl dX9_costNow_5 rfl)))) (m_bt_all (m_bt_all (m_lf_all (o_iconst C (x := (0)) (m_rngd rfl) dX9_costNow_6 rfl)) (m_lf_all (o_istore_n C (i := 2) rfl dX9_costNow_7 rfl))) (m_bt_all (m_lf_all (o_iload_n C (i := 2) rfl dX9_costNow_8 rfl)) (m_lf_all (o_aload_n C (i := 0) rfl dX9_costNow_9 rfl))))) (m_bt_all (m_bt_all (m_bt_all (m_lf_all (o_get C (ci := 9) (k := 1) (N := 35) (rf := RX9) (T := TX9) rfl ginX9 (Nat.le_of_ble_eq_true rfl) (m_tb_of 927 (by decide +kernel) rfl) dX9_costNow_10 rfl)) (m_lf_all (o_iconst C (x := (0)) (m_rngd rfl) dX9_costNow_13 rfl))) (m_bt_all (m_lf_all (o_iald C dX9_costNow_14 rfl)) (m_lf_all (o_icmp_ge C dX9_costNow_15 rfl rfl)))) (m_bt_all (m_bt_all (m_lf_all (o_iload_n C (i := 1) rfl dX9_costNow_18 rfl)) (m_lf_all (o_aload_n C (i := 0) rfl dX9_costNow_19 rfl))) (m_bt_all (m_lf_all (o_get C (ci := 9) (k := 17) (N := 35) (rf := RX9) (T := TX9) rfl ginX9 (Nat.le_of_ble_eq_true rfl) (m_tb_of 943 (by decide +kernel) rfl) dX9_costNow_20 rfl)) (m_bt_all (m_lf_all (o_iload_n C (i := 2) rfl dX9_costNow_23 rfl)) (m_lf_all (o_iald C dX9_costNow_24 rfl))))))) (m_bt_all (m_bt_all (m_bt_all (m_bt_all (m_lf_all (o_aload_n C (i := 0) rfl dX9_costNow_25 rfl)) (m_lf_all (o_iload_n C (i := 2) rfl dX9_costNow_26 rfl))) (m_bt_all (m_lf_all (o_callV C (T := TX9) (N := 35) (sX9_worthOf l X hX) rfl (m_in_of [1205, 1207, 62, 81] (by decide +kernel) (by decide +kernel)) (m_tb_of 1208 (by decide +kernel) rfl) (by decide +kernel) rfl ⟨Nat.le_of_ble_eq_true rfl, Nat.le_of_ble_eq_true rfl⟩ dX9_costNow_27 rfl)) (m_lf_all (o_imul C dX9_costNow_30 rfl)))) (m_bt_all (m_bt_all (m_lf_all (o_sipush C (x := (1000)) (m_rngd rfl) rfl dX9_costNow_31 rfl)) (m_lf_all (o_aload_n C (i := 0) rfl dX9_costNow_34 rfl))) (m_bt_all (m_lf_all (o_get C (ci := 9) (k := 20) (N := 35) (rf := RX9) (T := TX9) rfl ginX9 (Nat.le_of_ble_eq_true rfl) (m_tb_of 946 (by decide +kernel) rfl) dX9_costNow_35 rfl)) (m_lf_all (o_iload_n C (i := 2) rfl dX9_costNow_38 rfl))))) (m_bt_all (m_bt_all (m_bt_all (m_lf_all (o_iald C dX9_costNow_39 rfl)) (m_lf_all (o_imul C dX9_costNow_40 rfl))) (m_bt_all (m_lf_all (o_iadd C dX9_costNow_41 rfl)) (m_lf_all (o_iadd C dX9_costNow_42 rfl)))) (m_bt_all (m_bt_all (m_lf_all (o_istore_n C (i := 1) rfl dX9_costNow_43 rfl)) (m_lf_all (o_iinc C dX9_costNow_44 rfl))) (m_bt_all (m_lf_all (o_goto C dX9_costNow_47 rfl)) (m_bt_all (m_lf_all (o_iload_n C (i := 1) rfl dX9_costNow_50 rfl)) (m_lf_all (o_iret C hr dX9_costNow_51))))))))
set_option maxRecDepth 20000 in
def kX9_costOf : m_C := m_bt 6 (m_bt 1 (m_lf 0 (s_ald 1 0)) (m_bt 3 (m_lf 1 (s_push 3 (.inl (-9)))) (m_lf 3 (s_put 6 9 26)))) (m_bt 7 (m_lf 6 (s_ald 7 0)) (m_bt 10 (m_lf 7 (s_callV 10 1 9 wX9_costNow)) (m_lf 10 (s_ret))))
theorem kX9_costOf_0 : kX9_costOf 0 = some (s_ald 1 0) := rfl
theorem kX9_costOf_1 : kX9_costOf 1 = some (s_push 3 (.inl (-9))) := rfl
theorem kX9_costOf_3 : kX9_costOf 3 = some (s_put 6 9 26) := rfl
theorem kX9_costOf_6 : kX9_costOf 6 = some (s_ald 7 0) := rfl
theorem kX9_costOf_7 : kX9_costOf 7 = some (s_callV 10 1 9 wX9_costNow) := rfl
theorem kX9_costOf_10 : kX9_costOf 10 = some (s_ret) := rfl
def wX9_costOf : m_GK := m_wp 1 kX9_costOf
set_option maxRecDepth 100000 in
set_option maxHeartbeats 4000000 in
theorem sX9_costOf (l : Launch) (X : m_X) (hX : m_inj X.1) : m_Sound l X 10 yX9_costOf cX9_costOf 1 (some .int) wX9_costOf := m_sound_of hX (by decide) (fun p e s m args below meth c q C hr => m_bt_all (m_bt_all (m_lf_all (o_aload_n C (i := 0) rfl dX9_costOf_0 rfl)) (m_bt_all (m_lf_all (o_bipush C (x := (-9)) (m_rngd rfl) rfl dX9_costOf_1 rfl)) (m_lf_all (o_put C (ci := 9) (k := 26) (N := 35) (rf := RX9) (T := TX9) rfl ginX9 (Nat.le_of_ble_eq_true rfl) (m_tb_of 952 (by decide +kernel) rfl) (ty0 := tyX9) tyX9_ok nmX9 rfl rfl dX9_costOf_3 rfl)))) (m_bt_all (m_lf_all (o_aload_n C (i := 0) rfl dX9_costOf_6 rfl)) (m_bt_all (m_lf_all (o_callV C (T := TX9) (N := 35) (sX9_costNow l X hX) rfl (m_in_of [1126, 1128, 43, 81] (by decide +kernel) (by decide +kernel)) (m_tb_of 1129 (by decide +kernel) rfl) (by decide +kernel) rfl ⟨Nat.le_of_ble_eq_true rfl, Nat.le_of_ble_eq_true rfl⟩ dX9_costOf_7 rfl)) (m_lf_all (o_iret C hr dX9_costOf_10)))))
set_option maxRecDepth 20000 in
def kX9_plainDay : m_C := m_bt 6 (m_bt 1 (m_lf 0 (s_ald 1 0)) (m_bt 3 (m_lf 1 (s_push 3 (.inl (-9)))) (m_lf 3 (s_put 6 9 26)))) (m_bt 7 (m_lf 6 (s_ald 7 0)) (m_bt 10 (m_lf 7 (s_callV 10 1 9 wX9_day)) (m_lf 10 (s_retv))))
theorem kX9_plainDay_0 : kX9_plainDay 0 = some (s_ald 1 0) := rfl
theorem kX9_plainDay_1 : kX9_plainDay 1 = some (s_push 3 (.inl (-9))) := rfl
theorem kX9_plainDay_3 : kX9_plainDay 3 = some (s_put 6 9 26) := rfl
theorem kX9_plainDay_6 : kX9_plainDay 6 = some (s_ald 7 0) := rfl
theorem kX9_plainDay_7 : kX9_plainDay 7 = some (s_callV 10 1 9 wX9_day) := rfl
theorem kX9_plainDay_10 : kX9_plainDay 10 = some (s_retv) := rfl
def wX9_plainDay : m_GK := m_wp 1 kX9_plainDay
set_option maxRecDepth 100000 in
set_option maxHeartbeats 4000000 in
theorem sX9_plainDay (l : Launch) (X : m_X) (hX : m_inj X.1) : m_Sound l X 9 yX9_plainDay cX9_plainDay 1 none wX9_plainDay := m_sound_of hX (by decide) (fun p e s m args below meth c q C hr => m_bt_all (m_bt_all (m_lf_all (o_aload_n C (i := 0) rfl dX9_plainDay_0 rfl)) (m_bt_all (m_lf_all (o_bipush C (x := (-9)) (m_rngd rfl) rfl dX9_plainDay_1 rfl)) (m_lf_all (o_put C (ci := 9) (k := 26) (N := 35) (rf := RX9) (T := TX9) rfl ginX9 (Nat.le_of_ble_eq_true rfl) (m_tb_of 952 (by decide +kernel) rfl) (ty0 := tyX9) tyX9_ok nmX9 rfl rfl dX9_plainDay_3 rfl)))) (m_bt_all (m_lf_all (o_aload_n C (i := 0) rfl dX9_plainDay_6 rfl)) (m_bt_all (m_lf_all (o_callV C (T := TX9) (N := 35) (sX9_day l X hX) rfl (m_in_of [1130, 1132, 44, 81] (by decide +kernel) (by decide +kernel)) (m_tb_of 1133 (by decide +kernel) rfl) (by decide +kernel) rfl ⟨Nat.le_of_ble_eq_true rfl, Nat.le_of_ble_eq_true rfl⟩ dX9_plainDay_7 rfl)) (m_lf_all (o_vret C hr dX9_plainDay_10)))))
set_option maxRecDepth 20000 in
def kX9_cost : m_C := m_bt 1 (m_lf 0 (s_ald 1 0)) (m_bt 4 (m_lf 1 (s_callV 4 1 9 wX9_costOf)) (m_lf 4 (s_ret)))
theorem kX9_cost_0 : kX9_cost 0 = some (s_ald 1 0) := rfl
theorem kX9_cost_1 : kX9_cost 1 = some (s_callV 4 1 9 wX9_costOf) := rfl
theorem kX9_cost_4 : kX9_cost 4 = some (s_ret) := rfl
def wX9_cost : m_GK := m_wp 1 kX9_cost
set_option maxRecDepth 100000 in
set_option maxHeartbeats 4000000 in
theorem sX9_cost (l : Launch) (X : m_X) (hX : m_inj X.1) : m_Sound l X 11 yX9_cost cX9_cost 1 (some .int) wX9_cost := m_sound_of hX (by decide) (fun p e s m args below meth c q C hr => m_bt_all (m_lf_all (o_aload_n C (i := 0) rfl dX9_cost_0 rfl)) (m_bt_all (m_lf_all (o_callV C (T := TX9) (N := 35) (sX9_costOf l X hX) rfl (m_in_of [1122, 1124, 42, 81] (by decide +kernel) (by decide +kernel)) (m_tb_of 1125 (by decide +kernel) rfl) (by decide +kernel) rfl ⟨Nat.le_of_ble_eq_true rfl, Nat.le_of_ble_eq_true rfl⟩ dX9_cost_1 rfl)) (m_lf_all (o_iret C hr dX9_cost_4))))
set_option maxRecDepth 20000 in
def kX9_waited : m_C := m_bt 13 (m_bt 5 (m_bt 1 (m_lf 0 (s_ald 1 0)) (m_bt 2 (m_lf 1 (s_ild 2 1)) (m_lf 2 (s_callV 5 2 9 wX9_isSort)))) (m_bt 9 (m_bt 8 (m_lf 5 (s_if 8 14 (fun x => ¬ x = 0))) (m_lf 8 (s_ald 9 0))) (m_bt 10 (m_lf 9 (s_push 10 (.inl (-1)))) (m_lf 10 (s_callV 13 2 9 wX9_refuse))))) (m_bt 19 (m_bt 15 (m_bt 14 (m_lf 13 (s_ret)) (m_lf 14 (s_ald 15 0))) (m_bt 18 (m_lf 15 (s_callV 18 1 9 wX9_plainDay)) (m_lf 18 (s_ald 19 0)))) (m_bt 23 (m_bt 22 (m_lf 19 (s_get 22 9 17)) (m_lf 22 (s_ild 23 1))) (m_bt 24 (m_lf 23 (s_iald 24)) (m_lf 24 (s_ret)))))
theorem kX9_waited_0 : kX9_waited 0 = some (s_ald 1 0) := rfl
theorem kX9_waited_1 : kX9_waited 1 = some (s_ild 2 1) := rfl
theorem kX9_waited_2 : kX9_waited 2 = some (s_callV 5 2 9 wX9_isSort) := rfl
theorem kX9_waited_5 : kX9_waited 5 = some (s_if 8 14 (fun x => ¬ x = 0)) := rfl
theorem kX9_waited_8 : kX9_waited 8 = some (s_ald 9 0) := rfl
theorem kX9_waited_9 : kX9_waited 9 = some (s_push 10 (.inl (-1))) := rfl
theorem kX9_waited_10 : kX9_waited 10 = some (s_callV 13 2 9 wX9_refuse) := rfl
theorem kX9_waited_13 : kX9_waited 13 = some (s_ret) := rfl
theorem kX9_waited_14 : kX9_waited 14 = some (s_ald 15 0) := rfl
theorem kX9_waited_15 : kX9_waited 15 = some (s_callV 18 1 9 wX9_plainDay) := rfl
theorem kX9_waited_18 : kX9_waited 18 = some (s_ald 19 0) := rfl
theorem kX9_waited_19 : kX9_waited 19 = some (s_get 22 9 17) := rfl
theorem kX9_waited_22 : kX9_waited 22 = some (s_ild 23 1) := rfl
theorem kX9_waited_23 : kX9_waited 23 = some (s_iald 24) := rfl
theorem kX9_waited_24 : kX9_waited 24 = some (s_ret) := rfl
def wX9_waited : m_GK := m_wp 2 kX9_waited
set_option maxRecDepth 100000 in
set_option maxHeartbeats 4000000 in
theorem sX9_waited (l : Launch) (X : m_X) (hX : m_inj X.1) : m_Sound l X 10 yX9_waited cX9_waited 2 (some .int) wX9_waited := m_sound_of hX (by decide) (fun p e s m args below meth c q C hr => m_bt_all (m_bt_all (m_bt_all (m_lf_all (o_aload_n C (i := 0) rfl dX9_waited_0 rfl)) (m_bt_all (m_lf_all (o_iload_n C (i := 1) rfl dX9_waited_1 rfl)) (m_lf_all (o_callV C (T := TX9) (N := 35) (sX9_isSort l X hX) rfl (m_in_of [1077, 1079, 38, 81] (by decide +kernel) (by decide +kernel)) (m_tb_of 1080 (by decide +kernel) rfl) (by decide +kernel) rfl ⟨Nat.le_of_ble_eq_true rfl, Nat.le_of_ble_eq_true rfl⟩ dX9_waited_2 rfl)))) (m_bt_all (m_bt_all (m_lf_all (o_if_ne C dX9_waited_5 rfl rfl)) (m_lf_all (o_aload_n C (i := 0) rfl dX9_waited_8 rfl))) (m_bt_all (m_lf_all (o_iconst C (x := (-1)) (m_rngd rfl) dX9_waited_9 rfl)) (m_lf_all (o_callV C (T := TX9) (N := 35) (sX9_refuse l X hX) rfl (m_in_of [1036, 1038, 30, 81] (by decide +kernel) (by decide +kernel)) (m_tb_of 1039 (by decide +kernel) rfl) (by decide +kernel) rfl ⟨Nat.le_of_ble_eq_true rfl, Nat.le_of_ble_eq_true rfl⟩ dX9_waited_10 rfl))))) (m_bt_all (m_bt_all (m_bt_all (m_lf_all (o_iret C hr dX9_waited_13)) (m_lf_all (o_aload_n C (i := 0) rfl dX9_waited_14 rfl))) (m_bt_all (m_lf_all (o_callV C (T := TX9) (N := 35) (sX9_plainDay l X hX) rfl (m_in_of [1213, 1215, 63, 81] (by decide +kernel) (by decide +kernel)) (m_tb_of 1216 (by decide +kernel) rfl) (by decide +kernel) rfl ⟨Nat.le_of_ble_eq_true rfl, Nat.le_of_ble_eq_true rfl⟩ dX9_waited_15 rfl)) (m_lf_all (o_aload_n C (i := 0) rfl dX9_waited_18 rfl)))) (m_bt_all (m_bt_all (m_lf_all (o_get C (ci := 9) (k := 17) (N := 35) (rf := RX9) (T := TX9) rfl ginX9 (Nat.le_of_ble_eq_true rfl) (m_tb_of 943 (by decide +kernel) rfl) dX9_waited_19 rfl)) (m_lf_all (o_iload_n C (i := 1) rfl dX9_waited_22 rfl))) (m_bt_all (m_lf_all (o_iald C dX9_waited_23 rfl)) (m_lf_all (o_iret C hr dX9_waited_24))))))
set_option maxRecDepth 20000 in
def kX9_served : m_C := m_bt 13 (m_bt 5 (m_bt 1 (m_lf 0 (s_ald 1 0)) (m_bt 2 (m_lf 1 (s_ild 2 1)) (m_lf 2 (s_callV 5 2 9 wX9_isSort)))) (m_bt 9 (m_bt 8 (m_lf 5 (s_if 8 14 (fun x => ¬ x = 0))) (m_lf 8 (s_ald 9 0))) (m_bt 10 (m_lf 9 (s_push 10 (.inl (-1)))) (m_lf 10 (s_callV 13 2 9 wX9_refuse))))) (m_bt 19 (m_bt 15 (m_bt 14 (m_lf 13 (s_ret)) (m_lf 14 (s_ald 15 0))) (m_bt 18 (m_lf 15 (s_callV 18 1 9 wX9_plainDay)) (m_lf 18 (s_ald 19 0)))) (m_bt 23 (m_bt 22 (m_lf 19 (s_get 22 9 19)) (m_lf 22 (s_ild 23 1))) (m_bt 24 (m_lf 23 (s_iald 24)) (m_lf 24 (s_ret)))))
theorem kX9_served_0 : kX9_served 0 = some (s_ald 1 0) := rfl
theorem kX9_served_1 : kX9_served 1 = some (s_ild 2 1) := rfl
theorem kX9_served_2 : kX9_served 2 = some (s_callV 5 2 9 wX9_isSort) := rfl
theorem kX9_served_5 : kX9_served 5 = some (s_if 8 14 (fun x => ¬ x = 0)) := rfl
theorem kX9_served_8 : kX9_served 8 = some (s_ald 9 0) := rfl
theorem kX9_served_9 : kX9_served 9 = some (s_push 10 (.inl (-1))) := rfl
theorem kX9_served_10 : kX9_served 10 = some (s_callV 13 2 9 wX9_refuse) := rfl
theorem kX9_served_13 : kX9_served 13 = some (s_ret) := rfl
theorem kX9_served_14 : kX9_served 14 = some (s_ald 15 0) := rfl
theorem kX9_served_15 : kX9_served 15 = some (s_callV 18 1 9 wX9_plainDay) := rfl
theorem kX9_served_18 : kX9_served 18 = some (s_ald 19 0) := rfl
theorem kX9_served_19 : kX9_served 19 = some (s_get 22 9 19) := rfl
theorem kX9_served_22 : kX9_served 22 = some (s_ild 23 1) := rfl
theorem kX9_served_23 : kX9_served 23 = some (s_iald 24) := rfl
theorem kX9_served_24 : kX9_served 24 = some (s_ret) := rfl
def wX9_served : m_GK := m_wp 2 kX9_served
set_option maxRecDepth 100000 in
set_option maxHeartbeats 4000000 in
theorem sX9_served (l : Launch) (X : m_X) (hX : m_inj X.1) : m_Sound l X 10 yX9_served cX9_served 2 (some .int) wX9_served := m_sound_of hX (by decide) (fun p e s m args below meth c q C hr => m_bt_all (m_bt_all (m_bt_all (m_lf_all (o_aload_n C (i := 0) rfl dX9_served_0 rfl)) (m_bt_all (m_lf_all (o_iload_n C (i := 1) rfl dX9_served_1 rfl)) (m_lf_all (o_callV C (T := TX9) (N := 35) (sX9_isSort l X hX) rfl (m_in_of [1077, 1079, 38, 81] (by decide +kernel) (by decide +kernel)) (m_tb_of 1080 (by decide +kernel) rfl) (by decide +kernel) rfl ⟨Nat.le_of_ble_eq_true rfl, Nat.le_of_ble_eq_true rfl⟩ dX9_served_2 rfl)))) (m_bt_all (m_bt_all (m_lf_all (o_if_ne C dX9_served_5 rfl rfl)) (m_lf_all (o_aload_n C (i := 0) rfl dX9_served_8 rfl))) (m_bt_all (m_lf_all (o_iconst C (x := (-1)) (m_rngd rfl) dX9_served_9 rfl)) (m_lf_all (o_callV C (T := TX9) (N := 35) (sX9_refuse l X hX) rfl (m_in_of [1036, 1038, 30, 81] (by decide +kernel) (by decide +kernel)) (m_tb_of 1039 (by decide +kernel) rfl) (by decide +kernel) rfl ⟨Nat.le_of_ble_eq_true rfl, Nat.le_of_ble_eq_true rfl⟩ dX9_served_10 rfl))))) (m_bt_all (m_bt_all (m_bt_all (m_lf_all (o_iret C hr dX9_served_13)) (m_lf_all (o_aload_n C (i := 0) rfl dX9_served_14 rfl))) (m_bt_all (m_lf_all (o_callV C (T := TX9) (N := 35) (sX9_plainDay l X hX) rfl (m_in_of [1213, 1215, 63, 81] (by decide +kernel) (by decide +kernel)) (m_tb_of 1216 (by decide +kernel) rfl) (by decide +kernel) rfl ⟨Nat.le_of_ble_eq_true rfl, Nat.le_of_ble_eq_true rfl⟩ dX9_served_15 rfl)) (m_lf_all (o_aload_n C (i := 0) rfl dX9_served_18 rfl)))) (m_bt_all (m_bt_all (m_lf_all (o_get C (ci := 9) (k := 19) (N := 35) (rf := RX9) (T := TX9) rfl ginX9 (Nat.le_of_ble_eq_true rfl) (m_tb_of 945 (by decide +kernel) rfl) dX9_served_19 rfl)) (m_lf_all (o_iload_n C (i := 1) rfl dX9_served_22 rfl))) (m_bt_all (m_lf_all (o_iald C dX9_served_23 rfl)) (m_lf_all (o_iret C hr dX9_served_24))))))
set_option maxRecDepth 20000 in
def kX9_lost : m_C := m_bt 13 (m_bt 5 (m_bt 1 (m_lf 0 (s_ald 1 0)) (m_bt 2 (m_lf 1 (s_ild 2 1)) (m_lf 2 (s_callV 5 2 9 wX9_isSort)))) (m_bt 9 (m_bt 8 (m_lf 5 (s_if 8 14 (fun x => ¬ x = 0))) (m_lf 8 (s_ald 9 0))) (m_bt 10 (m_lf 9 (s_push 10 (.inl (-1)))) (m_lf 10 (s_callV 13 2 9 wX9_refuse))))) (m_bt 19 (m_bt 15 (m_bt 14 (m_lf 13 (s_ret)) (m_lf 14 (s_ald 15 0))) (m_bt 18 (m_lf 15 (s_callV 18 1 9 wX9_plainDay)) (m_lf 18 (s_ald 19 0)))) (m_bt 23 (m_bt 22 (m_lf 19 (s_get 22 9 20)) (m_lf 22 (s_ild 23 1))) (m_bt 24 (m_lf 23 (s_iald 24)) (m_lf 24 (s_ret)))))
theorem kX9_lost_0 : kX9_lost 0 = some (s_ald 1 0) := rfl
theorem kX9_lost_1 : kX9_lost 1 = some (s_ild 2 1) := rfl
theorem kX9_lost_2 : kX9_lost 2 = some (s_callV 5 2 9 wX9_isSort) := rfl
theorem kX9_lost_5 : kX9_lost 5 = some (s_if 8 14 (fun x => ¬ x = 0)) := rfl
theorem kX9_lost_8 : kX9_lost 8 = some (s_ald 9 0) := rfl
theorem kX9_lost_9 : kX9_lost 9 = some (s_push 10 (.inl (-1))) := rfl
theorem kX9_lost_10 : kX9_lost 10 = some (s_callV 13 2 9 wX9_refuse) := rfl
theorem kX9_lost_13 : kX9_lost 13 = some (s_ret) := rfl
theorem kX9_lost_14 : kX9_lost 14 = some (s_ald 15 0) := rfl
theorem kX9_lost_15 : kX9_lost 15 = some (s_callV 18 1 9 wX9_plainDay) := rfl
theorem kX9_lost_18 : kX9_lost 18 = some (s_ald 19 0) := rfl
theorem kX9_lost_19 : kX9_lost 19 = some (s_get 22 9 20) := rfl
theorem kX9_lost_22 : kX9_lost 22 = some (s_ild 23 1) := rfl
theorem kX9_lost_23 : kX9_lost 23 = some (s_iald 24) := rfl
theorem kX9_lost_24 : kX9_lost 24 = some (s_ret) := rfl
def wX9_lost : m_GK := m_wp 2 kX9_lost
set_option maxRecDepth 100000 in
set_option maxHeartbeats 4000000 in
theorem sX9_lost (l : Launch) (X : m_X) (hX : m_inj X.1) : m_Sound l X 10 yX9_lost cX9_lost 2 (some .int) wX9_lost := m_sound_of hX (by decide) (fun p e s m args below meth c q C hr => m_bt_all (m_bt_all (m_bt_all (m_lf_all (o_aload_n C (i := 0) rfl dX9_lost_0 rfl)) (m_bt_all (m_lf_all (o_iload_n C (i := 1) rfl dX9_lost_1 rfl)) (m_lf_all (o_callV C (T := TX9) (N := 35) (sX9_isSort l X hX) rfl (m_in_of [1077, 1079, 38, 81] (by decide +kernel) (by decide +kernel)) (m_tb_of 1080 (by decide +kernel) rfl) (by decide +kernel) rfl ⟨Nat.le_of_ble_eq_true rfl, Nat.le_of_ble_eq_true rfl⟩ dX9_lost_2 rfl)))) (m_bt_all (m_bt_all (m_lf_all (o_if_ne C dX9_lost_5 rfl rfl)) (m_lf_all (o_aload_n C (i := 0) rfl dX9_lost_8 rfl))) (m_bt_all (m_lf_all (o_iconst C (x := (-1)) (m_rngd rfl) dX9_lost_9 rfl)) (m_lf_all (o_callV C (T := TX9) (N := 35) (sX9_refuse l X hX) rfl (m_in_of [1036, 1038, 30, 81] (by decide +kernel) (by decide +kernel)) (m_tb_of 1039 (by decide +kernel) rfl) (by decide +kernel) rfl ⟨Nat.le_of_ble_eq_true rfl, Nat.le_of_ble_eq_true rfl⟩ dX9_lost_10 rfl))))) (m_bt_all (m_bt_all (m_bt_all (m_lf_all (o_iret C hr dX9_lost_13)) (m_lf_all (o_aload_n C (i := 0) rfl dX9_lost_14 rfl))) (m_bt_all (m_lf_all (o_callV C (T := TX9) (N := 35) (sX9_plainDay l X hX) rfl (m_in_of [1213, 1215, 63, 81] (by decide +kernel) (by decide +kernel)) (m_tb_of 1216 (by decide +kernel) rfl) (by decide +kernel) rfl ⟨Nat.le_of_ble_eq_true rfl, Nat.le_of_ble_eq_true rfl⟩ dX9_lost_15 rfl)) (m_lf_all (o_aload_n C (i := 0) rfl dX9_lost_18 rfl)))) (m_bt_all (m_bt_all (m_lf_all (o_get C (ci := 9) (k := 20) (N := 35) (rf := RX9) (T := TX9) rfl ginX9 (Nat.le_of_ble_eq_true rfl) (m_tb_of 946 (by decide +kernel) rfl) dX9_lost_19 rfl)) (m_lf_all (o_iload_n C (i := 1) rfl dX9_lost_22 rfl))) (m_bt_all (m_lf_all (o_iald C dX9_lost_23 rfl)) (m_lf_all (o_iret C hr dX9_lost_24))))))
set_option maxRecDepth 20000 in
def kX9_strayed : m_C := m_bt 4 (m_bt 1 (m_lf 0 (s_ald 1 0)) (m_lf 1 (s_callV 4 1 9 wX9_plainDay))) (m_bt 5 (m_lf 4 (s_ald 5 0)) (m_bt 8 (m_lf 5 (s_get 8 9 23)) (m_lf 8 (s_ret))))
theorem kX9_strayed_0 : kX9_strayed 0 = some (s_ald 1 0) := rfl
theorem kX9_strayed_1 : kX9_strayed 1 = some (s_callV 4 1 9 wX9_plainDay) := rfl
theorem kX9_strayed_4 : kX9_strayed 4 = some (s_ald 5 0) := rfl
theorem kX9_strayed_5 : kX9_strayed 5 = some (s_get 8 9 23) := rfl
theorem kX9_strayed_8 : kX9_strayed 8 = some (s_ret) := rfl
def wX9_strayed : m_GK := m_wp 1 kX9_strayed
set_option maxRecDepth 100000 in
set_option maxHeartbeats 4000000 in
theorem sX9_strayed (l : Launch) (X : m_X) (hX : m_inj X.1) : m_Sound l X 10 yX9_strayed cX9_strayed 1 (some .int) wX9_strayed := m_sound_of hX (by decide) (fun p e s m args below meth c q C hr => m_bt_all (m_bt_all (m_lf_all (o_aload_n C (i := 0) rfl dX9_strayed_0 rfl)) (m_lf_all (o_callV C (T := TX9) (N := 35) (sX9_plainDay l X hX) rfl (m_in_of [1213, 1215, 63, 81] (by decide +kernel) (by decide +kernel)) (m_tb_of 1216 (by decide +kernel) rfl) (by decide +kernel) rfl ⟨Nat.le_of_ble_eq_true rfl, Nat.le_of_ble_eq_true rfl⟩ dX9_strayed_1 rfl))) (m_bt_all (m_lf_all (o_aload_n C (i := 0) rfl dX9_strayed_4 rfl)) (m_bt_all (m_lf_all (o_get C (ci := 9) (k := 23) (N := 35) (rf := RX9) (T := TX9) rfl ginX9 (Nat.le_of_ble_eq_true rfl) (m_tb_of 949 (by decide +kernel) rfl) dX9_strayed_5 rfl)) (m_lf_all (o_iret C hr dX9_strayed_8)))))
set_option maxRecDepth 20000 in
def kX9_longest : m_C := m_bt 13 (m_bt 5 (m_bt 1 (m_lf 0 (s_ald 1 0)) (m_bt 2 (m_lf 1 (s_ild 2 1)) (m_lf 2 (s_callV 5 2 9 wX9_isLane)))) (m_bt 9 (m_bt 8 (m_lf 5 (s_if 8 14 (fun x => ¬ x = 0))) (m_lf 8 (s_ald 9 0))) (m_bt 10 (m_lf 9 (s_push 10 (.inl (-1)))) (m_lf 10 (s_callV 13 2 9 wX9_refuse))))) (m_bt 19 (m_bt 15 (m_bt 14 (m_lf 13 (s_ret)) (m_lf 14 (s_ald 15 0))) (m_bt 18 (m_lf 15 (s_callV 18 1 9 wX9_plainDay)) (m_lf 18 (s_ald 19 0)))) (m_bt 23 (m_bt 22 (m_lf 19 (s_get 22 9 21)) (m_lf 22 (s_ild 23 1))) (m_bt 24 (m_lf 23 (s_iald 24)) (m_lf 24 (s_ret)))))
theorem kX9_longest_0 : kX9_longest 0 = some (s_ald 1 0) := rfl
theorem kX9_longest_1 : kX9_longest 1 = some (s_ild 2 1) := rfl
theorem kX9_longest_2 : kX9_longest 2 = some (s_callV 5 2 9 wX9_isLane) := rfl
theorem kX9_longest_5 : kX9_longest 5 = some (s_if 8 14 (fun x => ¬ x = 0)) := rfl
theorem kX9_longest_8 : kX9_longest 8 = some (s_ald 9 0) := rfl
theorem kX9_longest_9 : kX9_longest 9 = some (s_push 10 (.inl (-1))) := rfl
theorem kX9_longest_10 : kX9_longest 10 = some (s_callV 13 2 9 wX9_refuse) := rfl
theorem kX9_longest_13 : kX9_longest 13 = some (s_ret) := rfl
theorem kX9_longest_14 : kX9_longest 14 = some (s_ald 15 0) := rfl
theorem kX9_longest_15 : kX9_longest 15 = some (s_callV 18 1 9 wX9_plainDay) := rfl
theorem kX9_longest_18 : kX9_longest 18 = some (s_ald 19 0) := rfl
theorem kX9_longest_19 : kX9_longest 19 = some (s_get 22 9 21) := rfl
theorem kX9_longest_22 : kX9_longest 22 = some (s_ild 23 1) := rfl
theorem kX9_longest_23 : kX9_longest 23 = some (s_iald 24) := rfl
theorem kX9_longest_24 : kX9_longest 24 = some (s_ret) := rfl
def wX9_longest : m_GK := m_wp 2 kX9_longest
set_option maxRecDepth 100000 in
set_option maxHeartbeats 4000000 in
theorem sX9_longest (l : Launch) (X : m_X) (hX : m_inj X.1) : m_Sound l X 10 yX9_longest cX9_longest 2 (some .int) wX9_longest := m_sound_of hX (by decide) (fun p e s m args below meth c q C hr => m_bt_all (m_bt_all (m_bt_all (m_lf_all (o_aload_n C (i := 0) rfl dX9_longest_0 rfl)) (m_bt_all (m_lf_all (o_iload_n C (i := 1) rfl dX9_longest_1 rfl)) (m_lf_all (o_callV C (T := TX9) (N := 35) (sX9_isLane l X hX) rfl (m_in_of [1088, 1090, 39, 81] (by decide +kernel) (by decide +kernel)) (m_tb_of 1091 (by decide +kernel) rfl) (by decide +kernel) rfl ⟨Nat.le_of_ble_eq_true rfl, Nat.le_of_ble_eq_true rfl⟩ dX9_longest_2 rfl)))) (m_bt_all (m_bt_all (m_lf_all (o_if_ne C dX9_longest_5 rfl rfl)) (m_lf_all (o_aload_n C (i := 0) rfl dX9_longest_8 rfl))) (m_bt_all (m_lf_all (o_iconst C (x := (-1)) (m_rngd rfl) dX9_longest_9 rfl)) (m_lf_all (o_callV C (T := TX9) (N := 35) (sX9_refuse l X hX) rfl (m_in_of [1036, 1038, 30, 81] (by decide +kernel) (by decide +kernel)) (m_tb_of 1039 (by decide +kernel) rfl) (by decide +kernel) rfl ⟨Nat.le_of_ble_eq_true rfl, Nat.le_of_ble_eq_true rfl⟩ dX9_longest_10 rfl))))) (m_bt_all (m_bt_all (m_bt_all (m_lf_all (o_iret C hr dX9_longest_13)) (m_lf_all (o_aload_n C (i := 0) rfl dX9_longest_14 rfl))) (m_bt_all (m_lf_all (o_callV C (T := TX9) (N := 35) (sX9_plainDay l X hX) rfl (m_in_of [1213, 1215, 63, 81] (by decide +kernel) (by decide +kernel)) (m_tb_of 1216 (by decide +kernel) rfl) (by decide +kernel) rfl ⟨Nat.le_of_ble_eq_true rfl, Nat.le_of_ble_eq_true rfl⟩ dX9_longest_15 rfl)) (m_lf_all (o_aload_n C (i := 0) rfl dX9_longest_18 rfl)))) (m_bt_all (m_bt_all (m_lf_all (o_get C (ci := 9) (k := 21) (N := 35) (rf := RX9) (T := TX9) rfl ginX9 (Nat.le_of_ble_eq_true rfl) (m_tb_of 947 (by decide +kernel) rfl) dX9_longest_19 rfl)) (m_lf_all (o_iload_n C (i := 1) rfl dX9_longest_22 rfl))) (m_bt_all (m_lf_all (o_iald C dX9_longest_23 rfl)) (m_lf_all (o_iret C hr dX9_longest_24))))))
set_option maxRecDepth 20000 in
def kX9_passed : m_C := m_bt 13 (m_bt 5 (m_bt 1 (m_lf 0 (s_ald 1 0)) (m_bt 2 (m_lf 1 (s_ild 2 1)) (m_lf 2 (s_callV 5 2 9 wX9_isLane)))) (m_bt 9 (m_bt 8 (m_lf 5 (s_if 8 14 (fun x => ¬ x = 0))) (m_lf 8 (s_ald 9 0))) (m_bt 10 (m_lf 9 (s_push 10 (.inl (-1)))) (m_lf 10 (s_callV 13 2 9 wX9_refuse))))) (m_bt 19 (m_bt 15 (m_bt 14 (m_lf 13 (s_ret)) (m_lf 14 (s_ald 15 0))) (m_bt 18 (m_lf 15 (s_callV 18 1 9 wX9_plainDay)) (m_lf 18 (s_ald 19 0)))) (m_bt 23 (m_bt 22 (m_lf 19 (s_get 22 9 22)) (m_lf 22 (s_ild 23 1))) (m_bt 24 (m_lf 23 (s_iald 24)) (m_lf 24 (s_ret)))))
theorem kX9_passed_0 : kX9_passed 0 = some (s_ald 1 0) := rfl
theorem kX9_passed_1 : kX9_passed 1 = some (s_ild 2 1) := rfl
theorem kX9_passed_2 : kX9_passed 2 = some (s_callV 5 2 9 wX9_isLane) := rfl
theorem kX9_passed_5 : kX9_passed 5 = some (s_if 8 14 (fun x => ¬ x = 0)) := rfl
theorem kX9_passed_8 : kX9_passed 8 = some (s_ald 9 0) := rfl
theorem kX9_passed_9 : kX9_passed 9 = some (s_push 10 (.inl (-1))) := rfl
theorem kX9_passed_10 : kX9_passed 10 = some (s_callV 13 2 9 wX9_refuse) := rfl
theorem kX9_passed_13 : kX9_passed 13 = some (s_ret) := rfl
theorem kX9_passed_14 : kX9_passed 14 = some (s_ald 15 0) := rfl
theorem kX9_passed_15 : kX9_passed 15 = some (s_callV 18 1 9 wX9_plainDay) := rfl
theorem kX9_passed_18 : kX9_passed 18 = some (s_ald 19 0) := rfl
theorem kX9_passed_19 : kX9_passed 19 = some (s_get 22 9 22) := rfl
theorem kX9_passed_22 : kX9_passed 22 = some (s_ild 23 1) := rfl
theorem kX9_passed_23 : kX9_passed 23 = some (s_iald 24) := rfl
theorem kX9_passed_24 : kX9_passed 24 = some (s_ret) := rfl
def wX9_passed : m_GK := m_wp 2 kX9_passed
set_option maxRecDepth 100000 in
set_option maxHeartbeats 4000000 in
theorem sX9_passed (l : Launch) (X : m_X) (hX : m_inj X.1) : m_Sound l X 10 yX9_passed cX9_passed 2 (some .int) wX9_passed := m_sound_of hX (by decide) (fun p e s m args below meth c q C hr => m_bt_all (m_bt_all (m_bt_all (m_lf_all (o_aload_n C (i := 0) rfl dX9_passed_0 rfl)) (m_bt_all (m_lf_all (o_iload_n C (i := 1) rfl dX9_passed_1 rfl)) (m_lf_all (o_callV C (T := TX9) (N := 35) (sX9_isLane l X hX) rfl (m_in_of [1088, 1090, 39, 81] (by decide +kernel) (by decide +kernel)) (m_tb_of 1091 (by decide +kernel) rfl) (by decide +kernel) rfl ⟨Nat.le_of_ble_eq_true rfl, Nat.le_of_ble_eq_true rfl⟩ dX9_passed_2 rfl)))) (m_bt_all (m_bt_all (m_lf_all (o_if_ne C dX9_passed_5 rfl rfl)) (m_lf_all (o_aload_n C (i := 0) rfl dX9_passed_8 rfl))) (m_bt_all (m_lf_all (o_iconst C (x := (-1)) (m_rngd rfl) dX9_passed_9 rfl)) (m_lf_all (o_callV C (T := TX9) (N := 35) (sX9_refuse l X hX) rfl (m_in_of [1036, 1038, 30, 81] (by decide +kernel) (by decide +kernel)) (m_tb_of 1039 (by decide +kernel) rfl) (by decide +kernel) rfl ⟨Nat.le_of_ble_eq_true rfl, Nat.le_of_ble_eq_true rfl⟩ dX9_passed_10 rfl))))) (m_bt_all (m_bt_all (m_bt_all (m_lf_all (o_iret C hr dX9_passed_13)) (m_lf_all (o_aload_n C (i := 0) rfl dX9_passed_14 rfl))) (m_bt_all (m_lf_all (o_callV C (T := TX9) (N := 35) (sX9_plainDay l X hX) rfl (m_in_of [1213, 1215, 63, 81] (by decide +kernel) (by decide +kernel)) (m_tb_of 1216 (by decide +kernel) rfl) (by decide +kernel) rfl ⟨Nat.le_of_ble_eq_true rfl, Nat.le_of_ble_eq_true rfl⟩ dX9_passed_15 rfl)) (m_lf_all (o_aload_n C (i := 0) rfl dX9_passed_18 rfl)))) (m_bt_all (m_bt_all (m_lf_all (o_get C (ci := 9) (k := 22) (N := 35) (rf := RX9) (T := TX9) rfl ginX9 (Nat.le_of_ble_eq_true rfl) (m_tb_of 948 (by decide +kernel) rfl) dX9_passed_19 rfl)) (m_lf_all (o_iload_n C (i := 1) rfl dX9_passed_22 rfl))) (m_bt_all (m_lf_all (o_iald C dX9_passed_23 rfl)) (m_lf_all (o_iret C hr dX9_passed_24))))))
set_option maxRecDepth 20000 in
def kX9_last : m_C := m_bt 4 (m_bt 1 (m_lf 0 (s_ald 1 0)) (m_lf 1 (s_callV 4 1 9 wX9_plainDay))) (m_bt 5 (m_lf 4 (s_ald 5 0)) (m_bt 8 (m_lf 5 (s_get 8 9 25)) (m_lf 8 (s_ret))))
theorem kX9_last_0 : kX9_last 0 = some (s_ald 1 0) := rfl
theorem kX9_last_1 : kX9_last 1 = some (s_callV 4 1 9 wX9_plainDay) := rfl
theorem kX9_last_4 : kX9_last 4 = some (s_ald 5 0) := rfl
theorem kX9_last_5 : kX9_last 5 = some (s_get 8 9 25) := rfl
theorem kX9_last_8 : kX9_last 8 = some (s_ret) := rfl
def wX9_last : m_GK := m_wp 1 kX9_last
set_option maxRecDepth 100000 in
set_option maxHeartbeats 4000000 in
theorem sX9_last (l : Launch) (X : m_X) (hX : m_inj X.1) : m_Sound l X 10 yX9_last cX9_last 1 (some .int) wX9_last := m_sound_of hX (by decide) (fun p e s m args below meth c q C hr => m_bt_all (m_bt_all (m_lf_all (o_aload_n C (i := 0) rfl dX9_last_0 rfl)) (m_lf_all (o_callV C (T := TX9) (N := 35) (sX9_plainDay l X hX) rfl (m_in_of [1213, 1215, 63, 81] (by decide +kernel) (by decide +kernel)) (m_tb_of 1216 (by decide +kernel) rfl) (by decide +kernel) rfl ⟨Nat.le_of_ble_eq_true rfl, Nat.le_of_ble_eq_true rfl⟩ dX9_last_1 rfl))) (m_bt_all (m_lf_all (o_aload_n C (i := 0) rfl dX9_last_4 rfl)) (m_bt_all (m_lf_all (o_get C (ci := 9) (k := 25) (N := 35) (rf := RX9) (T := TX9) rfl ginX9 (Nat.le_of_ble_eq_true rfl) (m_tb_of 951 (by decide +kernel) rfl) dX9_last_5 rfl)) (m_lf_all (o_iret C hr dX9_last_8)))))
set_option maxRecDepth 20000 in
def kX9_common (K : m_GK) : m_C := m_bt 9 (m_bt 4 (m_bt 1 (m_lf 0 (s_ild 1 1)) (m_lf 1 (s_if 4 8 (fun x => ¬ x = 0)))) (m_bt 5 (m_lf 4 (s_ild 5 0)) (m_bt 8 (m_lf 5 (s_goto 15)) (m_lf 8 (s_ild 9 1))))) (m_bt 11 (m_bt 10 (m_lf 9 (s_ild 10 0)) (m_lf 10 (s_ild 11 1))) (m_bt 12 (m_lf 11 (s_rem 12)) (m_bt 15 (m_lf 12 (s_callS 15 2 K)) (m_lf 15 (s_ret)))))
theorem kX9_common_0 (K : m_GK) : kX9_common K 0 = some (s_ild 1 1) := rfl
theorem kX9_common_1 (K : m_GK) : kX9_common K 1 = some (s_if 4 8 (fun x => ¬ x = 0)) := rfl
theorem kX9_common_4 (K : m_GK) : kX9_common K 4 = some (s_ild 5 0) := rfl
theorem kX9_common_5 (K : m_GK) : kX9_common K 5 = some (s_goto 15) := rfl
theorem kX9_common_8 (K : m_GK) : kX9_common K 8 = some (s_ild 9 1) := rfl
theorem kX9_common_9 (K : m_GK) : kX9_common K 9 = some (s_ild 10 0) := rfl
theorem kX9_common_10 (K : m_GK) : kX9_common K 10 = some (s_ild 11 1) := rfl
theorem kX9_common_11 (K : m_GK) : kX9_common K 11 = some (s_rem 12) := rfl
theorem kX9_common_12 (K : m_GK) : kX9_common K 12 = some (s_callS 15 2 K) := rfl
theorem kX9_common_15 (K : m_GK) : kX9_common K 15 = some (s_ret) := rfl
def wX9_common : Nat → m_GK
  | 0 => ⟨fun _ _ _ => False, fun _ _ _ _ _ h => h⟩
  | n + 1 => m_wp 2 (kX9_common (wX9_common n))
set_option maxRecDepth 100000 in
set_option maxHeartbeats 4000000 in
theorem sX9_common (l : Launch) (X : m_X) (hX : m_inj X.1) : ∀ n : Nat, m_Sound l X (n + 1) yX9_common cX9_common 2 (some .int) (wX9_common n)
  | 0 => fun _ _ _ h => False.elim h
  | n + 1 => by
    have ih := sX9_common l X hX n
    show m_Sound l X (n + 1 + 1) yX9_common cX9_common 2 (some .int) (m_wp 2 (kX9_common (wX9_common n)))
    generalize wX9_common n = K at ih ⊢
    exact m_sound_of hX (by decide) (fun p e s m args below meth c q C hr => m_bt_all (m_bt_all (m_bt_all (m_lf_all (o_iload_n C (i := 1) rfl dX9_common_0 rfl)) (m_lf_all (o_if_ne C dX9_common_1 rfl rfl))) (m_bt_all (m_lf_all (o_iload_n C (i := 0) rfl dX9_common_4 rfl)) (m_bt_all (m_lf_all (o_goto C dX9_common_5 rfl)) (m_lf_all (o_iload_n C (i := 1) rfl dX9_common_8 rfl))))) (m_bt_all (m_bt_all (m_lf_all (o_iload_n C (i := 0) rfl dX9_common_9 rfl)) (m_lf_all (o_iload_n C (i := 1) rfl dX9_common_10 rfl))) (m_bt_all (m_lf_all (o_irem C dX9_common_11 rfl)) (m_bt_all (m_lf_all (o_callS C ih (m_in_of [1245, 1246, 81] (by decide +kernel) (by decide +kernel)) (m_tb_of 1247 (by decide +kernel) rfl) (by decide +kernel) ⟨Nat.le_refl _, by show _ ≤ 48 * (_ + 1); omega⟩ dX9_common_12 rfl)) (m_lf_all (o_iret C hr dX9_common_15))))))
set_option maxRecDepth 20000 in
def kX9_mean : m_C := m_bt 44 (m_bt 22 (m_bt 10 (m_bt 5 (m_bt 1 (m_lf 0 (s_ald 1 0)) (m_bt 2 (m_lf 1 (s_ild 2 1)) (m_lf 2 (s_callV 5 2 9 wX9_isSort)))) (m_bt 8 (m_lf 5 (s_if 8 14 (fun x => ¬ x = 0))) (m_bt 9 (m_lf 8 (s_ald 9 0)) (m_lf 9 (s_push 10 (.inl (-1))))))) (m_bt 15 (m_bt 13 (m_lf 10 (s_callV 13 2 9 wX9_refuse)) (m_bt 14 (m_lf 13 (s_ret)) (m_lf 14 (s_ild 15 2)))) (m_bt 16 (m_lf 15 (s_push 16 (.inl (2)))) (m_bt 19 (m_lf 16 (s_callS 19 2 wX9_isIn)) (m_lf 19 (s_if 22 29 (fun x => ¬ x = 0))))))) (m_bt 33 (m_bt 28 (m_bt 23 (m_lf 22 (s_ald 23 0)) (m_bt 25 (m_lf 23 (s_push 25 (.inl (-2)))) (m_lf 25 (s_callV 28 2 9 wX9_refuse)))) (m_bt 29 (m_lf 28 (s_ret)) (m_bt 30 (m_lf 29 (s_ald 30 0)) (m_lf 30 (s_callV 33 1 9 wX9_plainDay))))) (m_bt 38 (m_bt 34 (m_lf 33 (s_ald 34 0)) (m_bt 37 (m_lf 34 (s_get 37 9 18)) (m_lf 37 (s_ild 38 1)))) (m_bt 42 (m_bt 39 (m_lf 38 (s_iald 39)) (m_lf 39 (s_if 42 44 (fun x => ¬ x = 0)))) (m_bt 43 (m_lf 42 (s_ild 43 2)) (m_lf 43 (s_ret))))))) (m_bt 65 (m_bt 54 (m_bt 49 (m_bt 45 (m_lf 44 (s_ald 45 0)) (m_bt 48 (m_lf 45 (s_get 48 9 18)) (m_lf 48 (s_ild 49 1)))) (m_bt 50 (m_lf 49 (s_iald 50)) (m_bt 51 (m_lf 50 (s_ald 51 0)) (m_lf 51 (s_get 54 9 17))))) (m_bt 59 (m_bt 55 (m_lf 54 (s_ild 55 1)) (m_bt 56 (m_lf 55 (s_iald 56)) (m_lf 56 (s_callS 59 2 (wX9_common 40))))) (m_bt 61 (m_bt 60 (m_lf 59 (s_ist 60 3)) (m_lf 60 (s_ild 61 2))) (m_bt 64 (m_lf 61 (s_if 64 75 (fun x => ¬ x = 0))) (m_lf 64 (s_ald 65 0)))))) (m_bt 75 (m_bt 70 (m_bt 68 (m_lf 65 (s_get 68 9 17)) (m_bt 69 (m_lf 68 (s_ild 69 1)) (m_lf 69 (s_iald 70)))) (m_bt 71 (m_lf 70 (s_ild 71 3)) (m_bt 72 (m_lf 71 (s_div 72)) (m_lf 72 (s_goto 83))))) (m_bt 80 (m_bt 76 (m_lf 75 (s_ald 76 0)) (m_bt 79 (m_lf 76 (s_get 79 9 18)) (m_lf 79 (s_ild 80 1)))) (m_bt 82 (m_bt 81 (m_lf 80 (s_iald 81)) (m_lf 81 (s_ild 82 3))) (m_bt 83 (m_lf 82 (s_div 83)) (m_lf 83 (s_ret)))))))
theorem kX9_mean_0 : kX9_mean 0 = some (s_ald 1 0) := rfl
theorem kX9_mean_1 : kX9_mean 1 = some (s_ild 2 1) := rfl
theorem kX9_mean_2 : kX9_mean 2 = some (s_callV 5 2 9 wX9_isSort) := rfl
theorem kX9_mean_5 : kX9_mean 5 = some (s_if 8 14 (fun x => ¬ x = 0)) := rfl
theorem kX9_mean_8 : kX9_mean 8 = some (s_ald 9 0) := rfl
theorem kX9_mean_9 : kX9_mean 9 = some (s_push 10 (.inl (-1))) := rfl
theorem kX9_mean_10 : kX9_mean 10 = some (s_callV 13 2 9 wX9_refuse) := rfl
theorem kX9_mean_13 : kX9_mean 13 = some (s_ret) := rfl
theorem kX9_mean_14 : kX9_mean 14 = some (s_ild 15 2) := rfl
theorem kX9_mean_15 : kX9_mean 15 = some (s_push 16 (.inl (2))) := rfl
theorem kX9_mean_16 : kX9_mean 16 = some (s_callS 19 2 wX9_isIn) := rfl
theorem kX9_mean_19 : kX9_mean 19 = some (s_if 22 29 (fun x => ¬ x = 0)) := rfl
theorem kX9_mean_22 : kX9_mean 22 = some (s_ald 23 0) := rfl
theorem kX9_mean_23 : kX9_mean 23 = some (s_push 25 (.inl (-2))) := rfl
theorem kX9_mean_25 : kX9_mean 25 = some (s_callV 28 2 9 wX9_refuse) := rfl
theorem kX9_mean_28 : kX9_mean 28 = some (s_ret) := rfl
theorem kX9_mean_29 : kX9_mean 29 = some (s_ald 30 0) := rfl
theorem kX9_mean_30 : kX9_mean 30 = some (s_callV 33 1 9 wX9_plainDay) := rfl
theorem kX9_mean_33 : kX9_mean 33 = some (s_ald 34 0) := rfl
theorem kX9_mean_34 : kX9_mean 34 = some (s_get 37 9 18) := rfl
theorem kX9_mean_37 : kX9_mean 37 = some (s_ild 38 1) := rfl
theorem kX9_mean_38 : kX9_mean 38 = some (s_iald 39) := rfl
theorem kX9_mean_39 : kX9_mean 39 = some (s_if 42 44 (fun x => ¬ x = 0)) := rfl
theorem kX9_mean_42 : kX9_mean 42 = some (s_ild 43 2) := rfl
theorem kX9_mean_43 : kX9_mean 43 = some (s_ret) := rfl
theorem kX9_mean_44 : kX9_mean 44 = some (s_ald 45 0) := rfl
theorem kX9_mean_45 : kX9_mean 45 = some (s_get 48 9 18) := rfl
theorem kX9_mean_48 : kX9_mean 48 = some (s_ild 49 1) := rfl
theorem kX9_mean_49 : kX9_mean 49 = some (s_iald 50) := rfl
theorem kX9_mean_50 : kX9_mean 50 = some (s_ald 51 0) := rfl
theorem kX9_mean_51 : kX9_mean 51 = some (s_get 54 9 17) := rfl
theorem kX9_mean_54 : kX9_mean 54 = some (s_ild 55 1) := rfl
theorem kX9_mean_55 : kX9_mean 55 = some (s_iald 56) := rfl
theorem kX9_mean_56 : kX9_mean 56 = some (s_callS 59 2 (wX9_common 40)) := rfl
theorem kX9_mean_59 : kX9_mean 59 = some (s_ist 60 3) := rfl
theorem kX9_mean_60 : kX9_mean 60 = some (s_ild 61 2) := rfl
theorem kX9_mean_61 : kX9_mean 61 = some (s_if 64 75 (fun x => ¬ x = 0)) := rfl
theorem kX9_mean_64 : kX9_mean 64 = some (s_ald 65 0) := rfl
theorem kX9_mean_65 : kX9_mean 65 = some (s_get 68 9 17) := rfl
theorem kX9_mean_68 : kX9_mean 68 = some (s_ild 69 1) := rfl
theorem kX9_mean_69 : kX9_mean 69 = some (s_iald 70) := rfl
theorem kX9_mean_70 : kX9_mean 70 = some (s_ild 71 3) := rfl
theorem kX9_mean_71 : kX9_mean 71 = some (s_div 72) := rfl
theorem kX9_mean_72 : kX9_mean 72 = some (s_goto 83) := rfl
theorem kX9_mean_75 : kX9_mean 75 = some (s_ald 76 0) := rfl
theorem kX9_mean_76 : kX9_mean 76 = some (s_get 79 9 18) := rfl
theorem kX9_mean_79 : kX9_mean 79 = some (s_ild 80 1) := rfl
theorem kX9_mean_80 : kX9_mean 80 = some (s_iald 81) := rfl
theorem kX9_mean_81 : kX9_mean 81 = some (s_ild 82 3) := rfl
theorem kX9_mean_82 : kX9_mean 82 = some (s_div 83) := rfl
theorem kX9_mean_83 : kX9_mean 83 = some (s_ret) := rfl
def wX9_mean : m_GK := m_wp 4 kX9_mean
set_option maxRecDepth 100000 in
set_option maxHeartbeats 4000000 in
theorem sX9_mean (l : Launch) (X : m_X) (hX : m_inj X.1) : m_Sound l X 42 yX9_mean cX9_mean 4 (some .int) wX9_mean := m_sound_of hX (by decide) (fun p e s m args below meth c q C hr => m_bt_all (m_bt_all (m_bt_all (m_bt_all (m_bt_all (m_lf_all (o_aload_n C (i := 0) rfl dX9_mean_0 rfl)) (m_bt_all (m_lf_all (o_iload_n C (i := 1) rfl dX9_mean_1 rfl)) (m_lf_all (o_callV C (T := TX9) (N := 35) (sX9_isSort l X hX) rfl (m_in_of [1077, 1079, 38, 81] (by decide +kernel) (by decide +kernel)) (m_tb_of 1080 (by decide +kernel) rfl) (by decide +kernel) rfl ⟨Nat.le_of_ble_eq_true rfl, Nat.le_of_ble_eq_true rfl⟩ dX9_mean_2 rfl)))) (m_bt_all (m_lf_all (o_if_ne C dX9_mean_5 rfl rfl)) (m_bt_all (m_lf_all (o_aload_n C (i := 0) rfl dX9_mean_8 rfl)) (m_lf_all (o_iconst C (x := (-1)) (m_rngd rfl) dX9_mean_9 rfl))))) (m_bt_all (m_bt_all (m_lf_all (o_callV C (T := TX9) (N := 35) (sX9_refuse l X hX) rfl (m_in_of [1036, 1038, 30, 81] (by decide +kernel) (by decide +kernel)) (m_tb_of 1039 (by decide +kernel) rfl) (by decide +kernel) rfl ⟨Nat.le_of_ble_eq_true rfl, Nat.le_of_ble_eq_true rfl⟩ dX9_mean_10 rfl)) (m_bt_all (m_lf_all (o_iret C hr dX9_mean_13)) (m_lf_all (o_iload_n C (i := 2) rfl dX9_mean_14 rfl)))) (m_bt_all (m_lf_all (o_iconst C (x := (2)) (m_rngd rfl) dX9_mean_15 rfl)) (m_bt_all (m_lf_all (o_callS C (sX9_isIn l X hX) (m_in_of [1081, 1082, 81] (by decide +kernel) (by decide +kernel)) (m_tb_of 1083 (by decide +kernel) rfl) (by decide +kernel) ⟨Nat.le_of_ble_eq_true rfl, Nat.le_of_ble_eq_true rfl⟩ dX9_mean_16 rfl)) (m_lf_all (o_if_ne C dX9_mean_19 rfl rfl)))))) (m_bt_all (m_bt_all (m_bt_all (m_lf_all (o_aload_n C (i := 0) rfl dX9_mean_22 rfl)) (m_bt_all (m_lf_all (o_bipush C (x := (-2)) (m_rngd rfl) rfl dX9_mean_23 rfl)) (m_lf_all (o_callV C (T := TX9) (N := 35) (sX9_refuse l X hX) rfl (m_in_of [1036, 1038, 30, 81] (by decide +kernel) (by decide +kernel)) (m_tb_of 1039 (by decide +kernel) rfl) (by decide +kernel) rfl ⟨Nat.le_of_ble_eq_true rfl, Nat.le_of_ble_eq_true rfl⟩ dX9_mean_25 rfl)))) (m_bt_all (m_lf_all (o_iret C hr dX9_mean_28)) (m_bt_all (m_lf_all (o_aload_n C (i := 0) rfl dX9_mean_29 rfl)) (m_lf_all (o_callV C (T := TX9) (N := 35) (sX9_plainDay l X hX) rfl (m_in_of [1213, 1215, 63, 81] (by decide +kernel) (by decide +kernel)) (m_tb_of 1216 (by decide +kernel) rfl) (by decide +kernel) rfl ⟨Nat.le_of_ble_eq_true rfl, Nat.le_of_ble_eq_true rfl⟩ dX9_mean_30 rfl))))) (m_bt_all (m_bt_all (m_lf_all (o_aload_n C (i := 0) rfl dX9_mean_33 rfl)) (m_bt_all (m_lf_all (o_get C (ci := 9) (k := 18) (N := 35) (rf := RX9) (T := TX9) rfl ginX9 (Nat.le_of_ble_eq_true rfl) (m_tb_of 944 (by decide +kernel) rfl) dX9_mean_34 rfl)) (m_lf_all (o_iload_n C (i := 1) rfl dX9_mean_37 rfl)))) (m_bt_all (m_bt_all (m_lf_all (o_iald C dX9_mean_38 rfl)) (m_lf_all (o_if_ne C dX9_mean_39 rfl rfl))) (m_bt_all (m_lf_all (o_iload_n C (i := 2) rfl dX9_mean_42 rfl)) (m_lf_all (o_iret C hr dX9_mean_43))))))) (m_bt_all (m_bt_all (m_bt_all (m_bt_all (m_lf_all (o_aload_n C (i := 0) rfl dX9_mean_44 rfl)) (m_bt_all (m_lf_all (o_get C (ci := 9) (k := 18) (N := 35) (rf := RX9) (T := TX9) rfl ginX9 (Nat.le_of_ble_eq_true rfl) (m_tb_of 944 (by decide +kernel) rfl) dX9_mean_45 rfl)) (m_lf_all (o_iload_n C (i := 1) rfl dX9_mean_48 rfl)))) (m_bt_all (m_lf_all (o_iald C dX9_mean_49 rfl)) (m_bt_all (m_lf_all (o_aload_n C (i := 0) rfl dX9_mean_50 rfl)) (m_lf_all (o_get C (ci := 9) (k := 17) (N := 35) (rf := RX9) (T := TX9) rfl ginX9 (Nat.le_of_ble_eq_true rfl) (m_tb_of 943 (by decide +kernel) rfl) dX9_mean_51 rfl))))) (m_bt_all (m_bt_all (m_lf_all (o_iload_n C (i := 1) rfl dX9_mean_54 rfl)) (m_bt_all (m_lf_all (o_iald C dX9_mean_55 rfl)) (m_lf_all (o_callS C (sX9_common l X hX 40) (m_in_of [1245, 1246, 81] (by decide +kernel) (by decide +kernel)) (m_tb_of 1247 (by decide +kernel) rfl) (by decide +kernel) ⟨Nat.le_of_ble_eq_true rfl, Nat.le_of_ble_eq_true rfl⟩ dX9_mean_56 rfl)))) (m_bt_all (m_bt_all (m_lf_all (o_istore_n C (i := 3) rfl dX9_mean_59 rfl)) (m_lf_all (o_iload_n C (i := 2) rfl dX9_mean_60 rfl))) (m_bt_all (m_lf_all (o_if_ne C dX9_mean_61 rfl rfl)) (m_lf_all (o_aload_n C (i := 0) rfl dX9_mean_64 rfl)))))) (m_bt_all (m_bt_all (m_bt_all (m_lf_all (o_get C (ci := 9) (k := 17) (N := 35) (rf := RX9) (T := TX9) rfl ginX9 (Nat.le_of_ble_eq_true rfl) (m_tb_of 943 (by decide +kernel) rfl) dX9_mean_65 rfl)) (m_bt_all (m_lf_all (o_iload_n C (i := 1) rfl dX9_mean_68 rfl)) (m_lf_all (o_iald C dX9_mean_69 rfl)))) (m_bt_all (m_lf_all (o_iload_n C (i := 3) rfl dX9_mean_70 rfl)) (m_bt_all (m_lf_all (o_idiv C dX9_mean_71 rfl)) (m_lf_all (o_goto C dX9_mean_72 rfl))))) (m_bt_all (m_bt_all (m_lf_all (o_aload_n C (i := 0) rfl dX9_mean_75 rfl)) (m_bt_all (m_lf_all (o_get C (ci := 9) (k := 18) (N := 35) (rf := RX9) (T := TX9) rfl ginX9 (Nat.le_of_ble_eq_true rfl) (m_tb_of 944 (by decide +kernel) rfl) dX9_mean_76 rfl)) (m_lf_all (o_iload_n C (i := 1) rfl dX9_mean_79 rfl)))) (m_bt_all (m_bt_all (m_lf_all (o_iald C dX9_mean_80 rfl)) (m_lf_all (o_iload_n C (i := 3) rfl dX9_mean_81 rfl))) (m_bt_all (m_lf_all (o_idiv C dX9_mean_82 rfl)) (m_lf_all (o_iret C hr dX9_mean_83))))))))
set_option maxRecDepth 20000 in
def kX9_keeps : m_C := m_bt 13 (m_bt 5 (m_bt 2 (m_bt 1 (m_lf 0 (s_push 1 (.inl (0)))) (m_lf 1 (s_ist 2 1))) (m_bt 3 (m_lf 2 (s_ild 3 1)) (m_lf 3 (s_push 5 (.inl (64)))))) (m_bt 9 (m_bt 8 (m_lf 5 (s_icmp 8 26 (fun x y => y ≤ x))) (m_lf 8 (s_ald 9 0))) (m_bt 12 (m_lf 9 (s_get 12 9 4)) (m_lf 12 (s_ild 13 1))))) (m_bt 19 (m_bt 17 (m_bt 14 (m_lf 13 (s_ald 14 0)) (m_lf 14 (s_get 17 9 1))) (m_bt 18 (m_lf 17 (s_ild 18 1)) (m_lf 18 (s_iald 19)))) (m_bt 23 (m_bt 20 (m_lf 19 (s_iast 20)) (m_lf 20 (s_inc 23 1 (1)))) (m_bt 26 (m_lf 23 (s_goto 2)) (m_lf 26 (s_retv)))))
theorem kX9_keeps_0 : kX9_keeps 0 = some (s_push 1 (.inl (0))) := rfl
theorem kX9_keeps_1 : kX9_keeps 1 = some (s_ist 2 1) := rfl
theorem kX9_keeps_2 : kX9_keeps 2 = some (s_ild 3 1) := rfl
theorem kX9_keeps_3 : kX9_keeps 3 = some (s_push 5 (.inl (64))) := rfl
theorem kX9_keeps_5 : kX9_keeps 5 = some (s_icmp 8 26 (fun x y => y ≤ x)) := rfl
theorem kX9_keeps_8 : kX9_keeps 8 = some (s_ald 9 0) := rfl
theorem kX9_keeps_9 : kX9_keeps 9 = some (s_get 12 9 4) := rfl
theorem kX9_keeps_12 : kX9_keeps 12 = some (s_ild 13 1) := rfl
theorem kX9_keeps_13 : kX9_keeps 13 = some (s_ald 14 0) := rfl
theorem kX9_keeps_14 : kX9_keeps 14 = some (s_get 17 9 1) := rfl
theorem kX9_keeps_17 : kX9_keeps 17 = some (s_ild 18 1) := rfl
theorem kX9_keeps_18 : kX9_keeps 18 = some (s_iald 19) := rfl
theorem kX9_keeps_19 : kX9_keeps 19 = some (s_iast 20) := rfl
theorem kX9_keeps_20 : kX9_keeps 20 = some (s_inc 23 1 (1)) := rfl
theorem kX9_keeps_23 : kX9_keeps 23 = some (s_goto 2) := rfl
theorem kX9_keeps_26 : kX9_keeps 26 = some (s_retv) := rfl
def wX9_keeps : m_GK := m_wp 2 kX9_keeps
set_option maxRecDepth 100000 in
set_option maxHeartbeats 4000000 in
theorem sX9_keeps (l : Launch) (X : m_X) (hX : m_inj X.1) : m_Sound l X 1 yX9_keeps cX9_keeps 2 none wX9_keeps := m_sound_of hX (by decide) (fun p e s m args below meth c q C hr => m_bt_all (m_bt_all (m_bt_all (m_bt_all (m_lf_all (o_iconst C (x := (0)) (m_rngd rfl) dX9_keeps_0 rfl)) (m_lf_all (o_istore_n C (i := 1) rfl dX9_keeps_1 rfl))) (m_bt_all (m_lf_all (o_iload_n C (i := 1) rfl dX9_keeps_2 rfl)) (m_lf_all (o_bipush C (x := (64)) (m_rngd rfl) rfl dX9_keeps_3 rfl)))) (m_bt_all (m_bt_all (m_lf_all (o_icmp_ge C dX9_keeps_5 rfl rfl)) (m_lf_all (o_aload_n C (i := 0) rfl dX9_keeps_8 rfl))) (m_bt_all (m_lf_all (o_get C (ci := 9) (k := 4) (N := 35) (rf := RX9) (T := TX9) rfl ginX9 (Nat.le_of_ble_eq_true rfl) (m_tb_of 930 (by decide +kernel) rfl) dX9_keeps_9 rfl)) (m_lf_all (o_iload_n C (i := 1) rfl dX9_keeps_12 rfl))))) (m_bt_all (m_bt_all (m_bt_all (m_lf_all (o_aload_n C (i := 0) rfl dX9_keeps_13 rfl)) (m_lf_all (o_get C (ci := 9) (k := 1) (N := 35) (rf := RX9) (T := TX9) rfl ginX9 (Nat.le_of_ble_eq_true rfl) (m_tb_of 927 (by decide +kernel) rfl) dX9_keeps_14 rfl))) (m_bt_all (m_lf_all (o_iload_n C (i := 1) rfl dX9_keeps_17 rfl)) (m_lf_all (o_iald C dX9_keeps_18 rfl)))) (m_bt_all (m_bt_all (m_lf_all (o_iast C dX9_keeps_19 rfl)) (m_lf_all (o_iinc C dX9_keeps_20 rfl))) (m_bt_all (m_lf_all (o_goto C dX9_keeps_23 rfl)) (m_lf_all (o_vret C hr dX9_keeps_26))))))
set_option maxRecDepth 20000 in
def kX9_putsBack : m_C := m_bt 13 (m_bt 5 (m_bt 2 (m_bt 1 (m_lf 0 (s_push 1 (.inl (0)))) (m_lf 1 (s_ist 2 1))) (m_bt 3 (m_lf 2 (s_ild 3 1)) (m_lf 3 (s_push 5 (.inl (64)))))) (m_bt 9 (m_bt 8 (m_lf 5 (s_icmp 8 26 (fun x y => y ≤ x))) (m_lf 8 (s_ald 9 0))) (m_bt 12 (m_lf 9 (s_get 12 9 1)) (m_lf 12 (s_ild 13 1))))) (m_bt 19 (m_bt 17 (m_bt 14 (m_lf 13 (s_ald 14 0)) (m_lf 14 (s_get 17 9 4))) (m_bt 18 (m_lf 17 (s_ild 18 1)) (m_lf 18 (s_iald 19)))) (m_bt 23 (m_bt 20 (m_lf 19 (s_iast 20)) (m_lf 20 (s_inc 23 1 (1)))) (m_bt 26 (m_lf 23 (s_goto 2)) (m_lf 26 (s_retv)))))
theorem kX9_putsBack_0 : kX9_putsBack 0 = some (s_push 1 (.inl (0))) := rfl
theorem kX9_putsBack_1 : kX9_putsBack 1 = some (s_ist 2 1) := rfl
theorem kX9_putsBack_2 : kX9_putsBack 2 = some (s_ild 3 1) := rfl
theorem kX9_putsBack_3 : kX9_putsBack 3 = some (s_push 5 (.inl (64))) := rfl
theorem kX9_putsBack_5 : kX9_putsBack 5 = some (s_icmp 8 26 (fun x y => y ≤ x)) := rfl
theorem kX9_putsBack_8 : kX9_putsBack 8 = some (s_ald 9 0) := rfl
theorem kX9_putsBack_9 : kX9_putsBack 9 = some (s_get 12 9 1) := rfl
theorem kX9_putsBack_12 : kX9_putsBack 12 = some (s_ild 13 1) := rfl
theorem kX9_putsBack_13 : kX9_putsBack 13 = some (s_ald 14 0) := rfl
theorem kX9_putsBack_14 : kX9_putsBack 14 = some (s_get 17 9 4) := rfl
theorem kX9_putsBack_17 : kX9_putsBack 17 = some (s_ild 18 1) := rfl
theorem kX9_putsBack_18 : kX9_putsBack 18 = some (s_iald 19) := rfl
theorem kX9_putsBack_19 : kX9_putsBack 19 = some (s_iast 20) := rfl
theorem kX9_putsBack_20 : kX9_putsBack 20 = some (s_inc 23 1 (1)) := rfl
theorem kX9_putsBack_23 : kX9_putsBack 23 = some (s_goto 2) := rfl
theorem kX9_putsBack_26 : kX9_putsBack 26 = some (s_retv) := rfl
def wX9_putsBack : m_GK := m_wp 2 kX9_putsBack
set_option maxRecDepth 100000 in
set_option maxHeartbeats 4000000 in
theorem sX9_putsBack (l : Launch) (X : m_X) (hX : m_inj X.1) : m_Sound l X 1 yX9_putsBack cX9_putsBack 2 none wX9_putsBack := m_sound_of hX (by decide) (fun p e s m args below meth c q C hr => m_bt_all (m_bt_all (m_bt_all (m_bt_all (m_lf_all (o_iconst C (x := (0)) (m_rngd rfl) dX9_putsBack_0 rfl)) (m_lf_all (o_istore_n C (i := 1) rfl dX9_putsBack_1 rfl))) (m_bt_all (m_lf_all (o_iload_n C (i := 1) rfl dX9_putsBack_2 rfl)) (m_lf_all (o_bipush C (x := (64)) (m_rngd rfl) rfl dX9_putsBack_3 rfl)))) (m_bt_all (m_bt_all (m_lf_all (o_icmp_ge C dX9_putsBack_5 rfl rfl)) (m_lf_all (o_aload_n C (i := 0) rfl dX9_putsBack_8 rfl))) (m_bt_all (m_lf_all (o_get C (ci := 9) (k := 1) (N := 35) (rf := RX9) (T := TX9) rfl ginX9 (Nat.le_of_ble_eq_true rfl) (m_tb_of 927 (by decide +kernel) rfl) dX9_putsBack_9 rfl)) (m_lf_all (o_iload_n C (i := 1) rfl dX9_putsBack_12 rfl))))) (m_bt_all (m_bt_all (m_bt_all (m_lf_all (o_aload_n C (i := 0) rfl dX9_putsBack_13 rfl)) (m_lf_all (o_get C (ci := 9) (k := 4) (N := 35) (rf := RX9) (T := TX9) rfl ginX9 (Nat.le_of_ble_eq_true rfl) (m_tb_of 930 (by decide +kernel) rfl) dX9_putsBack_14 rfl))) (m_bt_all (m_lf_all (o_iload_n C (i := 1) rfl dX9_putsBack_17 rfl)) (m_lf_all (o_iald C dX9_putsBack_18 rfl)))) (m_bt_all (m_bt_all (m_lf_all (o_iast C dX9_putsBack_19 rfl)) (m_lf_all (o_iinc C dX9_putsBack_20 rfl))) (m_bt_all (m_lf_all (o_goto C dX9_putsBack_23 rfl)) (m_lf_all (o_vret C hr dX9_putsBack_26))))))
set_option maxRecDepth 20000 in
def kX9_bestWord : m_C := m_bt 58 (m_bt 27 (m_bt 13 (m_bt 7 (m_bt 4 (m_bt 1 (m_lf 0 (s_ald 1 0)) (m_lf 1 (s_callV 4 1 9 wX9_keeps))) (m_bt 6 (m_lf 4 (s_push 6 (.inl (-9)))) (m_lf 6 (s_ist 7 1)))) (m_bt 11 (m_bt 8 (m_lf 7 (s_ald 8 0)) (m_lf 8 (s_callV 11 1 9 wX9_costOf))) (m_bt 12 (m_lf 11 (s_ist 12 2)) (m_lf 12 (s_push 13 (.inl (0))))))) (m_bt 19 (m_bt 15 (m_bt 14 (m_lf 13 (s_ist 14 3)) (m_lf 14 (s_ild 15 3))) (m_bt 16 (m_lf 15 (s_ald 16 0)) (m_lf 16 (s_get 19 9 1)))) (m_bt 21 (m_bt 20 (m_lf 19 (s_push 20 (.inl (1)))) (m_lf 20 (s_iald 21))) (m_bt 24 (m_lf 21 (s_icmp 24 120 (fun x y => y ≤ x))) (m_bt 25 (m_lf 24 (s_push 25 (.inl (1)))) (m_lf 25 (s_ist 27 4))))))) (m_bt 42 (m_bt 34 (m_bt 30 (m_bt 29 (m_lf 27 (s_ild 29 4)) (m_lf 29 (s_push 30 (.inl (4))))) (m_bt 33 (m_lf 30 (s_icmp 33 55 (fun x y => y ≤ x))) (m_lf 33 (s_ald 34 0)))) (m_bt 39 (m_bt 37 (m_lf 34 (s_get 37 9 1)) (m_lf 37 (s_push 39 (.inl (40))))) (m_bt 40 (m_lf 39 (s_push 40 (.inl (4)))) (m_bt 41 (m_lf 40 (s_ild 41 3)) (m_lf 41 (s_bin 42 (fun x y => m_wrap (x * y)))))))) (m_bt 48 (m_bt 45 (m_bt 43 (m_lf 42 (s_bin 43 (fun x y => m_wrap (x + y)))) (m_lf 43 (s_ild 45 4))) (m_bt 46 (m_lf 45 (s_bin 46 (fun x y => m_wrap (x + y)))) (m_lf 46 (s_push 48 (.inl (-9)))))) (m_bt 52 (m_bt 49 (m_lf 48 (s_iast 49)) (m_lf 49 (s_inc 52 4 (1)))) (m_bt 55 (m_lf 52 (s_goto 27)) (m_bt 56 (m_lf 55 (s_push 56 (.inl (0)))) (m_lf 56 (s_ist 58 4)))))))) (m_bt 87 (m_bt 73 (m_bt 66 (m_bt 62 (m_bt 60 (m_lf 58 (s_ild 60 4)) (m_lf 60 (s_push 62 (.inl (32))))) (m_bt 65 (m_lf 62 (s_icmp 65 110 (fun x y => y ≤ x))) (m_lf 65 (s_ald 66 0)))) (m_bt 71 (m_bt 69 (m_lf 66 (s_get 69 9 1)) (m_lf 69 (s_push 71 (.inl (40))))) (m_bt 72 (m_lf 71 (s_push 72 (.inl (4)))) (m_lf 72 (s_ild 73 3))))) (m_bt 78 (m_bt 75 (m_bt 74 (m_lf 73 (s_bin 74 (fun x y => m_wrap (x * y)))) (m_lf 74 (s_bin 75 (fun x y => m_wrap (x + y))))) (m_bt 77 (m_lf 75 (s_ild 77 4)) (m_lf 77 (s_iast 78)))) (m_bt 82 (m_bt 79 (m_lf 78 (s_ald 79 0)) (m_lf 79 (s_callV 82 1 9 wX9_costOf))) (m_bt 84 (m_lf 82 (s_ist 84 5)) (m_bt 86 (m_lf 84 (s_ild 86 5)) (m_lf 86 (s_ild 87 2))))))) (m_bt 103 (m_bt 96 (m_bt 93 (m_bt 90 (m_lf 87 (s_icmp 90 93 (fun x y => x < y))) (m_lf 90 (s_goto 104))) (m_bt 95 (m_lf 93 (s_push 95 (.inl (100)))) (m_lf 95 (s_ild 96 3)))) (m_bt 99 (m_bt 97 (m_lf 96 (s_bin 97 (fun x y => m_wrap (x * y)))) (m_lf 97 (s_ild 99 4))) (m_bt 100 (m_lf 99 (s_bin 100 (fun x y => m_wrap (x + y)))) (m_bt 101 (m_lf 100 (s_ist 101 1)) (m_lf 101 (s_ild 103 5)))))) (m_bt 111 (m_bt 107 (m_bt 104 (m_lf 103 (s_ist 104 2)) (m_lf 104 (s_inc 107 4 (1)))) (m_bt 110 (m_lf 107 (s_goto 58)) (m_lf 110 (s_ald 111 0)))) (m_bt 117 (m_bt 114 (m_lf 111 (s_callV 114 1 9 wX9_putsBack)) (m_lf 114 (s_inc 117 3 (1)))) (m_bt 120 (m_lf 117 (s_goto 14)) (m_bt 121 (m_lf 120 (s_ild 121 1)) (m_lf 121 (s_ret))))))))
theorem kX9_bestWord_0 : kX9_bestWord 0 = some (s_ald 1 0) := rfl
theorem kX9_bestWord_1 : kX9_bestWord 1 = some (s_callV 4 1 9 wX9_keeps) := rfl
theorem kX9_bestWord_4 : kX9_bestWord 4 = some (s_push 6 (.inl (-9))) := rfl
theorem kX9_bestWord_6 : kX9_bestWord 6 = some (s_ist 7 1) := rfl
theorem kX9_bestWord_7 : kX9_bestWord 7 = some (s_ald 8 0) := rfl
theorem kX9_bestWord_8 : kX9_bestWord 8 = some (s_callV 11 1 9 wX9_costOf) := rfl
theorem kX9_bestWord_11 : kX9_bestWord 11 = some (s_ist 12 2) := rfl
theorem kX9_bestWord_12 : kX9_bestWord 12 = some (s_push 13 (.inl (0))) := rfl
theorem kX9_bestWord_13 : kX9_bestWord 13 = some (s_ist 14 3) := rfl
theorem kX9_bestWord_14 : kX9_bestWord 14 = some (s_ild 15 3) := rfl
theorem kX9_bestWord_15 : kX9_bestWord 15 = some (s_ald 16 0) := rfl
theorem kX9_bestWord_16 : kX9_bestWord 16 = some (s_get 19 9 1) := rfl
theorem kX9_bestWord_19 : kX9_bestWord 19 = some (s_push 20 (.inl (1))) := rfl
theorem kX9_bestWord_20 : kX9_bestWord 20 = some (s_iald 21) := rfl
theorem kX9_bestWord_21 : kX9_bestWord 21 = some (s_icmp 24 120 (fun x y => y ≤ x)) := rfl
theorem kX9_bestWord_24 : kX9_bestWord 24 = some (s_push 25 (.inl (1))) := rfl
theorem kX9_bestWord_25 : kX9_bestWord 25 = some (s_ist 27 4) := rfl
theorem kX9_bestWord_27 : kX9_bestWord 27 = some (s_ild 29 4) := rfl
theorem kX9_bestWord_29 : kX9_bestWord 29 = some (s_push 30 (.inl (4))) := rfl
theorem kX9_bestWord_30 : kX9_bestWord 30 = some (s_icmp 33 55 (fun x y => y ≤ x)) := rfl
theorem kX9_bestWord_33 : kX9_bestWord 33 = some (s_ald 34 0) := rfl
theorem kX9_bestWord_34 : kX9_bestWord 34 = some (s_get 37 9 1) := rfl
theorem kX9_bestWord_37 : kX9_bestWord 37 = some (s_push 39 (.inl (40))) := rfl
theorem kX9_bestWord_39 : kX9_bestWord 39 = some (s_push 40 (.inl (4))) := rfl
theorem kX9_bestWord_40 : kX9_bestWord 40 = some (s_ild 41 3) := rfl
theorem kX9_bestWord_41 : kX9_bestWord 41 = some (s_bin 42 (fun x y => m_wrap (x * y))) := rfl
theorem kX9_bestWord_42 : kX9_bestWord 42 = some (s_bin 43 (fun x y => m_wrap (x + y))) := rfl
theorem kX9_bestWord_43 : kX9_bestWord 43 = some (s_ild 45 4) := rfl
theorem kX9_bestWord_45 : kX9_bestWord 45 = some (s_bin 46 (fun x y => m_wrap (x + y))) := rfl
theorem kX9_bestWord_46 : kX9_bestWord 46 = some (s_push 48 (.inl (-9))) := rfl
theorem kX9_bestWord_48 : kX9_bestWord 48 = some (s_iast 49) := rfl
theorem kX9_bestWord_49 : kX9_bestWord 49 = some (s_inc 52 4 (1)) := rfl
theorem kX9_bestWord_52 : kX9_bestWord 52 = some (s_goto 27) := rfl
theorem kX9_bestWord_55 : kX9_bestWord 55 = some (s_push 56 (.inl (0))) := rfl
theorem kX9_bestWord_56 : kX9_bestWord 56 = some (s_ist 58 4) := rfl
theorem kX9_bestWord_58 : kX9_bestWord 58 = some (s_ild 60 4) := rfl
theorem kX9_bestWord_60 : kX9_bestWord 60 = some (s_push 62 (.inl (32))) := rfl
theorem kX9_bestWord_62 : kX9_bestWord 62 = some (s_icmp 65 110 (fun x y => y ≤ x)) := rfl
theorem kX9_bestWord_65 : kX9_bestWord 65 = some (s_ald 66 0) := rfl
theorem kX9_bestWord_66 : kX9_bestWord 66 = some (s_get 69 9 1) := rfl
theorem kX9_bestWord_69 : kX9_bestWord 69 = some (s_push 71 (.inl (40))) := rfl
theorem kX9_bestWord_71 : kX9_bestWord 71 = some (s_push 72 (.inl (4))) := rfl
theorem kX9_bestWord_72 : kX9_bestWord 72 = some (s_ild 73 3) := rfl
theorem kX9_bestWord_73 : kX9_bestWord 73 = some (s_bin 74 (fun x y => m_wrap (x * y))) := rfl
theorem kX9_bestWord_74 : kX9_bestWord 74 = some (s_bin 75 (fun x y => m_wrap (x + y))) := rfl
theorem kX9_bestWord_75 : kX9_bestWord 75 = some (s_ild 77 4) := rfl
theorem kX9_bestWord_77 : kX9_bestWord 77 = some (s_iast 78) := rfl
theorem kX9_bestWord_78 : kX9_bestWord 78 = some (s_ald 79 0) := rfl
theorem kX9_bestWord_79 : kX9_bestWord 79 = some (s_callV 82 1 9 wX9_costOf) := rfl
theorem kX9_bestWord_82 : kX9_bestWord 82 = some (s_ist 84 5) := rfl
theorem kX9_bestWord_84 : kX9_bestWord 84 = some (s_ild 86 5) := rfl
theorem kX9_bestWord_86 : kX9_bestWord 86 = some (s_ild 87 2) := rfl
theorem kX9_bestWord_87 : kX9_bestWord 87 = some (s_icmp 90 93 (fun x y => x < y)) := rfl
theorem kX9_bestWord_90 : kX9_bestWord 90 = some (s_goto 104) := rfl
theorem kX9_bestWord_93 : kX9_bestWord 93 = some (s_push 95 (.inl (100))) := rfl
theorem kX9_bestWord_95 : kX9_bestWord 95 = some (s_ild 96 3) := rfl
theorem kX9_bestWord_96 : kX9_bestWord 96 = some (s_bin 97 (fun x y => m_wrap (x * y))) := rfl
theorem kX9_bestWord_97 : kX9_bestWord 97 = some (s_ild 99 4) := rfl
theorem kX9_bestWord_99 : kX9_bestWord 99 = some (s_bin 100 (fun x y => m_wrap (x + y))) := rfl
theorem kX9_bestWord_100 : kX9_bestWord 100 = some (s_ist 101 1) := rfl
theorem kX9_bestWord_101 : kX9_bestWord 101 = some (s_ild 103 5) := rfl
theorem kX9_bestWord_103 : kX9_bestWord 103 = some (s_ist 104 2) := rfl
theorem kX9_bestWord_104 : kX9_bestWord 104 = some (s_inc 107 4 (1)) := rfl
theorem kX9_bestWord_107 : kX9_bestWord 107 = some (s_goto 58) := rfl
theorem kX9_bestWord_110 : kX9_bestWord 110 = some (s_ald 111 0) := rfl
theorem kX9_bestWord_111 : kX9_bestWord 111 = some (s_callV 114 1 9 wX9_putsBack) := rfl
theorem kX9_bestWord_114 : kX9_bestWord 114 = some (s_inc 117 3 (1)) := rfl
theorem kX9_bestWord_117 : kX9_bestWord 117 = some (s_goto 14) := rfl
theorem kX9_bestWord_120 : kX9_bestWord 120 = some (s_ild 121 1) := rfl
theorem kX9_bestWord_121 : kX9_bestWord 121 = some (s_ret) := rfl
def wX9_bestWord : m_GK := m_wp 6 kX9_bestWord
set_option maxRecDepth 100000 in
set_option maxHeartbeats 4000000 in
theorem sX9_bestWord (l : Launch) (X : m_X) (hX : m_inj X.1) : m_Sound l X 11 yX9_bestWord cX9_bestWord 6 (some .int) wX9_bestWord := m_sound_of hX (by decide) (fun p e s m args below meth c q C hr => m_bt_all (m_bt_all (m_bt_all (m_bt_all (m_bt_all (m_bt_all (m_lf_all (o_aload_n C (i := 0) rfl dX9_bestWord_0 rfl)) (m_lf_all (o_callV C (T := TX9) (N := 35) (sX9_keeps l X hX) rfl (m_in_of [1252, 1254, 64, 81] (by decide +kernel) (by decide +kernel)) (m_tb_of 1255 (by decide +kernel) rfl) (by decide +kernel) rfl ⟨Nat.le_of_ble_eq_true rfl, Nat.le_of_ble_eq_true rfl⟩ dX9_bestWord_1 rfl))) (m_bt_all (m_lf_all (o_bipush C (x := (-9)) (m_rngd rfl) rfl dX9_bestWord_4 rfl)) (m_lf_all (o_istore_n C (i := 1) rfl dX9_bestWord_6 rfl)))) (m_bt_all (m_bt_all (m_lf_all (o_aload_n C (i := 0) rfl dX9_bestWord_7 rfl)) (m_lf_all (o_callV C (T := TX9) (N := 35) (sX9_costOf l X hX) rfl (m_in_of [1122, 1124, 42, 81] (by decide +kernel) (by decide +kernel)) (m_tb_of 1125 (by decide +kernel) rfl) (by decide +kernel) rfl ⟨Nat.le_of_ble_eq_true rfl, Nat.le_of_ble_eq_true rfl⟩ dX9_bestWord_8 rfl))) (m_bt_all (m_lf_all (o_istore_n C (i := 2) rfl dX9_bestWord_11 rfl)) (m_lf_all (o_iconst C (x := (0)) (m_rngd rfl) dX9_bestWord_12 rfl))))) (m_bt_all (m_bt_all (m_bt_all (m_lf_all (o_istore_n C (i := 3) rfl dX9_bestWord_13 rfl)) (m_lf_all (o_iload_n C (i := 3) rfl dX9_bestWord_14 rfl))) (m_bt_all (m_lf_all (o_aload_n C (i := 0) rfl dX9_bestWord_15 rfl)) (m_lf_all (o_get C (ci := 9) (k := 1) (N := 35) (rf := RX9) (T := TX9) rfl ginX9 (Nat.le_of_ble_eq_true rfl) (m_tb_of 927 (by decide +kernel) rfl) dX9_bestWord_16 rfl)))) (m_bt_all (m_bt_all (m_lf_all (o_iconst C (x := (1)) (m_rngd rfl) dX9_bestWord_19 rfl)) (m_lf_all (o_iald C dX9_bestWord_20 rfl))) (m_bt_all (m_lf_all (o_icmp_ge C dX9_bestWord_21 rfl rfl)) (m_bt_all (m_lf_all (o_iconst C (x := (1)) (m_rngd rfl) dX9_bestWord_24 rfl)) (m_lf_all (o_istore C dX9_bestWord_25 rfl))))))) (m_bt_all (m_bt_all (m_bt_all (m_bt_all (m_lf_all (o_iload C dX9_bestWord_27 rfl)) (m_lf_all (o_iconst C (x := (4)) (m_rngd rfl) dX9_bestWord_29 rfl))) (m_bt_all (m_lf_all (o_icmp_ge C dX9_bestWord_30 rfl rfl)) (m_lf_all (o_aload_n C (i := 0) rfl dX9_bestWord_33 rfl)))) (m_bt_all (m_bt_all (m_lf_all (o_get C (ci := 9) (k := 1) (N := 35) (rf := RX9) (T := TX9) rfl ginX9 (Nat.le_of_ble_eq_true rfl) (m_tb_of 927 (by decide +kernel) rfl) dX9_bestWord_34 rfl)) (m_lf_all (o_bipush C (x := (40)) (m_rngd rfl) rfl dX9_bestWord_37 rfl))) (m_bt_all (m_lf_all (o_iconst C (x := (4)) (m_rngd rfl) dX9_bestWord_39 rfl)) (m_bt_all (m_lf_all (o_iload_n C (i := 3) rfl dX9_bestWord_40 rfl)) (m_lf_all (o_imul C dX9_bestWord_41 rfl)))))) (m_bt_all (m_bt_all (m_bt_all (m_lf_all (o_iadd C dX9_bestWord_42 rfl)) (m_lf_all (o_iload C dX9_bestWord_43 rfl))) (m_bt_all (m_lf_all (o_iadd C dX9_bestWord_45 rfl)) (m_lf_all (o_bipush C (x := (-9)) (m_rngd rfl) rfl dX9_bestWord_46 rfl)))) (m_bt_all (m_bt_all (m_lf_all (o_iast C dX9_bestWord_48 rfl)) (m_lf_all (o_iinc C dX9_bestWord_49 rfl))) (m_bt_all (m_lf_all (o_goto C dX9_bestWord_52 rfl)) (m_bt_all (m_lf_all (o_iconst C (x := (0)) (m_rngd rfl) dX9_bestWord_55 rfl)) (m_lf_all (o_istore C dX9_bestWord_56 rfl)))))))) (m_bt_all (m_bt_all (m_bt_all (m_bt_all (m_bt_all (m_lf_all (o_iload C dX9_bestWord_58 rfl)) (m_lf_all (o_bipush C (x := (32)) (m_rngd rfl) rfl dX9_bestWord_60 rfl))) (m_bt_all (m_lf_all (o_icmp_ge C dX9_bestWord_62 rfl rfl)) (m_lf_all (o_aload_n C (i := 0) rfl dX9_bestWord_65 rfl)))) (m_bt_all (m_bt_all (m_lf_all (o_get C (ci := 9) (k := 1) (N := 35) (rf := RX9) (T := TX9) rfl ginX9 (Nat.le_of_ble_eq_true rfl) (m_tb_of 927 (by decide +kernel) rfl) dX9_bestWord_66 rfl)) (m_lf_all (o_bipush C (x := (40)) (m_rngd rfl) rfl dX9_bestWord_69 rfl))) (m_bt_all (m_lf_all (o_iconst C (x := (4)) (m_rngd rfl) dX9_bestWord_71 rfl)) (m_lf_all (o_iload_n C (i := 3) rfl dX9_bestWord_72 rfl))))) (m_bt_all (m_bt_all (m_bt_all (m_lf_all (o_imul C dX9_bestWord_73 rfl)) (m_lf_all (o_iadd C dX9_bestWord_74 rfl))) (m_bt_all (m_lf_all (o_iload C dX9_bestWord_75 rfl)) (m_lf_all (o_iast C dX9_bestWord_77 rfl)))) (m_bt_all (m_bt_all (m_lf_all (o_aload_n C (i := 0) rfl dX9_bestWord_78 rfl)) (m_lf_all (o_callV C (T := TX9) (N := 35) (sX9_costOf l X hX) rfl (m_in_of [1122, 1124, 42, 81] (by decide +kernel) (by decide +kernel)) (m_tb_of 1125 (by decide +kernel) rfl) (by decide +kernel) rfl ⟨Nat.le_of_ble_eq_true rfl, Nat.le_of_ble_eq_true rfl⟩ dX9_bestWord_79 rfl))) (m_bt_all (m_lf_all (o_istore C dX9_bestWord_82 rfl)) (m_bt_all (m_lf_all (o_iload C dX9_bestWord_84 rfl)) (m_lf_all (o_iload_n C (i := 2) rfl dX9_bestWord_86 rfl))))))) (m_bt_all (m_bt_all (m_bt_all (m_bt_all (m_lf_all (o_icmp_lt C dX9_bestWord_87 rfl rfl)) (m_lf_all (o_goto C dX9_bestWord_90 rfl))) (m_bt_all (m_lf_all (o_bipush C (x := (100)) (m_rngd rfl) rfl dX9_bestWord_93 rfl)) (m_lf_all (o_iload_n C (i := 3) rfl dX9_bestWord_95 rfl)))) (m_bt_all (m_bt_all (m_lf_all (o_imul C dX9_bestWord_96 rfl)) (m_lf_all (o_iload C dX9_bestWord_97 rfl))) (m_bt_all (m_lf_all (o_iadd C dX9_bestWord_99 rfl)) (m_bt_all (m_lf_all (o_istore_n C (i := 1) rfl dX9_bestWord_100 rfl)) (m_lf_all (o_iload C dX9_bestWord_101 rfl)))))) (m_bt_all (m_bt_all (m_bt_all (m_lf_all (o_istore_n C (i := 2) rfl dX9_bestWord_103 rfl)) (m_lf_all (o_iinc C dX9_bestWord_104 rfl))) (m_bt_all (m_lf_all (o_goto C dX9_bestWord_107 rfl)) (m_lf_all (o_aload_n C (i := 0) rfl dX9_bestWord_110 rfl)))) (m_bt_all (m_bt_all (m_lf_all (o_callV C (T := TX9) (N := 35) (sX9_putsBack l X hX) rfl (m_in_of [1256, 1258, 65, 81] (by decide +kernel) (by decide +kernel)) (m_tb_of 1259 (by decide +kernel) rfl) (by decide +kernel) rfl ⟨Nat.le_of_ble_eq_true rfl, Nat.le_of_ble_eq_true rfl⟩ dX9_bestWord_111 rfl)) (m_lf_all (o_iinc C dX9_bestWord_114 rfl))) (m_bt_all (m_lf_all (o_goto C dX9_bestWord_117 rfl)) (m_bt_all (m_lf_all (o_iload_n C (i := 1) rfl dX9_bestWord_120 rfl)) (m_lf_all (o_iret C hr dX9_bestWord_121)))))))))
set_option maxRecDepth 20000 in
def kX9_fewest : m_C := m_bt 47 (m_bt 25 (m_bt 11 (m_bt 5 (m_bt 1 (m_lf 0 (s_ald 1 0)) (m_bt 4 (m_lf 1 (s_get 4 9 1)) (m_lf 4 (s_push 5 (.inl (1)))))) (m_bt 6 (m_lf 5 (s_iald 6)) (m_bt 9 (m_lf 6 (s_if 9 14 (fun x => ¬ x = 0))) (m_lf 9 (s_push 11 (.inl (-3))))))) (m_bt 18 (m_bt 14 (m_lf 11 (s_goto 24)) (m_bt 15 (m_lf 14 (s_ild 15 1)) (m_lf 15 (s_if 18 23 (fun x => 0 ≤ x))))) (m_bt 23 (m_bt 20 (m_lf 18 (s_push 20 (.inl (-4)))) (m_lf 20 (s_goto 24))) (m_bt 24 (m_lf 23 (s_push 24 (.inl (0)))) (m_lf 24 (s_ist 25 2)))))) (m_bt 36 (m_bt 30 (m_bt 26 (m_lf 25 (s_ild 26 2)) (m_bt 29 (m_lf 26 (s_if 29 35 (fun x => x = 0))) (m_lf 29 (s_ald 30 0)))) (m_bt 34 (m_bt 31 (m_lf 30 (s_ild 31 2)) (m_lf 31 (s_callV 34 2 9 wX9_refuse))) (m_bt 35 (m_lf 34 (s_ret)) (m_lf 35 (s_ald 36 0))))) (m_bt 41 (m_bt 39 (m_lf 36 (s_get 39 9 1)) (m_bt 40 (m_lf 39 (s_push 40 (.inl (1)))) (m_lf 40 (s_iald 41)))) (m_bt 44 (m_bt 42 (m_lf 41 (s_ist 42 3)) (m_lf 42 (s_push 44 (.inl (-9))))) (m_bt 46 (m_lf 44 (s_ist 46 4)) (m_lf 46 (s_push 47 (.inl (1))))))))) (m_bt 73 (m_bt 61 (m_bt 52 (m_bt 49 (m_lf 47 (s_ist 49 5)) (m_bt 51 (m_lf 49 (s_ild 51 5)) (m_lf 51 (s_ild 52 3)))) (m_bt 57 (m_bt 55 (m_lf 52 (s_icmp 55 91 (fun x y => y < x))) (m_lf 55 (s_ild 57 4))) (m_bt 60 (m_lf 57 (s_if 60 91 (fun x => 0 ≤ x))) (m_lf 60 (s_ald 61 0))))) (m_bt 67 (m_bt 64 (m_lf 61 (s_get 64 9 1)) (m_bt 65 (m_lf 64 (s_push 65 (.inl (1)))) (m_lf 65 (s_ild 67 5)))) (m_bt 69 (m_bt 68 (m_lf 67 (s_iast 68)) (m_lf 68 (s_ald 69 0))) (m_bt 72 (m_lf 69 (s_callV 72 1 9 wX9_costOf)) (m_lf 72 (s_ild 73 1)))))) (m_bt 91 (m_bt 81 (m_bt 76 (m_lf 73 (s_icmp 76 81 (fun x y => y < x))) (m_bt 78 (m_lf 76 (s_ild 78 5)) (m_lf 78 (s_goto 83)))) (m_bt 85 (m_bt 83 (m_lf 81 (s_push 83 (.inl (-9)))) (m_lf 83 (s_ist 85 4))) (m_bt 88 (m_lf 85 (s_inc 88 5 (1))) (m_lf 88 (s_goto 49))))) (m_bt 96 (m_bt 92 (m_lf 91 (s_ald 92 0)) (m_bt 95 (m_lf 92 (s_get 95 9 1)) (m_lf 95 (s_push 96 (.inl (1)))))) (m_bt 98 (m_bt 97 (m_lf 96 (s_ild 97 3)) (m_lf 97 (s_iast 98))) (m_bt 100 (m_lf 98 (s_ild 100 4)) (m_lf 100 (s_ret)))))))
theorem kX9_fewest_0 : kX9_fewest 0 = some (s_ald 1 0) := rfl
theorem kX9_fewest_1 : kX9_fewest 1 = some (s_get 4 9 1) := rfl
theorem kX9_fewest_4 : kX9_fewest 4 = some (s_push 5 (.inl (1))) := rfl
theorem kX9_fewest_5 : kX9_fewest 5 = some (s_iald 6) := rfl
theorem kX9_fewest_6 : kX9_fewest 6 = some (s_if 9 14 (fun x => ¬ x = 0)) := rfl
theorem kX9_fewest_9 : kX9_fewest 9 = some (s_push 11 (.inl (-3))) := rfl
theorem kX9_fewest_11 : kX9_fewest 11 = some (s_goto 24) := rfl
theorem kX9_fewest_14 : kX9_fewest 14 = some (s_ild 15 1) := rfl
theorem kX9_fewest_15 : kX9_fewest 15 = some (s_if 18 23 (fun x => 0 ≤ x)) := rfl
theorem kX9_fewest_18 : kX9_fewest 18 = some (s_push 20 (.inl (-4))) := rfl
theorem kX9_fewest_20 : kX9_fewest 20 = some (s_goto 24) := rfl
theorem kX9_fewest_23 : kX9_fewest 23 = some (s_push 24 (.inl (0))) := rfl
theorem kX9_fewest_24 : kX9_fewest 24 = some (s_ist 25 2) := rfl
theorem kX9_fewest_25 : kX9_fewest 25 = some (s_ild 26 2) := rfl
theorem kX9_fewest_26 : kX9_fewest 26 = some (s_if 29 35 (fun x => x = 0)) := rfl
theorem kX9_fewest_29 : kX9_fewest 29 = some (s_ald 30 0) := rfl
theorem kX9_fewest_30 : kX9_fewest 30 = some (s_ild 31 2) := rfl
theorem kX9_fewest_31 : kX9_fewest 31 = some (s_callV 34 2 9 wX9_refuse) := rfl
theorem kX9_fewest_34 : kX9_fewest 34 = some (s_ret) := rfl
theorem kX9_fewest_35 : kX9_fewest 35 = some (s_ald 36 0) := rfl
theorem kX9_fewest_36 : kX9_fewest 36 = some (s_get 39 9 1) := rfl
theorem kX9_fewest_39 : kX9_fewest 39 = some (s_push 40 (.inl (1))) := rfl
theorem kX9_fewest_40 : kX9_fewest 40 = some (s_iald 41) := rfl
theorem kX9_fewest_41 : kX9_fewest 41 = some (s_ist 42 3) := rfl
theorem kX9_fewest_42 : kX9_fewest 42 = some (s_push 44 (.inl (-9))) := rfl
theorem kX9_fewest_44 : kX9_fewest 44 = some (s_ist 46 4) := rfl
theorem kX9_fewest_46 : kX9_fewest 46 = some (s_push 47 (.inl (1))) := rfl
theorem kX9_fewest_47 : kX9_fewest 47 = some (s_ist 49 5) := rfl
theorem kX9_fewest_49 : kX9_fewest 49 = some (s_ild 51 5) := rfl
theorem kX9_fewest_51 : kX9_fewest 51 = some (s_ild 52 3) := rfl
theorem kX9_fewest_52 : kX9_fewest 52 = some (s_icmp 55 91 (fun x y => y < x)) := rfl
theorem kX9_fewest_55 : kX9_fewest 55 = some (s_ild 57 4) := rfl
theorem kX9_fewest_57 : kX9_fewest 57 = some (s_if 60 91 (fun x => 0 ≤ x)) := rfl
theorem kX9_fewest_60 : kX9_fewest 60 = some (s_ald 61 0) := rfl
theorem kX9_fewest_61 : kX9_fewest 61 = some (s_get 64 9 1) := rfl
theorem kX9_fewest_64 : kX9_fewest 64 = some (s_push 65 (.inl (1))) := rfl
theorem kX9_fewest_65 : kX9_fewest 65 = some (s_ild 67 5) := rfl
theorem kX9_fewest_67 : kX9_fewest 67 = some (s_iast 68) := rfl
theorem kX9_fewest_68 : kX9_fewest 68 = some (s_ald 69 0) := rfl
theorem kX9_fewest_69 : kX9_fewest 69 = some (s_callV 72 1 9 wX9_costOf) := rfl
theorem kX9_fewest_72 : kX9_fewest 72 = some (s_ild 73 1) := rfl
theorem kX9_fewest_73 : kX9_fewest 73 = some (s_icmp 76 81 (fun x y => y < x)) := rfl
theorem kX9_fewest_76 : kX9_fewest 76 = some (s_ild 78 5) := rfl
theorem kX9_fewest_78 : kX9_fewest 78 = some (s_goto 83) := rfl
theorem kX9_fewest_81 : kX9_fewest 81 = some (s_push 83 (.inl (-9))) := rfl
theorem kX9_fewest_83 : kX9_fewest 83 = some (s_ist 85 4) := rfl
theorem kX9_fewest_85 : kX9_fewest 85 = some (s_inc 88 5 (1)) := rfl
theorem kX9_fewest_88 : kX9_fewest 88 = some (s_goto 49) := rfl
theorem kX9_fewest_91 : kX9_fewest 91 = some (s_ald 92 0) := rfl
theorem kX9_fewest_92 : kX9_fewest 92 = some (s_get 95 9 1) := rfl
theorem kX9_fewest_95 : kX9_fewest 95 = some (s_push 96 (.inl (1))) := rfl
theorem kX9_fewest_96 : kX9_fewest 96 = some (s_ild 97 3) := rfl
theorem kX9_fewest_97 : kX9_fewest 97 = some (s_iast 98) := rfl
theorem kX9_fewest_98 : kX9_fewest 98 = some (s_ild 100 4) := rfl
theorem kX9_fewest_100 : kX9_fewest 100 = some (s_ret) := rfl
def wX9_fewest : m_GK := m_wp 6 kX9_fewest
set_option maxRecDepth 100000 in
set_option maxHeartbeats 4000000 in
theorem sX9_fewest (l : Launch) (X : m_X) (hX : m_inj X.1) : m_Sound l X 11 yX9_fewest cX9_fewest 6 (some .int) wX9_fewest := m_sound_of hX (by decide) (fun p e s m args below meth c q C hr => m_bt_all (m_bt_all (m_bt_all (m_bt_all (m_bt_all (m_lf_all (o_aload_n C (i := 0) rfl dX9_fewest_0 rfl)) (m_bt_all (m_lf_all (o_get C (ci := 9) (k := 1) (N := 35) (rf := RX9) (T := TX9) rfl ginX9 (Nat.le_of_ble_eq_true rfl) (m_tb_of 927 (by decide +kernel) rfl) dX9_fewest_1 rfl)) (m_lf_all (o_iconst C (x := (1)) (m_rngd rfl) dX9_fewest_4 rfl)))) (m_bt_all (m_lf_all (o_iald C dX9_fewest_5 rfl)) (m_bt_all (m_lf_all (o_if_ne C dX9_fewest_6 rfl rfl)) (m_lf_all (o_bipush C (x := (-3)) (m_rngd rfl) rfl dX9_fewest_9 rfl))))) (m_bt_all (m_bt_all (m_lf_all (o_goto C dX9_fewest_11 rfl)) (m_bt_all (m_lf_all (o_iload_n C (i := 1) rfl dX9_fewest_14 rfl)) (m_lf_all (o_if_ge C dX9_fewest_15 rfl rfl)))) (m_bt_all (m_bt_all (m_lf_all (o_bipush C (x := (-4)) (m_rngd rfl) rfl dX9_fewest_18 rfl)) (m_lf_all (o_goto C dX9_fewest_20 rfl))) (m_bt_all (m_lf_all (o_iconst C (x := (0)) (m_rngd rfl) dX9_fewest_23 rfl)) (m_lf_all (o_istore_n C (i := 2) rfl dX9_fewest_24 rfl)))))) (m_bt_all (m_bt_all (m_bt_all (m_lf_all (o_iload_n C (i := 2) rfl dX9_fewest_25 rfl)) (m_bt_all (m_lf_all (o_if_eq C dX9_fewest_26 rfl rfl)) (m_lf_all (o_aload_n C (i := 0) rfl dX9_fewest_29 rfl)))) (m_bt_all (m_bt_all (m_lf_all (o_iload_n C (i := 2) rfl dX9_fewest_30 rfl)) (m_lf_all (o_callV C (T := TX9) (N := 35) (sX9_refuse l X hX) rfl (m_in_of [1036, 1038, 30, 81] (by decide +kernel) (by decide +kernel)) (m_tb_of 1039 (by decide +kernel) rfl) (by decide +kernel) rfl ⟨Nat.le_of_ble_eq_true rfl, Nat.le_of_ble_eq_true rfl⟩ dX9_fewest_31 rfl))) (m_bt_all (m_lf_all (o_iret C hr dX9_fewest_34)) (m_lf_all (o_aload_n C (i := 0) rfl dX9_fewest_35 rfl))))) (m_bt_all (m_bt_all (m_lf_all (o_get C (ci := 9) (k := 1) (N := 35) (rf := RX9) (T := TX9) rfl ginX9 (Nat.le_of_ble_eq_true rfl) (m_tb_of 927 (by decide +kernel) rfl) dX9_fewest_36 rfl)) (m_bt_all (m_lf_all (o_iconst C (x := (1)) (m_rngd rfl) dX9_fewest_39 rfl)) (m_lf_all (o_iald C dX9_fewest_40 rfl)))) (m_bt_all (m_bt_all (m_lf_all (o_istore_n C (i := 3) rfl dX9_fewest_41 rfl)) (m_lf_all (o_bipush C (x := (-9)) (m_rngd rfl) rfl dX9_fewest_42 rfl))) (m_bt_all (m_lf_all (o_istore C dX9_fewest_44 rfl)) (m_lf_all (o_iconst C (x := (1)) (m_rngd rfl) dX9_fewest_46 rfl))))))) (m_bt_all (m_bt_all (m_bt_all (m_bt_all (m_lf_all (o_istore C dX9_fewest_47 rfl)) (m_bt_all (m_lf_all (o_iload C dX9_fewest_49 rfl)) (m_lf_all (o_iload_n C (i := 3) rfl dX9_fewest_51 rfl)))) (m_bt_all (m_bt_all (m_lf_all (o_icmp_gt C dX9_fewest_52 rfl rfl)) (m_lf_all (o_iload C dX9_fewest_55 rfl))) (m_bt_all (m_lf_all (o_if_ge C dX9_fewest_57 rfl rfl)) (m_lf_all (o_aload_n C (i := 0) rfl dX9_fewest_60 rfl))))) (m_bt_all (m_bt_all (m_lf_all (o_get C (ci := 9) (k := 1) (N := 35) (rf := RX9) (T := TX9) rfl ginX9 (Nat.le_of_ble_eq_true rfl) (m_tb_of 927 (by decide +kernel) rfl) dX9_fewest_61 rfl)) (m_bt_all (m_lf_all (o_iconst C (x := (1)) (m_rngd rfl) dX9_fewest_64 rfl)) (m_lf_all (o_iload C dX9_fewest_65 rfl)))) (m_bt_all (m_bt_all (m_lf_all (o_iast C dX9_fewest_67 rfl)) (m_lf_all (o_aload_n C (i := 0) rfl dX9_fewest_68 rfl))) (m_bt_all (m_lf_all (o_callV C (T := TX9) (N := 35) (sX9_costOf l X hX) rfl (m_in_of [1122, 1124, 42, 81] (by decide +kernel) (by decide +kernel)) (m_tb_of 1125 (by decide +kernel) rfl) (by decide +kernel) rfl ⟨Nat.le_of_ble_eq_true rfl, Nat.le_of_ble_eq_true rfl⟩ dX9_fewest_69 rfl)) (m_lf_all (o_iload_n C (i := 1) rfl dX9_fewest_72 rfl)))))) (m_bt_all (m_bt_all (m_bt_all (m_lf_all (o_icmp_gt C dX9_fewest_73 rfl rfl)) (m_bt_all (m_lf_all (o_iload C dX9_fewest_76 rfl)) (m_lf_all (o_goto C dX9_fewest_78 rfl)))) (m_bt_all (m_bt_all (m_lf_all (o_bipush C (x := (-9)) (m_rngd rfl) rfl dX9_fewest_81 rfl)) (m_lf_all (o_istore C dX9_fewest_83 rfl))) (m_bt_all (m_lf_all (o_iinc C dX9_fewest_85 rfl)) (m_lf_all (o_goto C dX9_fewest_88 rfl))))) (m_bt_all (m_bt_all (m_lf_all (o_aload_n C (i := 0) rfl dX9_fewest_91 rfl)) (m_bt_all (m_lf_all (o_get C (ci := 9) (k := 1) (N := 35) (rf := RX9) (T := TX9) rfl ginX9 (Nat.le_of_ble_eq_true rfl) (m_tb_of 927 (by decide +kernel) rfl) dX9_fewest_92 rfl)) (m_lf_all (o_iconst C (x := (1)) (m_rngd rfl) dX9_fewest_95 rfl)))) (m_bt_all (m_bt_all (m_lf_all (o_iload_n C (i := 3) rfl dX9_fewest_96 rfl)) (m_lf_all (o_iast C dX9_fewest_97 rfl))) (m_bt_all (m_lf_all (o_iload C dX9_fewest_98 rfl)) (m_lf_all (o_iret C hr dX9_fewest_100))))))))
set_option maxRecDepth 20000 in
def kX9_edge : m_C := m_bt 52 (m_bt 24 (m_bt 10 (m_bt 6 (m_bt 1 (m_lf 0 (s_ald 1 0)) (m_bt 4 (m_lf 1 (s_callV 4 1 9 wX9_keeps)) (m_lf 4 (s_push 6 (.inl (-9)))))) (m_bt 8 (m_bt 7 (m_lf 6 (s_ist 7 1)) (m_lf 7 (s_push 8 (.inl (0))))) (m_bt 9 (m_lf 8 (s_ist 9 2)) (m_lf 9 (s_ild 10 2))))) (m_bt 16 (m_bt 12 (m_lf 10 (s_push 12 (.inl (60)))) (m_bt 15 (m_lf 12 (s_icmp 15 106 (fun x y => y < x))) (m_lf 15 (s_ild 16 1)))) (m_bt 20 (m_bt 19 (m_lf 16 (s_if 19 106 (fun x => 0 ≤ x))) (m_lf 19 (s_ald 20 0))) (m_bt 23 (m_lf 20 (s_get 23 9 1)) (m_lf 23 (s_push 24 (.inl (2)))))))) (m_bt 35 (m_bt 27 (m_bt 25 (m_lf 24 (s_ild 25 2)) (m_bt 26 (m_lf 25 (s_iast 26)) (m_lf 26 (s_ald 27 0)))) (m_bt 31 (m_bt 30 (m_lf 27 (s_callV 30 1 9 wX9_costOf)) (m_lf 30 (s_ist 31 3))) (m_bt 33 (m_lf 31 (s_push 33 (.inl (40)))) (m_lf 33 (s_ist 35 4))))) (m_bt 43 (m_bt 39 (m_bt 37 (m_lf 35 (s_ild 37 4)) (m_lf 37 (s_push 39 (.inl (64))))) (m_bt 42 (m_lf 39 (s_icmp 42 81 (fun x y => y ≤ x))) (m_lf 42 (s_ald 43 0)))) (m_bt 48 (m_bt 46 (m_lf 43 (s_get 46 9 1)) (m_lf 46 (s_ild 48 4))) (m_bt 49 (m_lf 48 (s_iald 49)) (m_lf 49 (s_if 52 75 (fun x => x ≤ 0)))))))) (m_bt 78 (m_bt 65 (m_bt 58 (m_bt 53 (m_lf 52 (s_ald 53 0)) (m_bt 56 (m_lf 53 (s_get 56 9 1)) (m_lf 56 (s_ild 58 4)))) (m_bt 62 (m_bt 59 (m_lf 58 (s_ald 59 0)) (m_lf 59 (s_get 62 9 1))) (m_bt 64 (m_lf 62 (s_ild 64 4)) (m_lf 64 (s_iald 65))))) (m_bt 72 (m_bt 69 (m_bt 66 (m_lf 65 (s_ald 66 0)) (m_lf 66 (s_get 69 9 1))) (m_bt 71 (m_lf 69 (s_ild 71 4)) (m_lf 71 (s_iald 72)))) (m_bt 74 (m_bt 73 (m_lf 72 (s_neg 73)) (m_lf 73 (s_bin 74 m_iand))) (m_bt 75 (m_lf 74 (s_iast 75)) (m_lf 75 (s_inc 78 4 (1))))))) (m_bt 93 (m_bt 83 (m_bt 81 (m_lf 78 (s_goto 35)) (m_bt 82 (m_lf 81 (s_ild 82 3)) (m_lf 82 (s_ald 83 0)))) (m_bt 89 (m_bt 86 (m_lf 83 (s_callV 86 1 9 wX9_costOf)) (m_lf 86 (s_icmp 89 93 (fun x y => x ≤ y)))) (m_bt 90 (m_lf 89 (s_ild 90 2)) (m_lf 90 (s_goto 95))))) (m_bt 100 (m_bt 96 (m_bt 95 (m_lf 93 (s_push 95 (.inl (-9)))) (m_lf 95 (s_ist 96 1))) (m_bt 97 (m_lf 96 (s_ald 97 0)) (m_lf 97 (s_callV 100 1 9 wX9_putsBack)))) (m_bt 106 (m_bt 103 (m_lf 100 (s_inc 103 2 (1))) (m_lf 103 (s_goto 9))) (m_bt 107 (m_lf 106 (s_ild 107 1)) (m_lf 107 (s_ret)))))))
theorem kX9_edge_0 : kX9_edge 0 = some (s_ald 1 0) := rfl
theorem kX9_edge_1 : kX9_edge 1 = some (s_callV 4 1 9 wX9_keeps) := rfl
theorem kX9_edge_4 : kX9_edge 4 = some (s_push 6 (.inl (-9))) := rfl
theorem kX9_edge_6 : kX9_edge 6 = some (s_ist 7 1) := rfl
theorem kX9_edge_7 : kX9_edge 7 = some (s_push 8 (.inl (0))) := rfl
theorem kX9_edge_8 : kX9_edge 8 = some (s_ist 9 2) := rfl
theorem kX9_edge_9 : kX9_edge 9 = some (s_ild 10 2) := rfl
theorem kX9_edge_10 : kX9_edge 10 = some (s_push 12 (.inl (60))) := rfl
theorem kX9_edge_12 : kX9_edge 12 = some (s_icmp 15 106 (fun x y => y < x)) := rfl
theorem kX9_edge_15 : kX9_edge 15 = some (s_ild 16 1) := rfl
theorem kX9_edge_16 : kX9_edge 16 = some (s_if 19 106 (fun x => 0 ≤ x)) := rfl
theorem kX9_edge_19 : kX9_edge 19 = some (s_ald 20 0) := rfl
theorem kX9_edge_20 : kX9_edge 20 = some (s_get 23 9 1) := rfl
theorem kX9_edge_23 : kX9_edge 23 = some (s_push 24 (.inl (2))) := rfl
theorem kX9_edge_24 : kX9_edge 24 = some (s_ild 25 2) := rfl
theorem kX9_edge_25 : kX9_edge 25 = some (s_iast 26) := rfl
theorem kX9_edge_26 : kX9_edge 26 = some (s_ald 27 0) := rfl
theorem kX9_edge_27 : kX9_edge 27 = some (s_callV 30 1 9 wX9_costOf) := rfl
theorem kX9_edge_30 : kX9_edge 30 = some (s_ist 31 3) := rfl
theorem kX9_edge_31 : kX9_edge 31 = some (s_push 33 (.inl (40))) := rfl
theorem kX9_edge_33 : kX9_edge 33 = some (s_ist 35 4) := rfl
theorem kX9_edge_35 : kX9_edge 35 = some (s_ild 37 4) := rfl
theorem kX9_edge_37 : kX9_edge 37 = some (s_push 39 (.inl (64))) := rfl
theorem kX9_edge_39 : kX9_edge 39 = some (s_icmp 42 81 (fun x y => y ≤ x)) := rfl
theorem kX9_edge_42 : kX9_edge 42 = some (s_ald 43 0) := rfl
theorem kX9_edge_43 : kX9_edge 43 = some (s_get 46 9 1) := rfl
theorem kX9_edge_46 : kX9_edge 46 = some (s_ild 48 4) := rfl
theorem kX9_edge_48 : kX9_edge 48 = some (s_iald 49) := rfl
theorem kX9_edge_49 : kX9_edge 49 = some (s_if 52 75 (fun x => x ≤ 0)) := rfl
theorem kX9_edge_52 : kX9_edge 52 = some (s_ald 53 0) := rfl
theorem kX9_edge_53 : kX9_edge 53 = some (s_get 56 9 1) := rfl
theorem kX9_edge_56 : kX9_edge 56 = some (s_ild 58 4) := rfl
theorem kX9_edge_58 : kX9_edge 58 = some (s_ald 59 0) := rfl
theorem kX9_edge_59 : kX9_edge 59 = some (s_get 62 9 1) := rfl
theorem kX9_edge_62 : kX9_edge 62 = some (s_ild 64 4) := rfl
theorem kX9_edge_64 : kX9_edge 64 = some (s_iald 65) := rfl
theorem kX9_edge_65 : kX9_edge 65 = some (s_ald 66 0) := rfl
theorem kX9_edge_66 : kX9_edge 66 = some (s_get 69 9 1) := rfl
theorem kX9_edge_69 : kX9_edge 69 = some (s_ild 71 4) := rfl
theorem kX9_edge_71 : kX9_edge 71 = some (s_iald 72) := rfl
theorem kX9_edge_72 : kX9_edge 72 = some (s_neg 73) := rfl
theorem kX9_edge_73 : kX9_edge 73 = some (s_bin 74 m_iand) := rfl
theorem kX9_edge_74 : kX9_edge 74 = some (s_iast 75) := rfl
theorem kX9_edge_75 : kX9_edge 75 = some (s_inc 78 4 (1)) := rfl
theorem kX9_edge_78 : kX9_edge 78 = some (s_goto 35) := rfl
theorem kX9_edge_81 : kX9_edge 81 = some (s_ild 82 3) := rfl
theorem kX9_edge_82 : kX9_edge 82 = some (s_ald 83 0) := rfl
theorem kX9_edge_83 : kX9_edge 83 = some (s_callV 86 1 9 wX9_costOf) := rfl
theorem kX9_edge_86 : kX9_edge 86 = some (s_icmp 89 93 (fun x y => x ≤ y)) := rfl
theorem kX9_edge_89 : kX9_edge 89 = some (s_ild 90 2) := rfl
theorem kX9_edge_90 : kX9_edge 90 = some (s_goto 95) := rfl
theorem kX9_edge_93 : kX9_edge 93 = some (s_push 95 (.inl (-9))) := rfl
theorem kX9_edge_95 : kX9_edge 95 = some (s_ist 96 1) := rfl
theorem kX9_edge_96 : kX9_edge 96 = some (s_ald 97 0) := rfl
theorem kX9_edge_97 : kX9_edge 97 = some (s_callV 100 1 9 wX9_putsBack) := rfl
theorem kX9_edge_100 : kX9_edge 100 = some (s_inc 103 2 (1)) := rfl
theorem kX9_edge_103 : kX9_edge 103 = some (s_goto 9) := rfl
theorem kX9_edge_106 : kX9_edge 106 = some (s_ild 107 1) := rfl
theorem kX9_edge_107 : kX9_edge 107 = some (s_ret) := rfl
def wX9_edge : m_GK := m_wp 5 kX9_edge
set_option maxRecDepth 100000 in
set_option maxHeartbeats 4000000 in
theorem sX9_edge (l : Launch) (X : m_X) (hX : m_inj X.1) : m_Sound l X 11 yX9_edge cX9_edge 5 (some .int) wX9_edge := m_sound_of hX (by decide) (fun p e s m args below meth c q C hr => m_bt_all (m_bt_all (m_bt_all (m_bt_all (m_bt_all (m_lf_all (o_aload_n C (i := 0) rfl dX9_edge_0 rfl)) (m_bt_all (m_lf_all (o_callV C (T := TX9) (N := 35) (sX9_keeps l X hX) rfl (m_in_of [1252, 1254, 64, 81] (by decide +kernel) (by decide +kernel)) (m_tb_of 1255 (by decide +kernel) rfl) (by decide +kernel) rfl ⟨Nat.le_of_ble_eq_true rfl, Nat.le_of_ble_eq_true rfl⟩ dX9_edge_1 rfl)) (m_lf_all (o_bipush C (x := (-9)) (m_rngd rfl) rfl dX9_edge_4 rfl)))) (m_bt_all (m_bt_all (m_lf_all (o_istore_n C (i := 1) rfl dX9_edge_6 rfl)) (m_lf_all (o_iconst C (x := (0)) (m_rngd rfl) dX9_edge_7 rfl))) (m_bt_all (m_lf_all (o_istore_n C (i := 2) rfl dX9_edge_8 rfl)) (m_lf_all (o_iload_n C (i := 2) rfl dX9_edge_9 rfl))))) (m_bt_all (m_bt_all (m_lf_all (o_bipush C (x := (60)) (m_rngd rfl) rfl dX9_edge_10 rfl)) (m_bt_all (m_lf_all (o_icmp_gt C dX9_edge_12 rfl rfl)) (m_lf_all (o_iload_n C (i := 1) rfl dX9_edge_15 rfl)))) (m_bt_all (m_bt_all (m_lf_all (o_if_ge C dX9_edge_16 rfl rfl)) (m_lf_all (o_aload_n C (i := 0) rfl dX9_edge_19 rfl))) (m_bt_all (m_lf_all (o_get C (ci := 9) (k := 1) (N := 35) (rf := RX9) (T := TX9) rfl ginX9 (Nat.le_of_ble_eq_true rfl) (m_tb_of 927 (by decide +kernel) rfl) dX9_edge_20 rfl)) (m_lf_all (o_iconst C (x := (2)) (m_rngd rfl) dX9_edge_23 rfl)))))) (m_bt_all (m_bt_all (m_bt_all (m_lf_all (o_iload_n C (i := 2) rfl dX9_edge_24 rfl)) (m_bt_all (m_lf_all (o_iast C dX9_edge_25 rfl)) (m_lf_all (o_aload_n C (i := 0) rfl dX9_edge_26 rfl)))) (m_bt_all (m_bt_all (m_lf_all (o_callV C (T := TX9) (N := 35) (sX9_costOf l X hX) rfl (m_in_of [1122, 1124, 42, 81] (by decide +kernel) (by decide +kernel)) (m_tb_of 1125 (by decide +kernel) rfl) (by decide +kernel) rfl ⟨Nat.le_of_ble_eq_true rfl, Nat.le_of_ble_eq_true rfl⟩ dX9_edge_27 rfl)) (m_lf_all (o_istore_n C (i := 3) rfl dX9_edge_30 rfl))) (m_bt_all (m_lf_all (o_bipush C (x := (40)) (m_rngd rfl) rfl dX9_edge_31 rfl)) (m_lf_all (o_istore C dX9_edge_33 rfl))))) (m_bt_all (m_bt_all (m_bt_all (m_lf_all (o_iload C dX9_edge_35 rfl)) (m_lf_all (o_bipush C (x := (64)) (m_rngd rfl) rfl dX9_edge_37 rfl))) (m_bt_all (m_lf_all (o_icmp_ge C dX9_edge_39 rfl rfl)) (m_lf_all (o_aload_n C (i := 0) rfl dX9_edge_42 rfl)))) (m_bt_all (m_bt_all (m_lf_all (o_get C (ci := 9) (k := 1) (N := 35) (rf := RX9) (T := TX9) rfl ginX9 (Nat.le_of_ble_eq_true rfl) (m_tb_of 927 (by decide +kernel) rfl) dX9_edge_43 rfl)) (m_lf_all (o_iload C dX9_edge_46 rfl))) (m_bt_all (m_lf_all (o_iald C dX9_edge_48 rfl)) (m_lf_all (o_if_le C dX9_edge_49 rfl rfl))))))) (m_bt_all (m_bt_all (m_bt_all (m_bt_all (m_lf_all (o_aload_n C (i := 0) rfl dX9_edge_52 rfl)) (m_bt_all (m_lf_all (o_get C (ci := 9) (k := 1) (N := 35) (rf := RX9) (T := TX9) rfl ginX9 (Nat.le_of_ble_eq_true rfl) (m_tb_of 927 (by decide +kernel) rfl) dX9_edge_53 rfl)) (m_lf_all (o_iload C dX9_edge_56 rfl)))) (m_bt_all (m_bt_all (m_lf_all (o_aload_n C (i := 0) rfl dX9_edge_58 rfl)) (m_lf_all (o_get C (ci := 9) (k := 1) (N := 35) (rf := RX9) (T := TX9) rfl ginX9 (Nat.le_of_ble_eq_true rfl) (m_tb_of 927 (by decide +kernel) rfl) dX9_edge_59 rfl))) (m_bt_all (m_lf_all (o_iload C dX9_edge_62 rfl)) (m_lf_all (o_iald C dX9_edge_64 rfl))))) (m_bt_all (m_bt_all (m_bt_all (m_lf_all (o_aload_n C (i := 0) rfl dX9_edge_65 rfl)) (m_lf_all (o_get C (ci := 9) (k := 1) (N := 35) (rf := RX9) (T := TX9) rfl ginX9 (Nat.le_of_ble_eq_true rfl) (m_tb_of 927 (by decide +kernel) rfl) dX9_edge_66 rfl))) (m_bt_all (m_lf_all (o_iload C dX9_edge_69 rfl)) (m_lf_all (o_iald C dX9_edge_71 rfl)))) (m_bt_all (m_bt_all (m_lf_all (o_ineg C dX9_edge_72 rfl)) (m_lf_all (o_iand C dX9_edge_73 rfl))) (m_bt_all (m_lf_all (o_iast C dX9_edge_74 rfl)) (m_lf_all (o_iinc C dX9_edge_75 rfl)))))) (m_bt_all (m_bt_all (m_bt_all (m_lf_all (o_goto C dX9_edge_78 rfl)) (m_bt_all (m_lf_all (o_iload_n C (i := 3) rfl dX9_edge_81 rfl)) (m_lf_all (o_aload_n C (i := 0) rfl dX9_edge_82 rfl)))) (m_bt_all (m_bt_all (m_lf_all (o_callV C (T := TX9) (N := 35) (sX9_costOf l X hX) rfl (m_in_of [1122, 1124, 42, 81] (by decide +kernel) (by decide +kernel)) (m_tb_of 1125 (by decide +kernel) rfl) (by decide +kernel) rfl ⟨Nat.le_of_ble_eq_true rfl, Nat.le_of_ble_eq_true rfl⟩ dX9_edge_83 rfl)) (m_lf_all (o_icmp_le C dX9_edge_86 rfl rfl))) (m_bt_all (m_lf_all (o_iload_n C (i := 2) rfl dX9_edge_89 rfl)) (m_lf_all (o_goto C dX9_edge_90 rfl))))) (m_bt_all (m_bt_all (m_bt_all (m_lf_all (o_bipush C (x := (-9)) (m_rngd rfl) rfl dX9_edge_93 rfl)) (m_lf_all (o_istore_n C (i := 1) rfl dX9_edge_95 rfl))) (m_bt_all (m_lf_all (o_aload_n C (i := 0) rfl dX9_edge_96 rfl)) (m_lf_all (o_callV C (T := TX9) (N := 35) (sX9_putsBack l X hX) rfl (m_in_of [1256, 1258, 65, 81] (by decide +kernel) (by decide +kernel)) (m_tb_of 1259 (by decide +kernel) rfl) (by decide +kernel) rfl ⟨Nat.le_of_ble_eq_true rfl, Nat.le_of_ble_eq_true rfl⟩ dX9_edge_97 rfl)))) (m_bt_all (m_bt_all (m_lf_all (o_iinc C dX9_edge_100 rfl)) (m_lf_all (o_goto C dX9_edge_103 rfl))) (m_bt_all (m_lf_all (o_iload_n C (i := 1) rfl dX9_edge_106 rfl)) (m_lf_all (o_iret C hr dX9_edge_107))))))))
set_option maxRecDepth 20000 in
def kX9_bestOf : m_C := m_bt 35 (m_bt 16 (m_bt 7 (m_bt 4 (m_bt 1 (m_lf 0 (s_ald 1 0)) (m_lf 1 (s_get 4 9 1))) (m_bt 5 (m_lf 4 (s_push 5 (.inl (2)))) (m_bt 6 (m_lf 5 (s_ild 6 1)) (m_lf 6 (s_bin 7 (fun x y => m_wrap (x + y))))))) (m_bt 11 (m_bt 8 (m_lf 7 (s_iald 8)) (m_bt 9 (m_lf 8 (s_ist 9 3)) (m_lf 9 (s_push 11 (.inl (-9)))))) (m_bt 13 (m_lf 11 (s_ist 13 4)) (m_bt 14 (m_lf 13 (s_push 14 (.inl (0)))) (m_lf 14 (s_ist 16 5)))))) (m_bt 26 (m_bt 21 (m_bt 17 (m_lf 16 (s_push 17 (.inl (0)))) (m_bt 19 (m_lf 17 (s_ist 19 6)) (m_lf 19 (s_ild 21 6)))) (m_bt 22 (m_lf 21 (s_ild 22 2)) (m_bt 25 (m_lf 22 (s_icmp 25 70 (fun x y => y ≤ x))) (m_lf 25 (s_ald 26 0))))) (m_bt 31 (m_bt 29 (m_lf 26 (s_get 29 9 1)) (m_bt 30 (m_lf 29 (s_push 30 (.inl (2)))) (m_lf 30 (s_ild 31 1)))) (m_bt 32 (m_lf 31 (s_bin 32 (fun x y => m_wrap (x + y)))) (m_bt 34 (m_lf 32 (s_ild 34 6)) (m_lf 34 (s_iast 35))))))) (m_bt 62 (m_bt 48 (m_bt 41 (m_bt 36 (m_lf 35 (s_ald 36 0)) (m_bt 39 (m_lf 36 (s_callV 39 1 9 wX9_costOf)) (m_lf 39 (s_ist 41 7)))) (m_bt 43 (m_lf 41 (s_ild 43 4)) (m_bt 46 (m_lf 43 (s_if 46 56 (fun x => x < 0))) (m_lf 46 (s_ild 48 7))))) (m_bt 56 (m_bt 50 (m_lf 48 (s_ild 50 5)) (m_bt 53 (m_lf 50 (s_icmp 53 56 (fun x y => x < y))) (m_lf 53 (s_goto 64)))) (m_bt 58 (m_lf 56 (s_ild 58 6)) (m_bt 60 (m_lf 58 (s_ist 60 4)) (m_lf 60 (s_ild 62 7)))))) (m_bt 75 (m_bt 70 (m_bt 64 (m_lf 62 (s_ist 64 5)) (m_bt 67 (m_lf 64 (s_inc 67 6 (1))) (m_lf 67 (s_goto 19)))) (m_bt 71 (m_lf 70 (s_ald 71 0)) (m_bt 74 (m_lf 71 (s_get 74 9 1)) (m_lf 74 (s_push 75 (.inl (2))))))) (m_bt 78 (m_bt 76 (m_lf 75 (s_ild 76 1)) (m_bt 77 (m_lf 76 (s_bin 77 (fun x y => m_wrap (x + y)))) (m_lf 77 (s_ild 78 3)))) (m_bt 79 (m_lf 78 (s_iast 79)) (m_bt 81 (m_lf 79 (s_ild 81 4)) (m_lf 81 (s_ret)))))))
theorem kX9_bestOf_0 : kX9_bestOf 0 = some (s_ald 1 0) := rfl
theorem kX9_bestOf_1 : kX9_bestOf 1 = some (s_get 4 9 1) := rfl
theorem kX9_bestOf_4 : kX9_bestOf 4 = some (s_push 5 (.inl (2))) := rfl
theorem kX9_bestOf_5 : kX9_bestOf 5 = some (s_ild 6 1) := rfl
theorem kX9_bestOf_6 : kX9_bestOf 6 = some (s_bin 7 (fun x y => m_wrap (x + y))) := rfl
theorem kX9_bestOf_7 : kX9_bestOf 7 = some (s_iald 8) := rfl
theorem kX9_bestOf_8 : kX9_bestOf 8 = some (s_ist 9 3) := rfl
theorem kX9_bestOf_9 : kX9_bestOf 9 = some (s_push 11 (.inl (-9))) := rfl
theorem kX9_bestOf_11 : kX9_bestOf 11 = some (s_ist 13 4) := rfl
theorem kX9_bestOf_13 : kX9_bestOf 13 = some (s_push 14 (.inl (0))) := rfl
theorem kX9_bestOf_14 : kX9_bestOf 14 = some (s_ist 16 5) := rfl
theorem kX9_bestOf_16 : kX9_bestOf 16 = some (s_push 17 (.inl (0))) := rfl
theorem kX9_bestOf_17 : kX9_bestOf 17 = some (s_ist 19 6) := rfl
theorem kX9_bestOf_19 : kX9_bestOf 19 = some (s_ild 21 6) := rfl
theorem kX9_bestOf_21 : kX9_bestOf 21 = some (s_ild 22 2) := rfl
theorem kX9_bestOf_22 : kX9_bestOf 22 = some (s_icmp 25 70 (fun x y => y ≤ x)) := rfl
theorem kX9_bestOf_25 : kX9_bestOf 25 = some (s_ald 26 0) := rfl
theorem kX9_bestOf_26 : kX9_bestOf 26 = some (s_get 29 9 1) := rfl
theorem kX9_bestOf_29 : kX9_bestOf 29 = some (s_push 30 (.inl (2))) := rfl
theorem kX9_bestOf_30 : kX9_bestOf 30 = some (s_ild 31 1) := rfl
theorem kX9_bestOf_31 : kX9_bestOf 31 = some (s_bin 32 (fun x y => m_wrap (x + y))) := rfl
theorem kX9_bestOf_32 : kX9_bestOf 32 = some (s_ild 34 6) := rfl
theorem kX9_bestOf_34 : kX9_bestOf 34 = some (s_iast 35) := rfl
theorem kX9_bestOf_35 : kX9_bestOf 35 = some (s_ald 36 0) := rfl
theorem kX9_bestOf_36 : kX9_bestOf 36 = some (s_callV 39 1 9 wX9_costOf) := rfl
theorem kX9_bestOf_39 : kX9_bestOf 39 = some (s_ist 41 7) := rfl
theorem kX9_bestOf_41 : kX9_bestOf 41 = some (s_ild 43 4) := rfl
theorem kX9_bestOf_43 : kX9_bestOf 43 = some (s_if 46 56 (fun x => x < 0)) := rfl
theorem kX9_bestOf_46 : kX9_bestOf 46 = some (s_ild 48 7) := rfl
theorem kX9_bestOf_48 : kX9_bestOf 48 = some (s_ild 50 5) := rfl
theorem kX9_bestOf_50 : kX9_bestOf 50 = some (s_icmp 53 56 (fun x y => x < y)) := rfl
theorem kX9_bestOf_53 : kX9_bestOf 53 = some (s_goto 64) := rfl
theorem kX9_bestOf_56 : kX9_bestOf 56 = some (s_ild 58 6) := rfl
theorem kX9_bestOf_58 : kX9_bestOf 58 = some (s_ist 60 4) := rfl
theorem kX9_bestOf_60 : kX9_bestOf 60 = some (s_ild 62 7) := rfl
theorem kX9_bestOf_62 : kX9_bestOf 62 = some (s_ist 64 5) := rfl
theorem kX9_bestOf_64 : kX9_bestOf 64 = some (s_inc 67 6 (1)) := rfl
theorem kX9_bestOf_67 : kX9_bestOf 67 = some (s_goto 19) := rfl
theorem kX9_bestOf_70 : kX9_bestOf 70 = some (s_ald 71 0) := rfl
theorem kX9_bestOf_71 : kX9_bestOf 71 = some (s_get 74 9 1) := rfl
theorem kX9_bestOf_74 : kX9_bestOf 74 = some (s_push 75 (.inl (2))) := rfl
theorem kX9_bestOf_75 : kX9_bestOf 75 = some (s_ild 76 1) := rfl
theorem kX9_bestOf_76 : kX9_bestOf 76 = some (s_bin 77 (fun x y => m_wrap (x + y))) := rfl
theorem kX9_bestOf_77 : kX9_bestOf 77 = some (s_ild 78 3) := rfl
theorem kX9_bestOf_78 : kX9_bestOf 78 = some (s_iast 79) := rfl
theorem kX9_bestOf_79 : kX9_bestOf 79 = some (s_ild 81 4) := rfl
theorem kX9_bestOf_81 : kX9_bestOf 81 = some (s_ret) := rfl
def wX9_bestOf : m_GK := m_wp 8 kX9_bestOf
set_option maxRecDepth 100000 in
set_option maxHeartbeats 4000000 in
theorem sX9_bestOf (l : Launch) (X : m_X) (hX : m_inj X.1) : m_Sound l X 11 yX9_bestOf cX9_bestOf 8 (some .int) wX9_bestOf := m_sound_of hX (by decide) (fun p e s m args below meth c q C hr => m_bt_all (m_bt_all (m_bt_all (m_bt_all (m_bt_all (m_lf_all (o_aload_n C (i := 0) rfl dX9_bestOf_0 rfl)) (m_lf_all (o_get C (ci := 9) (k := 1) (N := 35) (rf := RX9) (T := TX9) rfl ginX9 (Nat.le_of_ble_eq_true rfl) (m_tb_of 927 (by decide +kernel) rfl) dX9_bestOf_1 rfl))) (m_bt_all (m_lf_all (o_iconst C (x := (2)) (m_rngd rfl) dX9_bestOf_4 rfl)) (m_bt_all (m_lf_all (o_iload_n C (i := 1) rfl dX9_bestOf_5 rfl)) (m_lf_all (o_iadd C dX9_bestOf_6 rfl))))) (m_bt_all (m_bt_all (m_lf_all (o_iald C dX9_bestOf_7 rfl)) (m_bt_all (m_lf_all (o_istore_n C (i := 3) rfl dX9_bestOf_8 rfl)) (m_lf_all (o_bipush C (x := (-9)) (m_rngd rfl) rfl dX9_bestOf_9 rfl)))) (m_bt_all (m_lf_all (o_istore C dX9_bestOf_11 rfl)) (m_bt_all (m_lf_all (o_iconst C (x := (0)) (m_rngd rfl) dX9_bestOf_13 rfl)) (m_lf_all (o_istore C dX9_bestOf_14 rfl)))))) (m_bt_all (m_bt_all (m_bt_all (m_lf_all (o_iconst C (x := (0)) (m_rngd rfl) dX9_bestOf_16 rfl)) (m_bt_all (m_lf_all (o_istore C dX9_bestOf_17 rfl)) (m_lf_all (o_iload C dX9_bestOf_19 rfl)))) (m_bt_all (m_lf_all (o_iload_n C (i := 2) rfl dX9_bestOf_21 rfl)) (m_bt_all (m_lf_all (o_icmp_ge C dX9_bestOf_22 rfl rfl)) (m_lf_all (o_aload_n C (i := 0) rfl dX9_bestOf_25 rfl))))) (m_bt_all (m_bt_all (m_lf_all (o_get C (ci := 9) (k := 1) (N := 35) (rf := RX9) (T := TX9) rfl ginX9 (Nat.le_of_ble_eq_true rfl) (m_tb_of 927 (by decide +kernel) rfl) dX9_bestOf_26 rfl)) (m_bt_all (m_lf_all (o_iconst C (x := (2)) (m_rngd rfl) dX9_bestOf_29 rfl)) (m_lf_all (o_iload_n C (i := 1) rfl dX9_bestOf_30 rfl)))) (m_bt_all (m_lf_all (o_iadd C dX9_bestOf_31 rfl)) (m_bt_all (m_lf_all (o_iload C dX9_bestOf_32 rfl)) (m_lf_all (o_iast C dX9_bestOf_34 rfl))))))) (m_bt_all (m_bt_all (m_bt_all (m_bt_all (m_lf_all (o_aload_n C (i := 0) rfl dX9_bestOf_35 rfl)) (m_bt_all (m_lf_all (o_callV C (T := TX9) (N := 35) (sX9_costOf l X hX) rfl (m_in_of [1122, 1124, 42, 81] (by decide +kernel) (by decide +kernel)) (m_tb_of 1125 (by decide +kernel) rfl) (by decide +kernel) rfl ⟨Nat.le_of_ble_eq_true rfl, Nat.le_of_ble_eq_true rfl⟩ dX9_bestOf_36 rfl)) (m_lf_all (o_istore C dX9_bestOf_39 rfl)))) (m_bt_all (m_lf_all (o_iload C dX9_bestOf_41 rfl)) (m_bt_all (m_lf_all (o_if_lt C dX9_bestOf_43 rfl rfl)) (m_lf_all (o_iload C dX9_bestOf_46 rfl))))) (m_bt_all (m_bt_all (m_lf_all (o_iload C dX9_bestOf_48 rfl)) (m_bt_all (m_lf_all (o_icmp_lt C dX9_bestOf_50 rfl rfl)) (m_lf_all (o_goto C dX9_bestOf_53 rfl)))) (m_bt_all (m_lf_all (o_iload C dX9_bestOf_56 rfl)) (m_bt_all (m_lf_all (o_istore C dX9_bestOf_58 rfl)) (m_lf_all (o_iload C dX9_bestOf_60 rfl)))))) (m_bt_all (m_bt_all (m_bt_all (m_lf_all (o_istore C dX9_bestOf_62 rfl)) (m_bt_all (m_lf_all (o_iinc C dX9_bestOf_64 rfl)) (m_lf_all (o_goto C dX9_bestOf_67 rfl)))) (m_bt_all (m_lf_all (o_aload_n C (i := 0) rfl dX9_bestOf_70 rfl)) (m_bt_all (m_lf_all (o_get C (ci := 9) (k := 1) (N := 35) (rf := RX9) (T := TX9) rfl ginX9 (Nat.le_of_ble_eq_true rfl) (m_tb_of 927 (by decide +kernel) rfl) dX9_bestOf_71 rfl)) (m_lf_all (o_iconst C (x := (2)) (m_rngd rfl) dX9_bestOf_74 rfl))))) (m_bt_all (m_bt_all (m_lf_all (o_iload_n C (i := 1) rfl dX9_bestOf_75 rfl)) (m_bt_all (m_lf_all (o_iadd C dX9_bestOf_76 rfl)) (m_lf_all (o_iload_n C (i := 3) rfl dX9_bestOf_77 rfl)))) (m_bt_all (m_lf_all (o_iast C dX9_bestOf_78 rfl)) (m_bt_all (m_lf_all (o_iload C dX9_bestOf_79 rfl)) (m_lf_all (o_iret C hr dX9_bestOf_81))))))))
set_option maxRecDepth 20000 in
def kX9_signs : m_C := m_bt 3 (m_bt 1 (m_lf 0 (s_ald 1 0)) (m_lf 1 (s_push 3 (.inl (7))))) (m_bt 5 (m_lf 3 (s_push 5 (.inl (10)))) (m_bt 8 (m_lf 5 (s_callV 8 3 9 wX9_bestOf)) (m_lf 8 (s_ret))))
theorem kX9_signs_0 : kX9_signs 0 = some (s_ald 1 0) := rfl
theorem kX9_signs_1 : kX9_signs 1 = some (s_push 3 (.inl (7))) := rfl
theorem kX9_signs_3 : kX9_signs 3 = some (s_push 5 (.inl (10))) := rfl
theorem kX9_signs_5 : kX9_signs 5 = some (s_callV 8 3 9 wX9_bestOf) := rfl
theorem kX9_signs_8 : kX9_signs 8 = some (s_ret) := rfl
def wX9_signs : m_GK := m_wp 1 kX9_signs
set_option maxRecDepth 100000 in
set_option maxHeartbeats 4000000 in
theorem sX9_signs (l : Launch) (X : m_X) (hX : m_inj X.1) : m_Sound l X 12 yX9_signs cX9_signs 1 (some .int) wX9_signs := m_sound_of hX (by decide) (fun p e s m args below meth c q C hr => m_bt_all (m_bt_all (m_lf_all (o_aload_n C (i := 0) rfl dX9_signs_0 rfl)) (m_lf_all (o_bipush C (x := (7)) (m_rngd rfl) rfl dX9_signs_1 rfl))) (m_bt_all (m_lf_all (o_bipush C (x := (10)) (m_rngd rfl) rfl dX9_signs_3 rfl)) (m_bt_all (m_lf_all (o_callV C (T := TX9) (N := 35) (sX9_bestOf l X hX) rfl (m_in_of [1272, 1274, 66, 81] (by decide +kernel) (by decide +kernel)) (m_tb_of 1275 (by decide +kernel) rfl) (by decide +kernel) rfl ⟨Nat.le_of_ble_eq_true rfl, Nat.le_of_ble_eq_true rfl⟩ dX9_signs_5 rfl)) (m_lf_all (o_iret C hr dX9_signs_8)))))
set_option maxRecDepth 20000 in
def kX9_bestRule : m_C := m_bt 2 (m_bt 1 (m_lf 0 (s_ald 1 0)) (m_lf 1 (s_push 2 (.inl (4))))) (m_bt 3 (m_lf 2 (s_push 3 (.inl (5)))) (m_bt 6 (m_lf 3 (s_callV 6 3 9 wX9_bestOf)) (m_lf 6 (s_ret))))
theorem kX9_bestRule_0 : kX9_bestRule 0 = some (s_ald 1 0) := rfl
theorem kX9_bestRule_1 : kX9_bestRule 1 = some (s_push 2 (.inl (4))) := rfl
theorem kX9_bestRule_2 : kX9_bestRule 2 = some (s_push 3 (.inl (5))) := rfl
theorem kX9_bestRule_3 : kX9_bestRule 3 = some (s_callV 6 3 9 wX9_bestOf) := rfl
theorem kX9_bestRule_6 : kX9_bestRule 6 = some (s_ret) := rfl
def wX9_bestRule : m_GK := m_wp 1 kX9_bestRule
set_option maxRecDepth 100000 in
set_option maxHeartbeats 4000000 in
theorem sX9_bestRule (l : Launch) (X : m_X) (hX : m_inj X.1) : m_Sound l X 12 yX9_bestRule cX9_bestRule 1 (some .int) wX9_bestRule := m_sound_of hX (by decide) (fun p e s m args below meth c q C hr => m_bt_all (m_bt_all (m_lf_all (o_aload_n C (i := 0) rfl dX9_bestRule_0 rfl)) (m_lf_all (o_iconst C (x := (4)) (m_rngd rfl) dX9_bestRule_1 rfl))) (m_bt_all (m_lf_all (o_iconst C (x := (5)) (m_rngd rfl) dX9_bestRule_2 rfl)) (m_bt_all (m_lf_all (o_callV C (T := TX9) (N := 35) (sX9_bestOf l X hX) rfl (m_in_of [1272, 1274, 66, 81] (by decide +kernel) (by decide +kernel)) (m_tb_of 1275 (by decide +kernel) rfl) (by decide +kernel) rfl ⟨Nat.le_of_ble_eq_true rfl, Nat.le_of_ble_eq_true rfl⟩ dX9_bestRule_3 rfl)) (m_lf_all (o_iret C hr dX9_bestRule_6)))))
set_option maxRecDepth 20000 in
def kX9_buys : m_C := m_bt 80 (m_bt 42 (m_bt 21 (m_bt 9 (m_bt 2 (m_bt 1 (m_lf 0 (s_ald 1 0)) (m_lf 1 (s_ild 2 1))) (m_bt 5 (m_lf 2 (s_callV 5 2 9 wX9_isSort)) (m_bt 8 (m_lf 5 (s_if 8 31 (fun x => x = 0))) (m_lf 8 (s_ald 9 0))))) (m_bt 16 (m_bt 10 (m_lf 9 (s_ild 10 2)) (m_bt 13 (m_lf 10 (s_callV 13 2 9 wX9_isSort)) (m_lf 13 (s_if 16 31 (fun x => x = 0))))) (m_bt 17 (m_lf 16 (s_ild 17 1)) (m_bt 18 (m_lf 17 (s_ild 18 2)) (m_lf 18 (s_icmp 21 31 (fun x y => x = y))))))) (m_bt 31 (m_bt 23 (m_bt 22 (m_lf 21 (s_ild 22 3)) (m_lf 22 (s_push 23 (.inl (0))))) (m_bt 25 (m_lf 23 (s_push 25 (.inl (100)))) (m_bt 28 (m_lf 25 (s_callS 28 3 wX9_within)) (m_lf 28 (s_goto 32))))) (m_bt 36 (m_bt 32 (m_lf 31 (s_push 32 (.inl (-1)))) (m_bt 34 (m_lf 32 (s_ist 34 4)) (m_lf 34 (s_ild 36 4)))) (m_bt 39 (m_lf 36 (s_if 39 49 (fun x => x = 0))) (m_bt 41 (m_lf 39 (s_push 41 (.inl (1000000000)))) (m_lf 41 (s_ald 42 0))))))) (m_bt 62 (m_bt 50 (m_bt 47 (m_bt 44 (m_lf 42 (s_ild 44 4)) (m_lf 44 (s_callV 47 2 9 wX9_refuse))) (m_bt 48 (m_lf 47 (s_bin 48 (fun x y => m_wrap (x - y)))) (m_bt 49 (m_lf 48 (s_ret)) (m_lf 49 (s_ald 50 0))))) (m_bt 56 (m_bt 53 (m_lf 50 (s_callV 53 1 9 wX9_costOf)) (m_bt 55 (m_lf 53 (s_ist 55 5)) (m_lf 55 (s_ald 56 0)))) (m_bt 59 (m_lf 56 (s_callV 59 1 9 wX9_keeps)) (m_bt 60 (m_lf 59 (s_push 60 (.inl (0)))) (m_lf 60 (s_ist 62 6)))))) (m_bt 71 (m_bt 65 (m_bt 64 (m_lf 62 (s_ild 64 6)) (m_lf 64 (s_push 65 (.inl (4))))) (m_bt 68 (m_lf 65 (s_icmp 68 132 (fun x y => y ≤ x))) (m_bt 69 (m_lf 68 (s_ald 69 0)) (m_lf 69 (s_ild 71 6))))) (m_bt 76 (m_bt 72 (m_lf 71 (s_ild 72 1)) (m_bt 75 (m_lf 72 (s_callV 75 3 9 wX9_comeIn)) (m_lf 75 (s_ild 76 3)))) (m_bt 77 (m_lf 76 (s_bin 77 (fun x y => m_wrap (x * y)))) (m_bt 79 (m_lf 77 (s_push 79 (.inl (100)))) (m_lf 79 (s_div 80)))))))) (m_bt 113 (m_bt 97 (m_bt 90 (m_bt 83 (m_bt 82 (m_lf 80 (s_ist 82 7)) (m_lf 82 (s_ald 83 0))) (m_bt 86 (m_lf 83 (s_get 86 9 1)) (m_bt 88 (m_lf 86 (s_push 88 (.inl (10)))) (m_lf 88 (s_push 90 (.inl (6))))))) (m_bt 93 (m_bt 91 (m_lf 90 (s_ild 91 1)) (m_bt 92 (m_lf 91 (s_bin 92 (fun x y => m_wrap (x * y)))) (m_lf 92 (s_bin 93 (fun x y => m_wrap (x + y)))))) (m_bt 94 (m_lf 93 (s_push 94 (.inl (2)))) (m_bt 95 (m_lf 94 (s_bin 95 (fun x y => m_wrap (x + y)))) (m_lf 95 (s_ild 97 6)))))) (m_bt 103 (m_bt 99 (m_bt 98 (m_lf 97 (s_bin 98 (fun x y => m_wrap (x + y)))) (m_lf 98 (s_dup2 99))) (m_bt 100 (m_lf 99 (s_iald 100)) (m_bt 102 (m_lf 100 (s_ild 102 7)) (m_lf 102 (s_bin 103 (fun x y => m_wrap (x - y))))))) (m_bt 108 (m_bt 104 (m_lf 103 (s_iast 104)) (m_bt 105 (m_lf 104 (s_ald 105 0)) (m_lf 105 (s_get 108 9 1)))) (m_bt 110 (m_lf 108 (s_push 110 (.inl (10)))) (m_bt 112 (m_lf 110 (s_push 112 (.inl (6)))) (m_lf 112 (s_ild 113 2))))))) (m_bt 126 (m_bt 119 (m_bt 115 (m_bt 114 (m_lf 113 (s_bin 114 (fun x y => m_wrap (x * y)))) (m_lf 114 (s_bin 115 (fun x y => m_wrap (x + y))))) (m_bt 116 (m_lf 115 (s_push 116 (.inl (2)))) (m_bt 117 (m_lf 116 (s_bin 117 (fun x y => m_wrap (x + y)))) (m_lf 117 (s_ild 119 6))))) (m_bt 122 (m_bt 120 (m_lf 119 (s_bin 120 (fun x y => m_wrap (x + y)))) (m_bt 121 (m_lf 120 (s_dup2 121)) (m_lf 121 (s_iald 122)))) (m_bt 124 (m_lf 122 (s_ild 124 7)) (m_bt 125 (m_lf 124 (s_bin 125 (fun x y => m_wrap (x + y)))) (m_lf 125 (s_iast 126)))))) (m_bt 138 (m_bt 132 (m_bt 129 (m_lf 126 (s_inc 129 6 (1))) (m_lf 129 (s_goto 62))) (m_bt 133 (m_lf 132 (s_ald 133 0)) (m_bt 136 (m_lf 133 (s_callV 136 1 9 wX9_costOf)) (m_lf 136 (s_ist 138 6))))) (m_bt 144 (m_bt 139 (m_lf 138 (s_ald 139 0)) (m_bt 142 (m_lf 139 (s_callV 142 1 9 wX9_putsBack)) (m_lf 142 (s_ild 144 5)))) (m_bt 146 (m_lf 144 (s_ild 146 6)) (m_bt 147 (m_lf 146 (s_bin 147 (fun x y => m_wrap (x - y)))) (m_lf 147 (s_ret))))))))
theorem kX9_buys_0 : kX9_buys 0 = some (s_ald 1 0) := rfl
theorem kX9_buys_1 : kX9_buys 1 = some (s_ild 2 1) := rfl
theorem kX9_buys_2 : kX9_buys 2 = some (s_callV 5 2 9 wX9_isSort) := rfl
theorem kX9_buys_5 : kX9_buys 5 = some (s_if 8 31 (fun x => x = 0)) := rfl
theorem kX9_buys_8 : kX9_buys 8 = some (s_ald 9 0) := rfl
theorem kX9_buys_9 : kX9_buys 9 = some (s_ild 10 2) := rfl
theorem kX9_buys_10 : kX9_buys 10 = some (s_callV 13 2 9 wX9_isSort) := rfl
theorem kX9_buys_13 : kX9_buys 13 = some (s_if 16 31 (fun x => x = 0)) := rfl
theorem kX9_buys_16 : kX9_buys 16 = some (s_ild 17 1) := rfl
theorem kX9_buys_17 : kX9_buys 17 = some (s_ild 18 2) := rfl
theorem kX9_buys_18 : kX9_buys 18 = some (s_icmp 21 31 (fun x y => x = y)) := rfl
theorem kX9_buys_21 : kX9_buys 21 = some (s_ild 22 3) := rfl
theorem kX9_buys_22 : kX9_buys 22 = some (s_push 23 (.inl (0))) := rfl
theorem kX9_buys_23 : kX9_buys 23 = some (s_push 25 (.inl (100))) := rfl
theorem kX9_buys_25 : kX9_buys 25 = some (s_callS 28 3 wX9_within) := rfl
theorem kX9_buys_28 : kX9_buys 28 = some (s_goto 32) := rfl
theorem kX9_buys_31 : kX9_buys 31 = some (s_push 32 (.inl (-1))) := rfl
theorem kX9_buys_32 : kX9_buys 32 = some (s_ist 34 4) := rfl
theorem kX9_buys_34 : kX9_buys 34 = some (s_ild 36 4) := rfl
theorem kX9_buys_36 : kX9_buys 36 = some (s_if 39 49 (fun x => x = 0)) := rfl
theorem kX9_buys_39 : kX9_buys 39 = some (s_push 41 (.inl (1000000000))) := rfl
theorem kX9_buys_41 : kX9_buys 41 = some (s_ald 42 0) := rfl
theorem kX9_buys_42 : kX9_buys 42 = some (s_ild 44 4) := rfl
theorem kX9_buys_44 : kX9_buys 44 = some (s_callV 47 2 9 wX9_refuse) := rfl
theorem kX9_buys_47 : kX9_buys 47 = some (s_bin 48 (fun x y => m_wrap (x - y))) := rfl
theorem kX9_buys_48 : kX9_buys 48 = some (s_ret) := rfl
theorem kX9_buys_49 : kX9_buys 49 = some (s_ald 50 0) := rfl
theorem kX9_buys_50 : kX9_buys 50 = some (s_callV 53 1 9 wX9_costOf) := rfl
theorem kX9_buys_53 : kX9_buys 53 = some (s_ist 55 5) := rfl
theorem kX9_buys_55 : kX9_buys 55 = some (s_ald 56 0) := rfl
theorem kX9_buys_56 : kX9_buys 56 = some (s_callV 59 1 9 wX9_keeps) := rfl
theorem kX9_buys_59 : kX9_buys 59 = some (s_push 60 (.inl (0))) := rfl
theorem kX9_buys_60 : kX9_buys 60 = some (s_ist 62 6) := rfl
theorem kX9_buys_62 : kX9_buys 62 = some (s_ild 64 6) := rfl
theorem kX9_buys_64 : kX9_buys 64 = some (s_push 65 (.inl (4))) := rfl
theorem kX9_buys_65 : kX9_buys 65 = some (s_icmp 68 132 (fun x y => y ≤ x)) := rfl
theorem kX9_buys_68 : kX9_buys 68 = some (s_ald 69 0) := rfl
theorem kX9_buys_69 : kX9_buys 69 = some (s_ild 71 6) := rfl
theorem kX9_buys_71 : kX9_buys 71 = some (s_ild 72 1) := rfl
theorem kX9_buys_72 : kX9_buys 72 = some (s_callV 75 3 9 wX9_comeIn) := rfl
theorem kX9_buys_75 : kX9_buys 75 = some (s_ild 76 3) := rfl
theorem kX9_buys_76 : kX9_buys 76 = some (s_bin 77 (fun x y => m_wrap (x * y))) := rfl
theorem kX9_buys_77 : kX9_buys 77 = some (s_push 79 (.inl (100))) := rfl
theorem kX9_buys_79 : kX9_buys 79 = some (s_div 80) := rfl
theorem kX9_buys_80 : kX9_buys 80 = some (s_ist 82 7) := rfl
theorem kX9_buys_82 : kX9_buys 82 = some (s_ald 83 0) := rfl
theorem kX9_buys_83 : kX9_buys 83 = some (s_get 86 9 1) := rfl
theorem kX9_buys_86 : kX9_buys 86 = some (s_push 88 (.inl (10))) := rfl
theorem kX9_buys_88 : kX9_buys 88 = some (s_push 90 (.inl (6))) := rfl
theorem kX9_buys_90 : kX9_buys 90 = some (s_ild 91 1) := rfl
theorem kX9_buys_91 : kX9_buys 91 = some (s_bin 92 (fun x y => m_wrap (x * y))) := rfl
theorem kX9_buys_92 : kX9_buys 92 = some (s_bin 93 (fun x y => m_wrap (x + y))) := rfl
theorem kX9_buys_93 : kX9_buys 93 = some (s_push 94 (.inl (2))) := rfl
theorem kX9_buys_94 : kX9_buys 94 = some (s_bin 95 (fun x y => m_wrap (x + y))) := rfl
theorem kX9_buys_95 : kX9_buys 95 = some (s_ild 97 6) := rfl
theorem kX9_buys_97 : kX9_buys 97 = some (s_bin 98 (fun x y => m_wrap (x + y))) := rfl
theorem kX9_buys_98 : kX9_buys 98 = some (s_dup2 99) := rfl
theorem kX9_buys_99 : kX9_buys 99 = some (s_iald 100) := rfl
theorem kX9_buys_100 : kX9_buys 100 = some (s_ild 102 7) := rfl
theorem kX9_buys_102 : kX9_buys 102 = some (s_bin 103 (fun x y => m_wrap (x - y))) := rfl
theorem kX9_buys_103 : kX9_buys 103 = some (s_iast 104) := rfl
theorem kX9_buys_104 : kX9_buys 104 = some (s_ald 105 0) := rfl
theorem kX9_buys_105 : kX9_buys 105 = some (s_get 108 9 1) := rfl
theorem kX9_buys_108 : kX9_buys 108 = some (s_push 110 (.inl (10))) := rfl
theorem kX9_buys_110 : kX9_buys 110 = some (s_push 112 (.inl (6))) := rfl
theorem kX9_buys_112 : kX9_buys 112 = some (s_ild 113 2) := rfl
theorem kX9_buys_113 : kX9_buys 113 = some (s_bin 114 (fun x y => m_wrap (x * y))) := rfl
theorem kX9_buys_114 : kX9_buys 114 = some (s_bin 115 (fun x y => m_wrap (x + y))) := rfl
theorem kX9_buys_115 : kX9_buys 115 = some (s_push 116 (.inl (2))) := rfl
theorem kX9_buys_116 : kX9_buys 116 = some (s_bin 117 (fun x y => m_wrap (x + y))) := rfl
theorem kX9_buys_117 : kX9_buys 117 = some (s_ild 119 6) := rfl
theorem kX9_buys_119 : kX9_buys 119 = some (s_bin 120 (fun x y => m_wrap (x + y))) := rfl
theorem kX9_buys_120 : kX9_buys 120 = some (s_dup2 121) := rfl
theorem kX9_buys_121 : kX9_buys 121 = some (s_iald 122) := rfl
theorem kX9_buys_122 : kX9_buys 122 = some (s_ild 124 7) := rfl
theorem kX9_buys_124 : kX9_buys 124 = some (s_bin 125 (fun x y => m_wrap (x + y))) := rfl
theorem kX9_buys_125 : kX9_buys 125 = some (s_iast 126) := rfl
theorem kX9_buys_126 : kX9_buys 126 = some (s_inc 129 6 (1)) := rfl
theorem kX9_buys_129 : kX9_buys 129 = some (s_goto 62) := rfl
theorem kX9_buys_132 : kX9_buys 132 = some (s_ald 133 0) := rfl
theorem kX9_buys_133 : kX9_buys 133 = some (s_callV 136 1 9 wX9_costOf) := rfl
theorem kX9_buys_136 : kX9_buys 136 = some (s_ist 138 6) := rfl
theorem kX9_buys_138 : kX9_buys 138 = some (s_ald 139 0) := rfl
theorem kX9_buys_139 : kX9_buys 139 = some (s_callV 142 1 9 wX9_putsBack) := rfl
theorem kX9_buys_142 : kX9_buys 142 = some (s_ild 144 5) := rfl
theorem kX9_buys_144 : kX9_buys 144 = some (s_ild 146 6) := rfl
theorem kX9_buys_146 : kX9_buys 146 = some (s_bin 147 (fun x y => m_wrap (x - y))) := rfl
theorem kX9_buys_147 : kX9_buys 147 = some (s_ret) := rfl
def wX9_buys : m_GK := m_wp 8 kX9_buys
set_option maxRecDepth 100000 in
set_option maxHeartbeats 4000000 in
theorem sX9_buys (l : Launch) (X : m_X) (hX : m_inj X.1) : m_Sound l X 11 yX9_buys cX9_buys 8 (some .int) wX9_buys := m_sound_of hX (by decide) (fun p e s m args below meth c q C hr => m_bt_all (m_bt_all (m_bt_all (m_bt_all (m_bt_all (m_bt_all (m_lf_all (o_aload_n C (i := 0) rfl dX9_buys_0 rfl)) (m_lf_all (o_iload_n C (i := 1) rfl dX9_buys_1 rfl))) (m_bt_all (m_lf_all (o_callV C (T := TX9) (N := 35) (sX9_isSort l X hX) rfl (m_in_of [1077, 1079, 38, 81] (by decide +kernel) (by decide +kernel)) (m_tb_of 1080 (by decide +kernel) rfl) (by decide +kernel) rfl ⟨Nat.le_of_ble_eq_true rfl, Nat.le_of_ble_eq_true rfl⟩ dX9_buys_2 rfl)) (m_bt_all (m_lf_all (o_if_eq C dX9_buys_5 rfl rfl)) (m_lf_all (o_aload_n C (i := 0) rfl dX9_buys_8 rfl))))) (m_bt_all (m_bt_all (m_lf_all (o_iload_n C (i := 2) rfl dX9_buys_9 rfl)) (m_bt_all (m_lf_all (o_callV C (T := TX9) (N := 35) (sX9_isSort l X hX) rfl (m_in_of [1077, 1079, 38, 81] (by decide +kernel) (by decide +kernel)) (m_tb_of 1080 (by decide +kernel) rfl) (by decide +kernel) rfl ⟨Nat.le_of_ble_eq_true rfl, Nat.le_of_ble_eq_true rfl⟩ dX9_buys_10 rfl)) (m_lf_all (o_if_eq C dX9_buys_13 rfl rfl)))) (m_bt_all (m_lf_all (o_iload_n C (i := 1) rfl dX9_buys_16 rfl)) (m_bt_all (m_lf_all (o_iload_n C (i := 2) rfl dX9_buys_17 rfl)) (m_lf_all (o_icmp_eq C dX9_buys_18 rfl rfl)))))) (m_bt_all (m_bt_all (m_bt_all (m_lf_all (o_iload_n C (i := 3) rfl dX9_buys_21 rfl)) (m_lf_all (o_iconst C (x := (0)) (m_rngd rfl) dX9_buys_22 rfl))) (m_bt_all (m_lf_all (o_bipush C (x := (100)) (m_rngd rfl) rfl dX9_buys_23 rfl)) (m_bt_all (m_lf_all (o_callS C (sX9_within l X hX) (m_in_of [1100, 1101, 81] (by decide +kernel) (by decide +kernel)) (m_tb_of 1102 (by decide +kernel) rfl) (by decide +kernel) ⟨Nat.le_of_ble_eq_true rfl, Nat.le_of_ble_eq_true rfl⟩ dX9_buys_25 rfl)) (m_lf_all (o_goto C dX9_buys_28 rfl))))) (m_bt_all (m_bt_all (m_lf_all (o_iconst C (x := (-1)) (m_rngd rfl) dX9_buys_31 rfl)) (m_bt_all (m_lf_all (o_istore C dX9_buys_32 rfl)) (m_lf_all (o_iload C dX9_buys_34 rfl)))) (m_bt_all (m_lf_all (o_if_eq C dX9_buys_36 rfl rfl)) (m_bt_all (m_lf_all (o_ldc C (x := (1000000000)) (m_rngd rfl) (m_tb_of 1284 (by decide +kernel) rfl) dX9_buys_39 rfl)) (m_lf_all (o_aload_n C (i := 0) rfl dX9_buys_41 rfl))))))) (m_bt_all (m_bt_all (m_bt_all (m_bt_all (m_lf_all (o_iload C dX9_buys_42 rfl)) (m_lf_all (o_callV C (T := TX9) (N := 35) (sX9_refuse l X hX) rfl (m_in_of [1036, 1038, 30, 81] (by decide +kernel) (by decide +kernel)) (m_tb_of 1039 (by decide +kernel) rfl) (by decide +kernel) rfl ⟨Nat.le_of_ble_eq_true rfl, Nat.le_of_ble_eq_true rfl⟩ dX9_buys_44 rfl))) (m_bt_all (m_lf_all (o_isub C dX9_buys_47 rfl)) (m_bt_all (m_lf_all (o_iret C hr dX9_buys_48)) (m_lf_all (o_aload_n C (i := 0) rfl dX9_buys_49 rfl))))) (m_bt_all (m_bt_all (m_lf_all (o_callV C (T := TX9) (N := 35) (sX9_costOf l X hX) rfl (m_in_of [1122, 1124, 42, 81] (by decide +kernel) (by decide +kernel)) (m_tb_of 1125 (by decide +kernel) rfl) (by decide +kernel) rfl ⟨Nat.le_of_ble_eq_true rfl, Nat.le_of_ble_eq_true rfl⟩ dX9_buys_50 rfl)) (m_bt_all (m_lf_all (o_istore C dX9_buys_53 rfl)) (m_lf_all (o_aload_n C (i := 0) rfl dX9_buys_55 rfl)))) (m_bt_all (m_lf_all (o_callV C (T := TX9) (N := 35) (sX9_keeps l X hX) rfl (m_in_of [1252, 1254, 64, 81] (by decide +kernel) (by decide +kernel)) (m_tb_of 1255 (by decide +kernel) rfl) (by decide +kernel) rfl ⟨Nat.le_of_ble_eq_true rfl, Nat.le_of_ble_eq_true rfl⟩ dX9_buys_56 rfl)) (m_bt_all (m_lf_all (o_iconst C (x := (0)) (m_rngd rfl) dX9_buys_59 rfl)) (m_lf_all (o_istore C dX9_buys_60 rfl)))))) (m_bt_all (m_bt_all (m_bt_all (m_lf_all (o_iload C dX9_buys_62 rfl)) (m_lf_all (o_iconst C (x := (4)) (m_rngd rfl) dX9_buys_64 rfl))) (m_bt_all (m_lf_all (o_icmp_ge C dX9_buys_65 rfl rfl)) (m_bt_all (m_lf_all (o_aload_n C (i := 0) rfl dX9_buys_68 rfl)) (m_lf_all (o_iload C dX9_buys_69 rfl))))) (m_bt_all (m_bt_all (m_lf_all (o_iload_n C (i := 1) rfl dX9_buys_71 rfl)) (m_bt_all (m_lf_all (o_callV C (T := TX9) (N := 35) (sX9_comeIn l X hX) rfl (m_in_of [1142, 1144, 47, 81] (by decide +kernel) (by decide +kernel)) (m_tb_of 1145 (by decide +kernel) rfl) (by decide +kernel) rfl ⟨Nat.le_of_ble_eq_true rfl, Nat.le_of_ble_eq_true rfl⟩ dX9_buys_72 rfl)) (m_lf_all (o_iload_n C (i := 3) rfl dX9_buys_75 rfl)))) (m_bt_all (m_lf_all (o_imul C dX9_buys_76 rfl)) (m_bt_all (m_lf_all (o_bipush C (x := (100)) (m_rngd rfl) rfl dX9_buys_77 rfl)) (m_lf_all (o_idiv C dX9_buys_79 rfl)))))))) (m_bt_all (m_bt_all (m_bt_all (m_bt_all (m_bt_all (m_lf_all (o_istore C dX9_buys_80 rfl)) (m_lf_all (o_aload_n C (i := 0) rfl dX9_buys_82 rfl))) (m_bt_all (m_lf_all (o_get C (ci := 9) (k := 1) (N := 35) (rf := RX9) (T := TX9) rfl ginX9 (Nat.le_of_ble_eq_true rfl) (m_tb_of 927 (by decide +kernel) rfl) dX9_buys_83 rfl)) (m_bt_all (m_lf_all (o_bipush C (x := (10)) (m_rngd rfl) rfl dX9_buys_86 rfl)) (m_lf_all (o_bipush C (x := (6)) (m_rngd rfl) rfl dX9_buys_88 rfl))))) (m_bt_all (m_bt_all (m_lf_all (o_iload_n C (i := 1) rfl dX9_buys_90 rfl)) (m_bt_all (m_lf_all (o_imul C dX9_buys_91 rfl)) (m_lf_all (o_iadd C dX9_buys_92 rfl)))) (m_bt_all (m_lf_all (o_iconst C (x := (2)) (m_rngd rfl) dX9_buys_93 rfl)) (m_bt_all (m_lf_all (o_iadd C dX9_buys_94 rfl)) (m_lf_all (o_iload C dX9_buys_95 rfl)))))) (m_bt_all (m_bt_all (m_bt_all (m_lf_all (o_iadd C dX9_buys_97 rfl)) (m_lf_all (o_dup2 C dX9_buys_98 rfl))) (m_bt_all (m_lf_all (o_iald C dX9_buys_99 rfl)) (m_bt_all (m_lf_all (o_iload C dX9_buys_100 rfl)) (m_lf_all (o_isub C dX9_buys_102 rfl))))) (m_bt_all (m_bt_all (m_lf_all (o_iast C dX9_buys_103 rfl)) (m_bt_all (m_lf_all (o_aload_n C (i := 0) rfl dX9_buys_104 rfl)) (m_lf_all (o_get C (ci := 9) (k := 1) (N := 35) (rf := RX9) (T := TX9) rfl ginX9 (Nat.le_of_ble_eq_true rfl) (m_tb_of 927 (by decide +kernel) rfl) dX9_buys_105 rfl)))) (m_bt_all (m_lf_all (o_bipush C (x := (10)) (m_rngd rfl) rfl dX9_buys_108 rfl)) (m_bt_all (m_lf_all (o_bipush C (x := (6)) (m_rngd rfl) rfl dX9_buys_110 rfl)) (m_lf_all (o_iload_n C (i := 2) rfl dX9_buys_112 rfl))))))) (m_bt_all (m_bt_all (m_bt_all (m_bt_all (m_lf_all (o_imul C dX9_buys_113 rfl)) (m_lf_all (o_iadd C dX9_buys_114 rfl))) (m_bt_all (m_lf_all (o_iconst C (x := (2)) (m_rngd rfl) dX9_buys_115 rfl)) (m_bt_all (m_lf_all (o_iadd C dX9_buys_116 rfl)) (m_lf_all (o_iload C dX9_buys_117 rfl))))) (m_bt_all (m_bt_all (m_lf_all (o_iadd C dX9_buys_119 rfl)) (m_bt_all (m_lf_all (o_dup2 C dX9_buys_120 rfl)) (m_lf_all (o_iald C dX9_buys_121 rfl)))) (m_bt_all (m_lf_all (o_iload C dX9_buys_122 rfl)) (m_bt_all (m_lf_all (o_iadd C dX9_buys_124 rfl)) (m_lf_all (o_iast C dX9_buys_125 rfl)))))) (m_bt_all (m_bt_all (m_bt_all (m_lf_all (o_iinc C dX9_buys_126 rfl)) (m_lf_all (o_goto C dX9_buys_129 rfl))) (m_bt_all (m_lf_all (o_aload_n C (i := 0) rfl dX9_buys_132 rfl)) (m_bt_all (m_lf_all (o_callV C (T := TX9) (N := 35) (sX9_costOf l X hX) rfl (m_in_of [1122, 1124, 42, 81] (by decide +kernel) (by decide +kernel)) (m_tb_of 1125 (by decide +kernel) rfl) (by decide +kernel) rfl ⟨Nat.le_of_ble_eq_true rfl, Nat.le_of_ble_eq_true rfl⟩ dX9_buys_133 rfl)) (m_lf_all (o_istore C dX9_buys_136 rfl))))) (m_bt_all (m_bt_all (m_lf_all (o_aload_n C (i := 0) rfl dX9_buys_138 rfl)) (m_bt_all (m_lf_all (o_callV C (T := TX9) (N := 35) (sX9_putsBack l X hX) rfl (m_in_of [1256, 1258, 65, 81] (by decide +kernel) (by decide +kernel)) (m_tb_of 1259 (by decide +kernel) rfl) (by decide +kernel) rfl ⟨Nat.le_of_ble_eq_true rfl, Nat.le_of_ble_eq_true rfl⟩ dX9_buys_139 rfl)) (m_lf_all (o_iload C dX9_buys_142 rfl)))) (m_bt_all (m_lf_all (o_iload C dX9_buys_144 rfl)) (m_bt_all (m_lf_all (o_isub C dX9_buys_146 rfl)) (m_lf_all (o_iret C hr dX9_buys_147)))))))))
