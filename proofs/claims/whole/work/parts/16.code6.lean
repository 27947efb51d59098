set_option maxRecDepth 20000 in
def kX9_fails : m_C := m_bt 39 (m_bt 18 (m_bt 9 (m_bt 2 (m_bt 1 (m_lf 0 (s_ald 1 0)) (m_lf 1 (s_ild 2 1))) (m_bt 5 (m_lf 2 (s_callV 5 2 9 wX9_isSort)) (m_bt 8 (m_lf 5 (s_if 8 26 (fun x => x = 0))) (m_lf 8 (s_ild 9 2))))) (m_bt 13 (m_bt 10 (m_lf 9 (s_push 10 (.inl (4)))) (m_lf 10 (s_callS 13 2 wX9_isIn))) (m_bt 16 (m_lf 13 (s_if 16 26 (fun x => x = 0))) (m_bt 17 (m_lf 16 (s_ild 17 3)) (m_lf 17 (s_push 18 (.inl (1)))))))) (m_bt 29 (m_bt 23 (m_bt 20 (m_lf 18 (s_push 20 (.inl (99)))) (m_lf 20 (s_callS 23 3 wX9_within))) (m_bt 26 (m_lf 23 (s_goto 27)) (m_bt 27 (m_lf 26 (s_push 27 (.inl (-1)))) (m_lf 27 (s_ist 29 4))))) (m_bt 34 (m_bt 31 (m_lf 29 (s_ild 31 4)) (m_lf 31 (s_if 34 44 (fun x => x = 0)))) (m_bt 36 (m_lf 34 (s_push 36 (.inl (1000000000)))) (m_bt 37 (m_lf 36 (s_ald 37 0)) (m_lf 37 (s_ild 39 4))))))) (m_bt 56 (m_bt 48 (m_bt 43 (m_bt 42 (m_lf 39 (s_callV 42 2 9 wX9_refuse)) (m_lf 42 (s_bin 43 (fun x y => m_wrap (x - y))))) (m_bt 44 (m_lf 43 (s_ret)) (m_bt 45 (m_lf 44 (s_ald 45 0)) (m_lf 45 (s_callV 48 1 9 wX9_costOf))))) (m_bt 51 (m_bt 50 (m_lf 48 (s_ist 50 5)) (m_lf 50 (s_ald 51 0))) (m_bt 52 (m_lf 51 (s_ild 52 1)) (m_bt 55 (m_lf 52 (s_put 55 9 26)) (m_lf 55 (s_ald 56 0)))))) (m_bt 65 (m_bt 60 (m_bt 57 (m_lf 56 (s_ild 57 2)) (m_lf 57 (s_put 60 9 27))) (m_bt 61 (m_lf 60 (s_ald 61 0)) (m_bt 62 (m_lf 61 (s_ild 62 3)) (m_lf 62 (s_put 65 9 28))))) (m_bt 69 (m_bt 66 (m_lf 65 (s_ald 66 0)) (m_lf 66 (s_callV 69 1 9 wX9_costNow))) (m_bt 71 (m_lf 69 (s_ild 71 5)) (m_bt 72 (m_lf 71 (s_bin 72 (fun x y => m_wrap (x - y)))) (m_lf 72 (s_ret)))))))
theorem kX9_fails_0 : kX9_fails 0 = some (s_ald 1 0) := rfl
theorem kX9_fails_1 : kX9_fails 1 = some (s_ild 2 1) := rfl
theorem kX9_fails_2 : kX9_fails 2 = some (s_callV 5 2 9 wX9_isSort) := rfl
theorem kX9_fails_5 : kX9_fails 5 = some (s_if 8 26 (fun x => x = 0)) := rfl
theorem kX9_fails_8 : kX9_fails 8 = some (s_ild 9 2) := rfl
theorem kX9_fails_9 : kX9_fails 9 = some (s_push 10 (.inl (4))) := rfl
theorem kX9_fails_10 : kX9_fails 10 = some (s_callS 13 2 wX9_isIn) := rfl
theorem kX9_fails_13 : kX9_fails 13 = some (s_if 16 26 (fun x => x = 0)) := rfl
theorem kX9_fails_16 : kX9_fails 16 = some (s_ild 17 3) := rfl
theorem kX9_fails_17 : kX9_fails 17 = some (s_push 18 (.inl (1))) := rfl
theorem kX9_fails_18 : kX9_fails 18 = some (s_push 20 (.inl (99))) := rfl
theorem kX9_fails_20 : kX9_fails 20 = some (s_callS 23 3 wX9_within) := rfl
theorem kX9_fails_23 : kX9_fails 23 = some (s_goto 27) := rfl
theorem kX9_fails_26 : kX9_fails 26 = some (s_push 27 (.inl (-1))) := rfl
theorem kX9_fails_27 : kX9_fails 27 = some (s_ist 29 4) := rfl
theorem kX9_fails_29 : kX9_fails 29 = some (s_ild 31 4) := rfl
theorem kX9_fails_31 : kX9_fails 31 = some (s_if 34 44 (fun x => x = 0)) := rfl
theorem kX9_fails_34 : kX9_fails 34 = some (s_push 36 (.inl (1000000000))) := rfl
theorem kX9_fails_36 : kX9_fails 36 = some (s_ald 37 0) := rfl
theorem kX9_fails_37 : kX9_fails 37 = some (s_ild 39 4) := rfl
theorem kX9_fails_39 : kX9_fails 39 = some (s_callV 42 2 9 wX9_refuse) := rfl
theorem kX9_fails_42 : kX9_fails 42 = some (s_bin 43 (fun x y => m_wrap (x - y))) := rfl
theorem kX9_fails_43 : kX9_fails 43 = some (s_ret) := rfl
theorem kX9_fails_44 : kX9_fails 44 = some (s_ald 45 0) := rfl
theorem kX9_fails_45 : kX9_fails 45 = some (s_callV 48 1 9 wX9_costOf) := rfl
theorem kX9_fails_48 : kX9_fails 48 = some (s_ist 50 5) := rfl
theorem kX9_fails_50 : kX9_fails 50 = some (s_ald 51 0) := rfl
theorem kX9_fails_51 : kX9_fails 51 = some (s_ild 52 1) := rfl
theorem kX9_fails_52 : kX9_fails 52 = some (s_put 55 9 26) := rfl
theorem kX9_fails_55 : kX9_fails 55 = some (s_ald 56 0) := rfl
theorem kX9_fails_56 : kX9_fails 56 = some (s_ild 57 2) := rfl
theorem kX9_fails_57 : kX9_fails 57 = some (s_put 60 9 27) := rfl
theorem kX9_fails_60 : kX9_fails 60 = some (s_ald 61 0) := rfl
theorem kX9_fails_61 : kX9_fails 61 = some (s_ild 62 3) := rfl
theorem kX9_fails_62 : kX9_fails 62 = some (s_put 65 9 28) := rfl
theorem kX9_fails_65 : kX9_fails 65 = some (s_ald 66 0) := rfl
theorem kX9_fails_66 : kX9_fails 66 = some (s_callV 69 1 9 wX9_costNow) := rfl
theorem kX9_fails_69 : kX9_fails 69 = some (s_ild 71 5) := rfl
theorem kX9_fails_71 : kX9_fails 71 = some (s_bin 72 (fun x y => m_wrap (x - y))) := rfl
theorem kX9_fails_72 : kX9_fails 72 = some (s_ret) := rfl
def wX9_fails : m_GK := m_wp 6 kX9_fails
set_option maxRecDepth 100000 in
set_option maxHeartbeats 4000000 in
theorem sX9_fails (l : Launch) (X : m_X) (hX : m_inj X.1) : m_Sound l X 11 yX9_fails cX9_fails 6 (some .int) wX9_fails := m_sound_of hX (by decide) (fun p e s m args below meth c q C hr => m_bt_all (m_bt_all (m_bt_all (m_bt_all (m_bt_all (m_lf_all (o_aload_n C (i := 0) rfl dX9_fails_0 rfl)) (m_lf_all (o_iload_n C (i := 1) rfl dX9_fails_1 rfl))) (m_bt_all (m_lf_all (o_callV C (T := TX9) (N := 35) (sX9_isSort l X hX) rfl (m_in_of [1077, 1079, 38, 81] (by decide +kernel) (by decide +kernel)) (m_tb_of 1080 (by decide +kernel) rfl) (by decide +kernel) rfl ⟨Nat.le_of_ble_eq_true rfl, Nat.le_of_ble_eq_true rfl⟩ dX9_fails_2 rfl)) (m_bt_all (m_lf_all (o_if_eq C dX9_fails_5 rfl rfl)) (m_lf_all (o_iload_n C (i := 2) rfl dX9_fails_8 rfl))))) (m_bt_all (m_bt_all (m_lf_all (o_iconst C (x := (4)) (m_rngd rfl) dX9_fails_9 rfl)) (m_lf_all (o_callS C (sX9_isIn l X hX) (m_in_of [1081, 1082, 81] (by decide +kernel) (by decide +kernel)) (m_tb_of 1083 (by decide +kernel) rfl) (by decide +kernel) ⟨Nat.le_of_ble_eq_true rfl, Nat.le_of_ble_eq_true rfl⟩ dX9_fails_10 rfl))) (m_bt_all (m_lf_all (o_if_eq C dX9_fails_13 rfl rfl)) (m_bt_all (m_lf_all (o_iload_n C (i := 3) rfl dX9_fails_16 rfl)) (m_lf_all (o_iconst C (x := (1)) (m_rngd rfl) dX9_fails_17 rfl)))))) (m_bt_all (m_bt_all (m_bt_all (m_lf_all (o_bipush C (x := (99)) (m_rngd rfl) rfl dX9_fails_18 rfl)) (m_lf_all (o_callS C (sX9_within l X hX) (m_in_of [1100, 1101, 81] (by decide +kernel) (by decide +kernel)) (m_tb_of 1102 (by decide +kernel) rfl) (by decide +kernel) ⟨Nat.le_of_ble_eq_true rfl, Nat.le_of_ble_eq_true rfl⟩ dX9_fails_20 rfl))) (m_bt_all (m_lf_all (o_goto C dX9_fails_23 rfl)) (m_bt_all (m_lf_all (o_iconst C (x := (-1)) (m_rngd rfl) dX9_fails_26 rfl)) (m_lf_all (o_istore C dX9_fails_27 rfl))))) (m_bt_all (m_bt_all (m_lf_all (o_iload C dX9_fails_29 rfl)) (m_lf_all (o_if_eq C dX9_fails_31 rfl rfl))) (m_bt_all (m_lf_all (o_ldc C (x := (1000000000)) (m_rngd rfl) (m_tb_of 1284 (by decide +kernel) rfl) dX9_fails_34 rfl)) (m_bt_all (m_lf_all (o_aload_n C (i := 0) rfl dX9_fails_36 rfl)) (m_lf_all (o_iload C dX9_fails_37 rfl))))))) (m_bt_all (m_bt_all (m_bt_all (m_bt_all (m_lf_all (o_callV C (T := TX9) (N := 35) (sX9_refuse l X hX) rfl (m_in_of [1036, 1038, 30, 81] (by decide +kernel) (by decide +kernel)) (m_tb_of 1039 (by decide +kernel) rfl) (by decide +kernel) rfl ⟨Nat.le_of_ble_eq_true rfl, Nat.le_of_ble_eq_true rfl⟩ dX9_fails_39 rfl)) (m_lf_all (o_isub C dX9_fails_42 rfl))) (m_bt_all (m_lf_all (o_iret C hr dX9_fails_43)) (m_bt_all (m_lf_all (o_aload_n C (i := 0) rfl dX9_fails_44 rfl)) (m_lf_all (o_callV C (T := TX9) (N := 35) (sX9_costOf l X hX) rfl (m_in_of [1122, 1124, 42, 81] (by decide +kernel) (by decide +kernel)) (m_tb_of 1125 (by decide +kernel) rfl) (by decide +kernel) rfl ⟨Nat.le_of_ble_eq_true rfl, Nat.le_of_ble_eq_true rfl⟩ dX9_fails_45 rfl))))) (m_bt_all (m_bt_all (m_lf_all (o_istore C dX9_fails_48 rfl)) (m_lf_all (o_aload_n C (i := 0) rfl dX9_fails_50 rfl))) (m_bt_all (m_lf_all (o_iload_n C (i := 1) rfl dX9_fails_51 rfl)) (m_bt_all (m_lf_all (o_put C (ci := 9) (k := 26) (N := 35) (rf := RX9) (T := TX9) rfl ginX9 (Nat.le_of_ble_eq_true rfl) (m_tb_of 952 (by decide +kernel) rfl) (ty0 := tyX9) tyX9_ok nmX9 rfl rfl dX9_fails_52 rfl)) (m_lf_all (o_aload_n C (i := 0) rfl dX9_fails_55 rfl)))))) (m_bt_all (m_bt_all (m_bt_all (m_lf_all (o_iload_n C (i := 2) rfl dX9_fails_56 rfl)) (m_lf_all (o_put C (ci := 9) (k := 27) (N := 35) (rf := RX9) (T := TX9) rfl ginX9 (Nat.le_of_ble_eq_true rfl) (m_tb_of 953 (by decide +kernel) rfl) (ty0 := tyX9) tyX9_ok nmX9 rfl rfl dX9_fails_57 rfl))) (m_bt_all (m_lf_all (o_aload_n C (i := 0) rfl dX9_fails_60 rfl)) (m_bt_all (m_lf_all (o_iload_n C (i := 3) rfl dX9_fails_61 rfl)) (m_lf_all (o_put C (ci := 9) (k := 28) (N := 35) (rf := RX9) (T := TX9) rfl ginX9 (Nat.le_of_ble_eq_true rfl) (m_tb_of 954 (by decide +kernel) rfl) (ty0 := tyX9) tyX9_ok nmX9 rfl rfl dX9_fails_62 rfl))))) (m_bt_all (m_bt_all (m_lf_all (o_aload_n C (i := 0) rfl dX9_fails_65 rfl)) (m_lf_all (o_callV C (T := TX9) (N := 35) (sX9_costNow l X hX) rfl (m_in_of [1126, 1128, 43, 81] (by decide +kernel) (by decide +kernel)) (m_tb_of 1129 (by decide +kernel) rfl) (by decide +kernel) rfl ⟨Nat.le_of_ble_eq_true rfl, Nat.le_of_ble_eq_true rfl⟩ dX9_fails_66 rfl))) (m_bt_all (m_lf_all (o_iload C dX9_fails_69 rfl)) (m_bt_all (m_lf_all (o_isub C dX9_fails_71 rfl)) (m_lf_all (o_iret C hr dX9_fails_72))))))))
set_option maxRecDepth 20000 in
def kX9_weaveOf : m_C := m_bt 23 (m_bt 10 (m_bt 4 (m_bt 2 (m_bt 1 (m_lf 0 (s_push 1 (.inl (0)))) (m_lf 1 (s_ist 2 1))) (m_bt 3 (m_lf 2 (s_push 3 (.inl (1)))) (m_lf 3 (s_ist 4 2)))) (m_bt 6 (m_bt 5 (m_lf 4 (s_ild 5 2)) (m_lf 5 (s_ald 6 0))) (m_bt 9 (m_lf 6 (s_get 9 9 1)) (m_lf 9 (s_push 10 (.inl (1))))))) (m_bt 16 (m_bt 14 (m_bt 11 (m_lf 10 (s_iald 11)) (m_lf 11 (s_icmp 14 51 (fun x y => y ≤ x)))) (m_bt 15 (m_lf 14 (s_ild 15 1)) (m_lf 15 (s_ald 16 0)))) (m_bt 20 (m_bt 17 (m_lf 16 (s_ald 17 0)) (m_lf 17 (s_get 20 9 29))) (m_bt 21 (m_lf 20 (s_ild 21 2)) (m_bt 22 (m_lf 21 (s_push 22 (.inl (1)))) (m_lf 22 (s_bin 23 (fun x y => m_wrap (x - y))))))))) (m_bt 36 (m_bt 29 (m_bt 25 (m_bt 24 (m_lf 23 (s_iald 24)) (m_lf 24 (s_push 25 (.inl (0))))) (m_bt 28 (m_lf 25 (s_callV 28 3 9 wX9_wordOf)) (m_lf 28 (s_ald 29 0)))) (m_bt 33 (m_bt 30 (m_lf 29 (s_ald 30 0)) (m_lf 30 (s_get 33 9 29))) (m_bt 34 (m_lf 33 (s_ild 34 2)) (m_bt 35 (m_lf 34 (s_iald 35)) (m_lf 35 (s_push 36 (.inl (0)))))))) (m_bt 44 (m_bt 40 (m_bt 39 (m_lf 36 (s_callV 39 3 9 wX9_wordOf)) (m_lf 39 (s_bin 40 m_ixor))) (m_bt 43 (m_lf 40 (s_callS 43 1 wX9_bits)) (m_lf 43 (s_bin 44 (fun x y => m_wrap (x + y)))))) (m_bt 48 (m_bt 45 (m_lf 44 (s_ist 45 1)) (m_lf 45 (s_inc 48 2 (1)))) (m_bt 51 (m_lf 48 (s_goto 4)) (m_bt 52 (m_lf 51 (s_ild 52 1)) (m_lf 52 (s_ret)))))))
theorem kX9_weaveOf_0 : kX9_weaveOf 0 = some (s_push 1 (.inl (0))) := rfl
theorem kX9_weaveOf_1 : kX9_weaveOf 1 = some (s_ist 2 1) := rfl
theorem kX9_weaveOf_2 : kX9_weaveOf 2 = some (s_push 3 (.inl (1))) := rfl
theorem kX9_weaveOf_3 : kX9_weaveOf 3 = some (s_ist 4 2) := rfl
theorem kX9_weaveOf_4 : kX9_weaveOf 4 = some (s_ild 5 2) := rfl
theorem kX9_weaveOf_5 : kX9_weaveOf 5 = some (s_ald 6 0) := rfl
theorem kX9_weaveOf_6 : kX9_weaveOf 6 = some (s_get 9 9 1) := rfl
theorem kX9_weaveOf_9 : kX9_weaveOf 9 = some (s_push 10 (.inl (1))) := rfl
theorem kX9_weaveOf_10 : kX9_weaveOf 10 = some (s_iald 11) := rfl
theorem kX9_weaveOf_11 : kX9_weaveOf 11 = some (s_icmp 14 51 (fun x y => y ≤ x)) := rfl
theorem kX9_weaveOf_14 : kX9_weaveOf 14 = some (s_ild 15 1) := rfl
theorem kX9_weaveOf_15 : kX9_weaveOf 15 = some (s_ald 16 0) := rfl
theorem kX9_weaveOf_16 : kX9_weaveOf 16 = some (s_ald 17 0) := rfl
theorem kX9_weaveOf_17 : kX9_weaveOf 17 = some (s_get 20 9 29) := rfl
theorem kX9_weaveOf_20 : kX9_weaveOf 20 = some (s_ild 21 2) := rfl
theorem kX9_weaveOf_21 : kX9_weaveOf 21 = some (s_push 22 (.inl (1))) := rfl
theorem kX9_weaveOf_22 : kX9_weaveOf 22 = some (s_bin 23 (fun x y => m_wrap (x - y))) := rfl
theorem kX9_weaveOf_23 : kX9_weaveOf 23 = some (s_iald 24) := rfl
theorem kX9_weaveOf_24 : kX9_weaveOf 24 = some (s_push 25 (.inl (0))) := rfl
theorem kX9_weaveOf_25 : kX9_weaveOf 25 = some (s_callV 28 3 9 wX9_wordOf) := rfl
theorem kX9_weaveOf_28 : kX9_weaveOf 28 = some (s_ald 29 0) := rfl
theorem kX9_weaveOf_29 : kX9_weaveOf 29 = some (s_ald 30 0) := rfl
theorem kX9_weaveOf_30 : kX9_weaveOf 30 = some (s_get 33 9 29) := rfl
theorem kX9_weaveOf_33 : kX9_weaveOf 33 = some (s_ild 34 2) := rfl
theorem kX9_weaveOf_34 : kX9_weaveOf 34 = some (s_iald 35) := rfl
theorem kX9_weaveOf_35 : kX9_weaveOf 35 = some (s_push 36 (.inl (0))) := rfl
theorem kX9_weaveOf_36 : kX9_weaveOf 36 = some (s_callV 39 3 9 wX9_wordOf) := rfl
theorem kX9_weaveOf_39 : kX9_weaveOf 39 = some (s_bin 40 m_ixor) := rfl
theorem kX9_weaveOf_40 : kX9_weaveOf 40 = some (s_callS 43 1 wX9_bits) := rfl
theorem kX9_weaveOf_43 : kX9_weaveOf 43 = some (s_bin 44 (fun x y => m_wrap (x + y))) := rfl
theorem kX9_weaveOf_44 : kX9_weaveOf 44 = some (s_ist 45 1) := rfl
theorem kX9_weaveOf_45 : kX9_weaveOf 45 = some (s_inc 48 2 (1)) := rfl
theorem kX9_weaveOf_48 : kX9_weaveOf 48 = some (s_goto 4) := rfl
theorem kX9_weaveOf_51 : kX9_weaveOf 51 = some (s_ild 52 1) := rfl
theorem kX9_weaveOf_52 : kX9_weaveOf 52 = some (s_ret) := rfl
def wX9_weaveOf : m_GK := m_wp 3 kX9_weaveOf
set_option maxRecDepth 100000 in
set_option maxHeartbeats 4000000 in
theorem sX9_weaveOf (l : Launch) (X : m_X) (hX : m_inj X.1) : m_Sound l X 2 yX9_weaveOf cX9_weaveOf 3 (some .int) wX9_weaveOf := m_sound_of hX (by decide) (fun p e s m args below meth c q C hr => m_bt_all (m_bt_all (m_bt_all (m_bt_all (m_bt_all (m_lf_all (o_iconst C (x := (0)) (m_rngd rfl) dX9_weaveOf_0 rfl)) (m_lf_all (o_istore_n C (i := 1) rfl dX9_weaveOf_1 rfl))) (m_bt_all (m_lf_all (o_iconst C (x := (1)) (m_rngd rfl) dX9_weaveOf_2 rfl)) (m_lf_all (o_istore_n C (i := 2) rfl dX9_weaveOf_3 rfl)))) (m_bt_all (m_bt_all (m_lf_all (o_iload_n C (i := 2) rfl dX9_weaveOf_4 rfl)) (m_lf_all (o_aload_n C (i := 0) rfl dX9_weaveOf_5 rfl))) (m_bt_all (m_lf_all (o_get C (ci := 9) (k := 1) (N := 35) (rf := RX9) (T := TX9) rfl ginX9 (Nat.le_of_ble_eq_true rfl) (m_tb_of 927 (by decide +kernel) rfl) dX9_weaveOf_6 rfl)) (m_lf_all (o_iconst C (x := (1)) (m_rngd rfl) dX9_weaveOf_9 rfl))))) (m_bt_all (m_bt_all (m_bt_all (m_lf_all (o_iald C dX9_weaveOf_10 rfl)) (m_lf_all (o_icmp_ge C dX9_weaveOf_11 rfl rfl))) (m_bt_all (m_lf_all (o_iload_n C (i := 1) rfl dX9_weaveOf_14 rfl)) (m_lf_all (o_aload_n C (i := 0) rfl dX9_weaveOf_15 rfl)))) (m_bt_all (m_bt_all (m_lf_all (o_aload_n C (i := 0) rfl dX9_weaveOf_16 rfl)) (m_lf_all (o_get C (ci := 9) (k := 29) (N := 35) (rf := RX9) (T := TX9) rfl ginX9 (Nat.le_of_ble_eq_true rfl) (m_tb_of 955 (by decide +kernel) rfl) dX9_weaveOf_17 rfl))) (m_bt_all (m_lf_all (o_iload_n C (i := 2) rfl dX9_weaveOf_20 rfl)) (m_bt_all (m_lf_all (o_iconst C (x := (1)) (m_rngd rfl) dX9_weaveOf_21 rfl)) (m_lf_all (o_isub C dX9_weaveOf_22 rfl))))))) (m_bt_all (m_bt_all (m_bt_all (m_bt_all (m_lf_all (o_iald C dX9_weaveOf_23 rfl)) (m_lf_all (o_iconst C (x := (0)) (m_rngd rfl) dX9_weaveOf_24 rfl))) (m_bt_all (m_lf_all (o_callV C (T := TX9) (N := 35) (sX9_wordOf l X hX) rfl (m_in_of [1092, 1094, 40, 81] (by decide +kernel) (by decide +kernel)) (m_tb_of 1095 (by decide +kernel) rfl) (by decide +kernel) rfl ⟨Nat.le_of_ble_eq_true rfl, Nat.le_of_ble_eq_true rfl⟩ dX9_weaveOf_25 rfl)) (m_lf_all (o_aload_n C (i := 0) rfl dX9_weaveOf_28 rfl)))) (m_bt_all (m_bt_all (m_lf_all (o_aload_n C (i := 0) rfl dX9_weaveOf_29 rfl)) (m_lf_all (o_get C (ci := 9) (k := 29) (N := 35) (rf := RX9) (T := TX9) rfl ginX9 (Nat.le_of_ble_eq_true rfl) (m_tb_of 955 (by decide +kernel) rfl) dX9_weaveOf_30 rfl))) (m_bt_all (m_lf_all (o_iload_n C (i := 2) rfl dX9_weaveOf_33 rfl)) (m_bt_all (m_lf_all (o_iald C dX9_weaveOf_34 rfl)) (m_lf_all (o_iconst C (x := (0)) (m_rngd rfl) dX9_weaveOf_35 rfl)))))) (m_bt_all (m_bt_all (m_bt_all (m_lf_all (o_callV C (T := TX9) (N := 35) (sX9_wordOf l X hX) rfl (m_in_of [1092, 1094, 40, 81] (by decide +kernel) (by decide +kernel)) (m_tb_of 1095 (by decide +kernel) rfl) (by decide +kernel) rfl ⟨Nat.le_of_ble_eq_true rfl, Nat.le_of_ble_eq_true rfl⟩ dX9_weaveOf_36 rfl)) (m_lf_all (o_ixor C dX9_weaveOf_39 rfl))) (m_bt_all (m_lf_all (o_callS C (sX9_bits l X hX) (m_in_of [1182, 1183, 81] (by decide +kernel) (by decide +kernel)) (m_tb_of 1184 (by decide +kernel) rfl) (by decide +kernel) ⟨Nat.le_of_ble_eq_true rfl, Nat.le_of_ble_eq_true rfl⟩ dX9_weaveOf_40 rfl)) (m_lf_all (o_iadd C dX9_weaveOf_43 rfl)))) (m_bt_all (m_bt_all (m_lf_all (o_istore_n C (i := 1) rfl dX9_weaveOf_44 rfl)) (m_lf_all (o_iinc C dX9_weaveOf_45 rfl))) (m_bt_all (m_lf_all (o_goto C dX9_weaveOf_48 rfl)) (m_bt_all (m_lf_all (o_iload_n C (i := 1) rfl dX9_weaveOf_51 rfl)) (m_lf_all (o_iret C hr dX9_weaveOf_52))))))))
set_option maxRecDepth 20000 in
def kX9_weave : m_C := m_bt 12 (m_bt 3 (m_bt 1 (m_lf 0 (s_push 1 (.inl (0)))) (m_bt 2 (m_lf 1 (s_ist 2 1)) (m_lf 2 (s_ild 3 1)))) (m_bt 8 (m_bt 5 (m_lf 3 (s_push 5 (.inl (6)))) (m_lf 5 (s_icmp 8 21 (fun x y => y ≤ x)))) (m_bt 9 (m_lf 8 (s_ald 9 0)) (m_lf 9 (s_get 12 9 29))))) (m_bt 18 (m_bt 14 (m_bt 13 (m_lf 12 (s_ild 13 1)) (m_lf 13 (s_ild 14 1))) (m_bt 15 (m_lf 14 (s_iast 15)) (m_lf 15 (s_inc 18 1 (1))))) (m_bt 22 (m_bt 21 (m_lf 18 (s_goto 2)) (m_lf 21 (s_ald 22 0))) (m_bt 25 (m_lf 22 (s_callV 25 1 9 wX9_weaveOf)) (m_lf 25 (s_ret)))))
theorem kX9_weave_0 : kX9_weave 0 = some (s_push 1 (.inl (0))) := rfl
theorem kX9_weave_1 : kX9_weave 1 = some (s_ist 2 1) := rfl
theorem kX9_weave_2 : kX9_weave 2 = some (s_ild 3 1) := rfl
theorem kX9_weave_3 : kX9_weave 3 = some (s_push 5 (.inl (6))) := rfl
theorem kX9_weave_5 : kX9_weave 5 = some (s_icmp 8 21 (fun x y => y ≤ x)) := rfl
theorem kX9_weave_8 : kX9_weave 8 = some (s_ald 9 0) := rfl
theorem kX9_weave_9 : kX9_weave 9 = some (s_get 12 9 29) := rfl
theorem kX9_weave_12 : kX9_weave 12 = some (s_ild 13 1) := rfl
theorem kX9_weave_13 : kX9_weave 13 = some (s_ild 14 1) := rfl
theorem kX9_weave_14 : kX9_weave 14 = some (s_iast 15) := rfl
theorem kX9_weave_15 : kX9_weave 15 = some (s_inc 18 1 (1)) := rfl
theorem kX9_weave_18 : kX9_weave 18 = some (s_goto 2) := rfl
theorem kX9_weave_21 : kX9_weave 21 = some (s_ald 22 0) := rfl
theorem kX9_weave_22 : kX9_weave 22 = some (s_callV 25 1 9 wX9_weaveOf) := rfl
theorem kX9_weave_25 : kX9_weave 25 = some (s_ret) := rfl
def wX9_weave : m_GK := m_wp 2 kX9_weave
set_option maxRecDepth 100000 in
set_option maxHeartbeats 4000000 in
theorem sX9_weave (l : Launch) (X : m_X) (hX : m_inj X.1) : m_Sound l X 3 yX9_weave cX9_weave 2 (some .int) wX9_weave := m_sound_of hX (by decide) (fun p e s m args below meth c q C hr => m_bt_all (m_bt_all (m_bt_all (m_lf_all (o_iconst C (x := (0)) (m_rngd rfl) dX9_weave_0 rfl)) (m_bt_all (m_lf_all (o_istore_n C (i := 1) rfl dX9_weave_1 rfl)) (m_lf_all (o_iload_n C (i := 1) rfl dX9_weave_2 rfl)))) (m_bt_all (m_bt_all (m_lf_all (o_bipush C (x := (6)) (m_rngd rfl) rfl dX9_weave_3 rfl)) (m_lf_all (o_icmp_ge C dX9_weave_5 rfl rfl))) (m_bt_all (m_lf_all (o_aload_n C (i := 0) rfl dX9_weave_8 rfl)) (m_lf_all (o_get C (ci := 9) (k := 29) (N := 35) (rf := RX9) (T := TX9) rfl ginX9 (Nat.le_of_ble_eq_true rfl) (m_tb_of 955 (by decide +kernel) rfl) dX9_weave_9 rfl))))) (m_bt_all (m_bt_all (m_bt_all (m_lf_all (o_iload_n C (i := 1) rfl dX9_weave_12 rfl)) (m_lf_all (o_iload_n C (i := 1) rfl dX9_weave_13 rfl))) (m_bt_all (m_lf_all (o_iast C dX9_weave_14 rfl)) (m_lf_all (o_iinc C dX9_weave_15 rfl)))) (m_bt_all (m_bt_all (m_lf_all (o_goto C dX9_weave_18 rfl)) (m_lf_all (o_aload_n C (i := 0) rfl dX9_weave_21 rfl))) (m_bt_all (m_lf_all (o_callV C (T := TX9) (N := 35) (sX9_weaveOf l X hX) rfl (m_in_of [1293, 1295, 67, 81] (by decide +kernel) (by decide +kernel)) (m_tb_of 1296 (by decide +kernel) rfl) (by decide +kernel) rfl ⟨Nat.le_of_ble_eq_true rfl, Nat.le_of_ble_eq_true rfl⟩ dX9_weave_22 rfl)) (m_lf_all (o_iret C hr dX9_weave_25))))))
set_option maxRecDepth 20000 in
def kX9_orders (K : m_GK) : m_C := m_bt 65 (m_bt 31 (m_bt 14 (m_bt 6 (m_bt 2 (m_bt 1 (m_lf 0 (s_ild 1 1)) (m_lf 1 (s_ald 2 0))) (m_bt 5 (m_lf 2 (s_get 5 9 1)) (m_lf 5 (s_push 6 (.inl (1)))))) (m_bt 10 (m_bt 7 (m_lf 6 (s_iald 7)) (m_lf 7 (s_icmp 10 66 (fun x y => ¬ x = y)))) (m_bt 11 (m_lf 10 (s_ald 11 0)) (m_lf 11 (s_callV 14 1 9 wX9_weaveOf))))) (m_bt 22 (m_bt 16 (m_bt 15 (m_lf 14 (s_ist 15 3)) (m_lf 15 (s_ald 16 0))) (m_bt 19 (m_lf 16 (s_get 19 9 31)) (m_lf 19 (s_if 22 31 (fun x => x < 0))))) (m_bt 24 (m_bt 23 (m_lf 22 (s_ild 23 3)) (m_lf 23 (s_ald 24 0))) (m_bt 27 (m_lf 24 (s_get 27 9 31)) (m_bt 30 (m_lf 27 (s_icmp 30 31 (fun x y => x < y))) (m_lf 30 (s_retv))))))) (m_bt 46 (m_bt 37 (m_bt 33 (m_bt 32 (m_lf 31 (s_ald 32 0)) (m_lf 32 (s_ild 33 3))) (m_bt 36 (m_lf 33 (s_put 36 9 31)) (m_lf 36 (s_push 37 (.inl (0)))))) (m_bt 41 (m_bt 39 (m_lf 37 (s_ist 39 4)) (m_lf 39 (s_ild 41 4))) (m_bt 42 (m_lf 41 (s_ild 42 1)) (m_bt 45 (m_lf 42 (s_icmp 45 65 (fun x y => y ≤ x))) (m_lf 45 (s_ald 46 0)))))) (m_bt 55 (m_bt 51 (m_bt 49 (m_lf 46 (s_get 49 9 30)) (m_lf 49 (s_ild 51 4))) (m_bt 52 (m_lf 51 (s_ald 52 0)) (m_lf 52 (s_get 55 9 29)))) (m_bt 58 (m_bt 57 (m_lf 55 (s_ild 57 4)) (m_lf 57 (s_iald 58))) (m_bt 59 (m_lf 58 (s_iast 59)) (m_bt 62 (m_lf 59 (s_inc 62 4 (1))) (m_lf 62 (s_goto 39)))))))) (m_bt 90 (m_bt 75 (m_bt 69 (m_bt 67 (m_bt 66 (m_lf 65 (s_retv)) (m_lf 66 (s_push 67 (.inl (0))))) (m_bt 68 (m_lf 67 (s_ist 68 3)) (m_lf 68 (s_ild 69 3)))) (m_bt 73 (m_bt 70 (m_lf 69 (s_ald 70 0)) (m_lf 70 (s_get 73 9 1))) (m_bt 74 (m_lf 73 (s_push 74 (.inl (1)))) (m_lf 74 (s_iald 75))))) (m_bt 81 (m_bt 79 (m_bt 78 (m_lf 75 (s_icmp 78 115 (fun x y => y ≤ x))) (m_lf 78 (s_ild 79 2))) (m_bt 80 (m_lf 79 (s_ild 80 3)) (m_lf 80 (s_bin 81 m_ishr)))) (m_bt 83 (m_bt 82 (m_lf 81 (s_push 82 (.inl (1)))) (m_lf 82 (s_bin 83 m_iand))) (m_bt 84 (m_lf 83 (s_push 84 (.inl (1)))) (m_bt 87 (m_lf 84 (s_icmp 87 90 (fun x y => ¬ x = y))) (m_lf 87 (s_goto 109))))))) (m_bt 101 (m_bt 96 (m_bt 94 (m_bt 91 (m_lf 90 (s_ald 91 0)) (m_lf 91 (s_get 94 9 29))) (m_bt 95 (m_lf 94 (s_ild 95 1)) (m_lf 95 (s_ild 96 3)))) (m_bt 98 (m_bt 97 (m_lf 96 (s_iast 97)) (m_lf 97 (s_ald 98 0))) (m_bt 99 (m_lf 98 (s_ild 99 1)) (m_bt 100 (m_lf 99 (s_push 100 (.inl (1)))) (m_lf 100 (s_bin 101 (fun x y => m_wrap (x + y)))))))) (m_bt 105 (m_bt 103 (m_bt 102 (m_lf 101 (s_ild 102 2)) (m_lf 102 (s_push 103 (.inl (1))))) (m_bt 104 (m_lf 103 (s_ild 104 3)) (m_lf 104 (s_bin 105 m_ishl)))) (m_bt 109 (m_bt 106 (m_lf 105 (s_bin 106 m_ior)) (m_lf 106 (s_callV 109 3 9 K))) (m_bt 112 (m_lf 109 (s_inc 112 3 (1))) (m_bt 115 (m_lf 112 (s_goto 68)) (m_lf 115 (s_retv))))))))
theorem kX9_orders_0 (K : m_GK) : kX9_orders K 0 = some (s_ild 1 1) := rfl
theorem kX9_orders_1 (K : m_GK) : kX9_orders K 1 = some (s_ald 2 0) := rfl
theorem kX9_orders_2 (K : m_GK) : kX9_orders K 2 = some (s_get 5 9 1) := rfl
theorem kX9_orders_5 (K : m_GK) : kX9_orders K 5 = some (s_push 6 (.inl (1))) := rfl
theorem kX9_orders_6 (K : m_GK) : kX9_orders K 6 = some (s_iald 7) := rfl
theorem kX9_orders_7 (K : m_GK) : kX9_orders K 7 = some (s_icmp 10 66 (fun x y => ¬ x = y)) := rfl
theorem kX9_orders_10 (K : m_GK) : kX9_orders K 10 = some (s_ald 11 0) := rfl
theorem kX9_orders_11 (K : m_GK) : kX9_orders K 11 = some (s_callV 14 1 9 wX9_weaveOf) := rfl
theorem kX9_orders_14 (K : m_GK) : kX9_orders K 14 = some (s_ist 15 3) := rfl
theorem kX9_orders_15 (K : m_GK) : kX9_orders K 15 = some (s_ald 16 0) := rfl
theorem kX9_orders_16 (K : m_GK) : kX9_orders K 16 = some (s_get 19 9 31) := rfl
theorem kX9_orders_19 (K : m_GK) : kX9_orders K 19 = some (s_if 22 31 (fun x => x < 0)) := rfl
theorem kX9_orders_22 (K : m_GK) : kX9_orders K 22 = some (s_ild 23 3) := rfl
theorem kX9_orders_23 (K : m_GK) : kX9_orders K 23 = some (s_ald 24 0) := rfl
theorem kX9_orders_24 (K : m_GK) : kX9_orders K 24 = some (s_get 27 9 31) := rfl
theorem kX9_orders_27 (K : m_GK) : kX9_orders K 27 = some (s_icmp 30 31 (fun x y => x < y)) := rfl
theorem kX9_orders_30 (K : m_GK) : kX9_orders K 30 = some (s_retv) := rfl
theorem kX9_orders_31 (K : m_GK) : kX9_orders K 31 = some (s_ald 32 0) := rfl
theorem kX9_orders_32 (K : m_GK) : kX9_orders K 32 = some (s_ild 33 3) := rfl
theorem kX9_orders_33 (K : m_GK) : kX9_orders K 33 = some (s_put 36 9 31) := rfl
theorem kX9_orders_36 (K : m_GK) : kX9_orders K 36 = some (s_push 37 (.inl (0))) := rfl
theorem kX9_orders_37 (K : m_GK) : kX9_orders K 37 = some (s_ist 39 4) := rfl
theorem kX9_orders_39 (K : m_GK) : kX9_orders K 39 = some (s_ild 41 4) := rfl
theorem kX9_orders_41 (K : m_GK) : kX9_orders K 41 = some (s_ild 42 1) := rfl
theorem kX9_orders_42 (K : m_GK) : kX9_orders K 42 = some (s_icmp 45 65 (fun x y => y ≤ x)) := rfl
theorem kX9_orders_45 (K : m_GK) : kX9_orders K 45 = some (s_ald 46 0) := rfl
theorem kX9_orders_46 (K : m_GK) : kX9_orders K 46 = some (s_get 49 9 30) := rfl
theorem kX9_orders_49 (K : m_GK) : kX9_orders K 49 = some (s_ild 51 4) := rfl
theorem kX9_orders_51 (K : m_GK) : kX9_orders K 51 = some (s_ald 52 0) := rfl
theorem kX9_orders_52 (K : m_GK) : kX9_orders K 52 = some (s_get 55 9 29) := rfl
theorem kX9_orders_55 (K : m_GK) : kX9_orders K 55 = some (s_ild 57 4) := rfl
theorem kX9_orders_57 (K : m_GK) : kX9_orders K 57 = some (s_iald 58) := rfl
theorem kX9_orders_58 (K : m_GK) : kX9_orders K 58 = some (s_iast 59) := rfl
theorem kX9_orders_59 (K : m_GK) : kX9_orders K 59 = some (s_inc 62 4 (1)) := rfl
theorem kX9_orders_62 (K : m_GK) : kX9_orders K 62 = some (s_goto 39) := rfl
theorem kX9_orders_65 (K : m_GK) : kX9_orders K 65 = some (s_retv) := rfl
theorem kX9_orders_66 (K : m_GK) : kX9_orders K 66 = some (s_push 67 (.inl (0))) := rfl
theorem kX9_orders_67 (K : m_GK) : kX9_orders K 67 = some (s_ist 68 3) := rfl
theorem kX9_orders_68 (K : m_GK) : kX9_orders K 68 = some (s_ild 69 3) := rfl
theorem kX9_orders_69 (K : m_GK) : kX9_orders K 69 = some (s_ald 70 0) := rfl
theorem kX9_orders_70 (K : m_GK) : kX9_orders K 70 = some (s_get 73 9 1) := rfl
theorem kX9_orders_73 (K : m_GK) : kX9_orders K 73 = some (s_push 74 (.inl (1))) := rfl
theorem kX9_orders_74 (K : m_GK) : kX9_orders K 74 = some (s_iald 75) := rfl
theorem kX9_orders_75 (K : m_GK) : kX9_orders K 75 = some (s_icmp 78 115 (fun x y => y ≤ x)) := rfl
theorem kX9_orders_78 (K : m_GK) : kX9_orders K 78 = some (s_ild 79 2) := rfl
theorem kX9_orders_79 (K : m_GK) : kX9_orders K 79 = some (s_ild 80 3) := rfl
theorem kX9_orders_80 (K : m_GK) : kX9_orders K 80 = some (s_bin 81 m_ishr) := rfl
theorem kX9_orders_81 (K : m_GK) : kX9_orders K 81 = some (s_push 82 (.inl (1))) := rfl
theorem kX9_orders_82 (K : m_GK) : kX9_orders K 82 = some (s_bin 83 m_iand) := rfl
theorem kX9_orders_83 (K : m_GK) : kX9_orders K 83 = some (s_push 84 (.inl (1))) := rfl
theorem kX9_orders_84 (K : m_GK) : kX9_orders K 84 = some (s_icmp 87 90 (fun x y => ¬ x = y)) := rfl
theorem kX9_orders_87 (K : m_GK) : kX9_orders K 87 = some (s_goto 109) := rfl
theorem kX9_orders_90 (K : m_GK) : kX9_orders K 90 = some (s_ald 91 0) := rfl
theorem kX9_orders_91 (K : m_GK) : kX9_orders K 91 = some (s_get 94 9 29) := rfl
theorem kX9_orders_94 (K : m_GK) : kX9_orders K 94 = some (s_ild 95 1) := rfl
theorem kX9_orders_95 (K : m_GK) : kX9_orders K 95 = some (s_ild 96 3) := rfl
theorem kX9_orders_96 (K : m_GK) : kX9_orders K 96 = some (s_iast 97) := rfl
theorem kX9_orders_97 (K : m_GK) : kX9_orders K 97 = some (s_ald 98 0) := rfl
theorem kX9_orders_98 (K : m_GK) : kX9_orders K 98 = some (s_ild 99 1) := rfl
theorem kX9_orders_99 (K : m_GK) : kX9_orders K 99 = some (s_push 100 (.inl (1))) := rfl
theorem kX9_orders_100 (K : m_GK) : kX9_orders K 100 = some (s_bin 101 (fun x y => m_wrap (x + y))) := rfl
theorem kX9_orders_101 (K : m_GK) : kX9_orders K 101 = some (s_ild 102 2) := rfl
theorem kX9_orders_102 (K : m_GK) : kX9_orders K 102 = some (s_push 103 (.inl (1))) := rfl
theorem kX9_orders_103 (K : m_GK) : kX9_orders K 103 = some (s_ild 104 3) := rfl
theorem kX9_orders_104 (K : m_GK) : kX9_orders K 104 = some (s_bin 105 m_ishl) := rfl
theorem kX9_orders_105 (K : m_GK) : kX9_orders K 105 = some (s_bin 106 m_ior) := rfl
theorem kX9_orders_106 (K : m_GK) : kX9_orders K 106 = some (s_callV 109 3 9 K) := rfl
theorem kX9_orders_109 (K : m_GK) : kX9_orders K 109 = some (s_inc 112 3 (1)) := rfl
theorem kX9_orders_112 (K : m_GK) : kX9_orders K 112 = some (s_goto 68) := rfl
theorem kX9_orders_115 (K : m_GK) : kX9_orders K 115 = some (s_retv) := rfl
def wX9_orders : Nat → m_GK
  | 0 => ⟨fun _ _ _ => False, fun _ _ _ _ _ h => h⟩
  | n + 1 => m_wp 5 (kX9_orders (wX9_orders n))
set_option maxRecDepth 100000 in
set_option maxHeartbeats 4000000 in
theorem sX9_orders (l : Launch) (X : m_X) (hX : m_inj X.1) : ∀ n : Nat, m_Sound l X (n + 4) yX9_orders cX9_orders 5 none (wX9_orders n)
  | 0 => fun _ _ _ h => False.elim h
  | n + 1 => by
    have ih := sX9_orders l X hX n
    show m_Sound l X (n + 1 + 4) yX9_orders cX9_orders 5 none (m_wp 5 (kX9_orders (wX9_orders n)))
    generalize wX9_orders n = K at ih ⊢
    exact m_sound_of hX (by decide) (fun p e s m args below meth c q C hr => m_bt_all (m_bt_all (m_bt_all (m_bt_all (m_bt_all (m_bt_all (m_lf_all (o_iload_n C (i := 1) rfl dX9_orders_0 rfl)) (m_lf_all (o_aload_n C (i := 0) rfl dX9_orders_1 rfl))) (m_bt_all (m_lf_all (o_get C (ci := 9) (k := 1) (N := 35) (rf := RX9) (T := TX9) rfl ginX9 (Nat.le_of_ble_eq_true rfl) (m_tb_of 927 (by decide +kernel) rfl) dX9_orders_2 rfl)) (m_lf_all (o_iconst C (x := (1)) (m_rngd rfl) dX9_orders_5 rfl)))) (m_bt_all (m_bt_all (m_lf_all (o_iald C dX9_orders_6 rfl)) (m_lf_all (o_icmp_ne C dX9_orders_7 rfl rfl))) (m_bt_all (m_lf_all (o_aload_n C (i := 0) rfl dX9_orders_10 rfl)) (m_lf_all (o_callV C (T := TX9) (N := 35) (sX9_weaveOf l X hX) rfl (m_in_of [1293, 1295, 67, 81] (by decide +kernel) (by decide +kernel)) (m_tb_of 1296 (by decide +kernel) rfl) (by decide +kernel) rfl ⟨Nat.le_of_ble_eq_true rfl, Nat.le_of_ble_eq_true rfl⟩ dX9_orders_11 rfl))))) (m_bt_all (m_bt_all (m_bt_all (m_lf_all (o_istore_n C (i := 3) rfl dX9_orders_14 rfl)) (m_lf_all (o_aload_n C (i := 0) rfl dX9_orders_15 rfl))) (m_bt_all (m_lf_all (o_get C (ci := 9) (k := 31) (N := 35) (rf := RX9) (T := TX9) rfl ginX9 (Nat.le_of_ble_eq_true rfl) (m_tb_of 957 (by decide +kernel) rfl) dX9_orders_16 rfl)) (m_lf_all (o_if_lt C dX9_orders_19 rfl rfl)))) (m_bt_all (m_bt_all (m_lf_all (o_iload_n C (i := 3) rfl dX9_orders_22 rfl)) (m_lf_all (o_aload_n C (i := 0) rfl dX9_orders_23 rfl))) (m_bt_all (m_lf_all (o_get C (ci := 9) (k := 31) (N := 35) (rf := RX9) (T := TX9) rfl ginX9 (Nat.le_of_ble_eq_true rfl) (m_tb_of 957 (by decide +kernel) rfl) dX9_orders_24 rfl)) (m_bt_all (m_lf_all (o_icmp_lt C dX9_orders_27 rfl rfl)) (m_lf_all (o_vret C hr dX9_orders_30))))))) (m_bt_all (m_bt_all (m_bt_all (m_bt_all (m_lf_all (o_aload_n C (i := 0) rfl dX9_orders_31 rfl)) (m_lf_all (o_iload_n C (i := 3) rfl dX9_orders_32 rfl))) (m_bt_all (m_lf_all (o_put C (ci := 9) (k := 31) (N := 35) (rf := RX9) (T := TX9) rfl ginX9 (Nat.le_of_ble_eq_true rfl) (m_tb_of 957 (by decide +kernel) rfl) (ty0 := tyX9) tyX9_ok nmX9 rfl rfl dX9_orders_33 rfl)) (m_lf_all (o_iconst C (x := (0)) (m_rngd rfl) dX9_orders_36 rfl)))) (m_bt_all (m_bt_all (m_lf_all (o_istore C dX9_orders_37 rfl)) (m_lf_all (o_iload C dX9_orders_39 rfl))) (m_bt_all (m_lf_all (o_iload_n C (i := 1) rfl dX9_orders_41 rfl)) (m_bt_all (m_lf_all (o_icmp_ge C dX9_orders_42 rfl rfl)) (m_lf_all (o_aload_n C (i := 0) rfl dX9_orders_45 rfl)))))) (m_bt_all (m_bt_all (m_bt_all (m_lf_all (o_get C (ci := 9) (k := 30) (N := 35) (rf := RX9) (T := TX9) rfl ginX9 (Nat.le_of_ble_eq_true rfl) (m_tb_of 956 (by decide +kernel) rfl) dX9_orders_46 rfl)) (m_lf_all (o_iload C dX9_orders_49 rfl))) (m_bt_all (m_lf_all (o_aload_n C (i := 0) rfl dX9_orders_51 rfl)) (m_lf_all (o_get C (ci := 9) (k := 29) (N := 35) (rf := RX9) (T := TX9) rfl ginX9 (Nat.le_of_ble_eq_true rfl) (m_tb_of 955 (by decide +kernel) rfl) dX9_orders_52 rfl)))) (m_bt_all (m_bt_all (m_lf_all (o_iload C dX9_orders_55 rfl)) (m_lf_all (o_iald C dX9_orders_57 rfl))) (m_bt_all (m_lf_all (o_iast C dX9_orders_58 rfl)) (m_bt_all (m_lf_all (o_iinc C dX9_orders_59 rfl)) (m_lf_all (o_goto C dX9_orders_62 rfl)))))))) (m_bt_all (m_bt_all (m_bt_all (m_bt_all (m_bt_all (m_lf_all (o_vret C hr dX9_orders_65)) (m_lf_all (o_iconst C (x := (0)) (m_rngd rfl) dX9_orders_66 rfl))) (m_bt_all (m_lf_all (o_istore_n C (i := 3) rfl dX9_orders_67 rfl)) (m_lf_all (o_iload_n C (i := 3) rfl dX9_orders_68 rfl)))) (m_bt_all (m_bt_all (m_lf_all (o_aload_n C (i := 0) rfl dX9_orders_69 rfl)) (m_lf_all (o_get C (ci := 9) (k := 1) (N := 35) (rf := RX9) (T := TX9) rfl ginX9 (Nat.le_of_ble_eq_true rfl) (m_tb_of 927 (by decide +kernel) rfl) dX9_orders_70 rfl))) (m_bt_all (m_lf_all (o_iconst C (x := (1)) (m_rngd rfl) dX9_orders_73 rfl)) (m_lf_all (o_iald C dX9_orders_74 rfl))))) (m_bt_all (m_bt_all (m_bt_all (m_lf_all (o_icmp_ge C dX9_orders_75 rfl rfl)) (m_lf_all (o_iload_n C (i := 2) rfl dX9_orders_78 rfl))) (m_bt_all (m_lf_all (o_iload_n C (i := 3) rfl dX9_orders_79 rfl)) (m_lf_all (o_ishr C dX9_orders_80 rfl)))) (m_bt_all (m_bt_all (m_lf_all (o_iconst C (x := (1)) (m_rngd rfl) dX9_orders_81 rfl)) (m_lf_all (o_iand C dX9_orders_82 rfl))) (m_bt_all (m_lf_all (o_iconst C (x := (1)) (m_rngd rfl) dX9_orders_83 rfl)) (m_bt_all (m_lf_all (o_icmp_ne C dX9_orders_84 rfl rfl)) (m_lf_all (o_goto C dX9_orders_87 rfl))))))) (m_bt_all (m_bt_all (m_bt_all (m_bt_all (m_lf_all (o_aload_n C (i := 0) rfl dX9_orders_90 rfl)) (m_lf_all (o_get C (ci := 9) (k := 29) (N := 35) (rf := RX9) (T := TX9) rfl ginX9 (Nat.le_of_ble_eq_true rfl) (m_tb_of 955 (by decide +kernel) rfl) dX9_orders_91 rfl))) (m_bt_all (m_lf_all (o_iload_n C (i := 1) rfl dX9_orders_94 rfl)) (m_lf_all (o_iload_n C (i := 3) rfl dX9_orders_95 rfl)))) (m_bt_all (m_bt_all (m_lf_all (o_iast C dX9_orders_96 rfl)) (m_lf_all (o_aload_n C (i := 0) rfl dX9_orders_97 rfl))) (m_bt_all (m_lf_all (o_iload_n C (i := 1) rfl dX9_orders_98 rfl)) (m_bt_all (m_lf_all (o_iconst C (x := (1)) (m_rngd rfl) dX9_orders_99 rfl)) (m_lf_all (o_iadd C dX9_orders_100 rfl)))))) (m_bt_all (m_bt_all (m_bt_all (m_lf_all (o_iload_n C (i := 2) rfl dX9_orders_101 rfl)) (m_lf_all (o_iconst C (x := (1)) (m_rngd rfl) dX9_orders_102 rfl))) (m_bt_all (m_lf_all (o_iload_n C (i := 3) rfl dX9_orders_103 rfl)) (m_lf_all (o_ishl C dX9_orders_104 rfl)))) (m_bt_all (m_bt_all (m_lf_all (o_ior C dX9_orders_105 rfl)) (m_lf_all (o_callV C (T := TX9) (N := 35) ih rfl (m_in_of [1301, 1303, 68, 81] (by decide +kernel) (by decide +kernel)) (m_tb_of 1304 (by decide +kernel) rfl) (by decide +kernel) rfl ⟨Nat.le_refl _, by show _ ≤ 48 * (_ + 1); omega⟩ dX9_orders_106 rfl))) (m_bt_all (m_lf_all (o_iinc C dX9_orders_109 rfl)) (m_bt_all (m_lf_all (o_goto C dX9_orders_112 rfl)) (m_lf_all (o_vret C hr dX9_orders_115)))))))))
set_option maxRecDepth 20000 in
def kX9_order : m_C := m_bt 28 (m_bt 13 (m_bt 6 (m_bt 2 (m_bt 1 (m_lf 0 (s_ild 1 1)) (m_lf 1 (s_push 2 (.inl (-1))))) (m_bt 5 (m_lf 2 (s_icmp 5 12 (fun x y => y ≤ x))) (m_lf 5 (s_ald 6 0)))) (m_bt 11 (m_bt 8 (m_lf 6 (s_push 8 (.inl (-4)))) (m_lf 8 (s_callV 11 2 9 wX9_refuse))) (m_bt 12 (m_lf 11 (s_ret)) (m_lf 12 (s_ald 13 0))))) (m_bt 20 (m_bt 18 (m_bt 15 (m_lf 13 (s_push 15 (.inl (-9)))) (m_lf 15 (s_put 18 9 31))) (m_bt 19 (m_lf 18 (s_ald 19 0)) (m_lf 19 (s_push 20 (.inl (0)))))) (m_bt 24 (m_bt 21 (m_lf 20 (s_push 21 (.inl (0)))) (m_lf 21 (s_callV 24 3 9 (wX9_orders 8)))) (m_bt 25 (m_lf 24 (s_ild 25 1)) (m_lf 25 (s_if 28 35 (fun x => 0 ≤ x))))))) (m_bt 42 (m_bt 36 (m_bt 32 (m_bt 29 (m_lf 28 (s_ald 29 0)) (m_lf 29 (s_get 32 9 31))) (m_bt 35 (m_lf 32 (s_goto 56)) (m_lf 35 (s_ild 36 1)))) (m_bt 40 (m_bt 37 (m_lf 36 (s_ald 37 0)) (m_lf 37 (s_get 40 9 1))) (m_bt 41 (m_lf 40 (s_push 41 (.inl (1)))) (m_lf 41 (s_iald 42))))) (m_bt 50 (m_bt 46 (m_bt 45 (m_lf 42 (s_icmp 45 54 (fun x y => y ≤ x))) (m_lf 45 (s_ald 46 0))) (m_bt 49 (m_lf 46 (s_get 49 9 30)) (m_lf 49 (s_ild 50 1)))) (m_bt 54 (m_bt 51 (m_lf 50 (s_iald 51)) (m_lf 51 (s_goto 56))) (m_bt 56 (m_lf 54 (s_push 56 (.inl (-9)))) (m_lf 56 (s_ret))))))
theorem kX9_order_0 : kX9_order 0 = some (s_ild 1 1) := rfl
theorem kX9_order_1 : kX9_order 1 = some (s_push 2 (.inl (-1))) := rfl
theorem kX9_order_2 : kX9_order 2 = some (s_icmp 5 12 (fun x y => y ≤ x)) := rfl
theorem kX9_order_5 : kX9_order 5 = some (s_ald 6 0) := rfl
theorem kX9_order_6 : kX9_order 6 = some (s_push 8 (.inl (-4))) := rfl
theorem kX9_order_8 : kX9_order 8 = some (s_callV 11 2 9 wX9_refuse) := rfl
theorem kX9_order_11 : kX9_order 11 = some (s_ret) := rfl
theorem kX9_order_12 : kX9_order 12 = some (s_ald 13 0) := rfl
theorem kX9_order_13 : kX9_order 13 = some (s_push 15 (.inl (-9))) := rfl
theorem kX9_order_15 : kX9_order 15 = some (s_put 18 9 31) := rfl
theorem kX9_order_18 : kX9_order 18 = some (s_ald 19 0) := rfl
theorem kX9_order_19 : kX9_order 19 = some (s_push 20 (.inl (0))) := rfl
theorem kX9_order_20 : kX9_order 20 = some (s_push 21 (.inl (0))) := rfl
theorem kX9_order_21 : kX9_order 21 = some (s_callV 24 3 9 (wX9_orders 8)) := rfl
theorem kX9_order_24 : kX9_order 24 = some (s_ild 25 1) := rfl
theorem kX9_order_25 : kX9_order 25 = some (s_if 28 35 (fun x => 0 ≤ x)) := rfl
theorem kX9_order_28 : kX9_order 28 = some (s_ald 29 0) := rfl
theorem kX9_order_29 : kX9_order 29 = some (s_get 32 9 31) := rfl
theorem kX9_order_32 : kX9_order 32 = some (s_goto 56) := rfl
theorem kX9_order_35 : kX9_order 35 = some (s_ild 36 1) := rfl
theorem kX9_order_36 : kX9_order 36 = some (s_ald 37 0) := rfl
theorem kX9_order_37 : kX9_order 37 = some (s_get 40 9 1) := rfl
theorem kX9_order_40 : kX9_order 40 = some (s_push 41 (.inl (1))) := rfl
theorem kX9_order_41 : kX9_order 41 = some (s_iald 42) := rfl
theorem kX9_order_42 : kX9_order 42 = some (s_icmp 45 54 (fun x y => y ≤ x)) := rfl
theorem kX9_order_45 : kX9_order 45 = some (s_ald 46 0) := rfl
theorem kX9_order_46 : kX9_order 46 = some (s_get 49 9 30) := rfl
theorem kX9_order_49 : kX9_order 49 = some (s_ild 50 1) := rfl
theorem kX9_order_50 : kX9_order 50 = some (s_iald 51) := rfl
theorem kX9_order_51 : kX9_order 51 = some (s_goto 56) := rfl
theorem kX9_order_54 : kX9_order 54 = some (s_push 56 (.inl (-9))) := rfl
theorem kX9_order_56 : kX9_order 56 = some (s_ret) := rfl
def wX9_order : m_GK := m_wp 2 kX9_order
set_option maxRecDepth 100000 in
set_option maxHeartbeats 4000000 in
theorem sX9_order (l : Launch) (X : m_X) (hX : m_inj X.1) : m_Sound l X 13 yX9_order cX9_order 2 (some .int) wX9_order := m_sound_of hX (by decide) (fun p e s m args below meth c q C hr => m_bt_all (m_bt_all (m_bt_all (m_bt_all (m_bt_all (m_lf_all (o_iload_n C (i := 1) rfl dX9_order_0 rfl)) (m_lf_all (o_iconst C (x := (-1)) (m_rngd rfl) dX9_order_1 rfl))) (m_bt_all (m_lf_all (o_icmp_ge C dX9_order_2 rfl rfl)) (m_lf_all (o_aload_n C (i := 0) rfl dX9_order_5 rfl)))) (m_bt_all (m_bt_all (m_lf_all (o_bipush C (x := (-4)) (m_rngd rfl) rfl dX9_order_6 rfl)) (m_lf_all (o_callV C (T := TX9) (N := 35) (sX9_refuse l X hX) rfl (m_in_of [1036, 1038, 30, 81] (by decide +kernel) (by decide +kernel)) (m_tb_of 1039 (by decide +kernel) rfl) (by decide +kernel) rfl ⟨Nat.le_of_ble_eq_true rfl, Nat.le_of_ble_eq_true rfl⟩ dX9_order_8 rfl))) (m_bt_all (m_lf_all (o_iret C hr dX9_order_11)) (m_lf_all (o_aload_n C (i := 0) rfl dX9_order_12 rfl))))) (m_bt_all (m_bt_all (m_bt_all (m_lf_all (o_bipush C (x := (-9)) (m_rngd rfl) rfl dX9_order_13 rfl)) (m_lf_all (o_put C (ci := 9) (k := 31) (N := 35) (rf := RX9) (T := TX9) rfl ginX9 (Nat.le_of_ble_eq_true rfl) (m_tb_of 957 (by decide +kernel) rfl) (ty0 := tyX9) tyX9_ok nmX9 rfl rfl dX9_order_15 rfl))) (m_bt_all (m_lf_all (o_aload_n C (i := 0) rfl dX9_order_18 rfl)) (m_lf_all (o_iconst C (x := (0)) (m_rngd rfl) dX9_order_19 rfl)))) (m_bt_all (m_bt_all (m_lf_all (o_iconst C (x := (0)) (m_rngd rfl) dX9_order_20 rfl)) (m_lf_all (o_callV C (T := TX9) (N := 35) (sX9_orders l X hX 8) rfl (m_in_of [1301, 1303, 68, 81] (by decide +kernel) (by decide +kernel)) (m_tb_of 1304 (by decide +kernel) rfl) (by decide +kernel) rfl ⟨Nat.le_of_ble_eq_true rfl, Nat.le_of_ble_eq_true rfl⟩ dX9_order_21 rfl))) (m_bt_all (m_lf_all (o_iload_n C (i := 1) rfl dX9_order_24 rfl)) (m_lf_all (o_if_ge C dX9_order_25 rfl rfl)))))) (m_bt_all (m_bt_all (m_bt_all (m_bt_all (m_lf_all (o_aload_n C (i := 0) rfl dX9_order_28 rfl)) (m_lf_all (o_get C (ci := 9) (k := 31) (N := 35) (rf := RX9) (T := TX9) rfl ginX9 (Nat.le_of_ble_eq_true rfl) (m_tb_of 957 (by decide +kernel) rfl) dX9_order_29 rfl))) (m_bt_all (m_lf_all (o_goto C dX9_order_32 rfl)) (m_lf_all (o_iload_n C (i := 1) rfl dX9_order_35 rfl)))) (m_bt_all (m_bt_all (m_lf_all (o_aload_n C (i := 0) rfl dX9_order_36 rfl)) (m_lf_all (o_get C (ci := 9) (k := 1) (N := 35) (rf := RX9) (T := TX9) rfl ginX9 (Nat.le_of_ble_eq_true rfl) (m_tb_of 927 (by decide +kernel) rfl) dX9_order_37 rfl))) (m_bt_all (m_lf_all (o_iconst C (x := (1)) (m_rngd rfl) dX9_order_40 rfl)) (m_lf_all (o_iald C dX9_order_41 rfl))))) (m_bt_all (m_bt_all (m_bt_all (m_lf_all (o_icmp_ge C dX9_order_42 rfl rfl)) (m_lf_all (o_aload_n C (i := 0) rfl dX9_order_45 rfl))) (m_bt_all (m_lf_all (o_get C (ci := 9) (k := 30) (N := 35) (rf := RX9) (T := TX9) rfl ginX9 (Nat.le_of_ble_eq_true rfl) (m_tb_of 956 (by decide +kernel) rfl) dX9_order_46 rfl)) (m_lf_all (o_iload_n C (i := 1) rfl dX9_order_49 rfl)))) (m_bt_all (m_bt_all (m_lf_all (o_iald C dX9_order_50 rfl)) (m_lf_all (o_goto C dX9_order_51 rfl))) (m_bt_all (m_lf_all (o_bipush C (x := (-9)) (m_rngd rfl) rfl dX9_order_54 rfl)) (m_lf_all (o_iret C hr dX9_order_56)))))))
set_option maxRecDepth 20000 in
def kX9_sumAt : m_C := m_bt 30 (m_bt 13 (m_bt 5 (m_bt 2 (m_bt 1 (m_lf 0 (s_push 1 (.inl (0)))) (m_lf 1 (s_ist 2 3))) (m_bt 3 (m_lf 2 (s_push 3 (.inl (0)))) (m_lf 3 (s_ist 5 4)))) (m_bt 8 (m_bt 7 (m_lf 5 (s_ild 7 4)) (m_lf 7 (s_ald 8 0))) (m_bt 11 (m_lf 8 (s_get 11 9 1)) (m_bt 12 (m_lf 11 (s_push 12 (.inl (0)))) (m_lf 12 (s_iald 13)))))) (m_bt 20 (m_bt 17 (m_bt 16 (m_lf 13 (s_icmp 16 60 (fun x y => y ≤ x))) (m_lf 16 (s_ild 17 3))) (m_bt 19 (m_lf 17 (s_ild 19 4)) (m_lf 19 (s_ild 20 2)))) (m_bt 24 (m_bt 23 (m_lf 20 (s_icmp 23 51 (fun x y => x = y))) (m_lf 23 (s_ald 24 0))) (m_bt 27 (m_lf 24 (s_get 27 9 32)) (m_bt 29 (m_lf 27 (s_ild 29 4)) (m_lf 29 (s_iald 30))))))) (m_bt 47 (m_bt 36 (m_bt 34 (m_bt 31 (m_lf 30 (s_ild 31 1)) (m_lf 31 (s_icmp 34 51 (fun x y => ¬ x = y)))) (m_bt 35 (m_lf 34 (s_ald 35 0)) (m_lf 35 (s_push 36 (.inl (0)))))) (m_bt 41 (m_bt 38 (m_lf 36 (s_ild 38 4)) (m_lf 38 (s_callV 41 3 9 wX9_comeIn))) (m_bt 42 (m_lf 41 (s_ald 42 0)) (m_bt 44 (m_lf 42 (s_ild 44 4)) (m_lf 44 (s_callV 47 2 9 wX9_secondsOf)))))) (m_bt 53 (m_bt 51 (m_bt 48 (m_lf 47 (s_bin 48 (fun x y => m_wrap (x * y)))) (m_lf 48 (s_goto 52))) (m_bt 52 (m_lf 51 (s_push 52 (.inl (0)))) (m_lf 52 (s_bin 53 (fun x y => m_wrap (x + y)))))) (m_bt 57 (m_bt 54 (m_lf 53 (s_ist 54 3)) (m_lf 54 (s_inc 57 4 (1)))) (m_bt 60 (m_lf 57 (s_goto 5)) (m_bt 61 (m_lf 60 (s_ild 61 3)) (m_lf 61 (s_ret)))))))
theorem kX9_sumAt_0 : kX9_sumAt 0 = some (s_push 1 (.inl (0))) := rfl
theorem kX9_sumAt_1 : kX9_sumAt 1 = some (s_ist 2 3) := rfl
theorem kX9_sumAt_2 : kX9_sumAt 2 = some (s_push 3 (.inl (0))) := rfl
theorem kX9_sumAt_3 : kX9_sumAt 3 = some (s_ist 5 4) := rfl
theorem kX9_sumAt_5 : kX9_sumAt 5 = some (s_ild 7 4) := rfl
theorem kX9_sumAt_7 : kX9_sumAt 7 = some (s_ald 8 0) := rfl
theorem kX9_sumAt_8 : kX9_sumAt 8 = some (s_get 11 9 1) := rfl
theorem kX9_sumAt_11 : kX9_sumAt 11 = some (s_push 12 (.inl (0))) := rfl
theorem kX9_sumAt_12 : kX9_sumAt 12 = some (s_iald 13) := rfl
theorem kX9_sumAt_13 : kX9_sumAt 13 = some (s_icmp 16 60 (fun x y => y ≤ x)) := rfl
theorem kX9_sumAt_16 : kX9_sumAt 16 = some (s_ild 17 3) := rfl
theorem kX9_sumAt_17 : kX9_sumAt 17 = some (s_ild 19 4) := rfl
theorem kX9_sumAt_19 : kX9_sumAt 19 = some (s_ild 20 2) := rfl
theorem kX9_sumAt_20 : kX9_sumAt 20 = some (s_icmp 23 51 (fun x y => x = y)) := rfl
theorem kX9_sumAt_23 : kX9_sumAt 23 = some (s_ald 24 0) := rfl
theorem kX9_sumAt_24 : kX9_sumAt 24 = some (s_get 27 9 32) := rfl
theorem kX9_sumAt_27 : kX9_sumAt 27 = some (s_ild 29 4) := rfl
theorem kX9_sumAt_29 : kX9_sumAt 29 = some (s_iald 30) := rfl
theorem kX9_sumAt_30 : kX9_sumAt 30 = some (s_ild 31 1) := rfl
theorem kX9_sumAt_31 : kX9_sumAt 31 = some (s_icmp 34 51 (fun x y => ¬ x = y)) := rfl
theorem kX9_sumAt_34 : kX9_sumAt 34 = some (s_ald 35 0) := rfl
theorem kX9_sumAt_35 : kX9_sumAt 35 = some (s_push 36 (.inl (0))) := rfl
theorem kX9_sumAt_36 : kX9_sumAt 36 = some (s_ild 38 4) := rfl
theorem kX9_sumAt_38 : kX9_sumAt 38 = some (s_callV 41 3 9 wX9_comeIn) := rfl
theorem kX9_sumAt_41 : kX9_sumAt 41 = some (s_ald 42 0) := rfl
theorem kX9_sumAt_42 : kX9_sumAt 42 = some (s_ild 44 4) := rfl
theorem kX9_sumAt_44 : kX9_sumAt 44 = some (s_callV 47 2 9 wX9_secondsOf) := rfl
theorem kX9_sumAt_47 : kX9_sumAt 47 = some (s_bin 48 (fun x y => m_wrap (x * y))) := rfl
theorem kX9_sumAt_48 : kX9_sumAt 48 = some (s_goto 52) := rfl
theorem kX9_sumAt_51 : kX9_sumAt 51 = some (s_push 52 (.inl (0))) := rfl
theorem kX9_sumAt_52 : kX9_sumAt 52 = some (s_bin 53 (fun x y => m_wrap (x + y))) := rfl
theorem kX9_sumAt_53 : kX9_sumAt 53 = some (s_ist 54 3) := rfl
theorem kX9_sumAt_54 : kX9_sumAt 54 = some (s_inc 57 4 (1)) := rfl
theorem kX9_sumAt_57 : kX9_sumAt 57 = some (s_goto 5) := rfl
theorem kX9_sumAt_60 : kX9_sumAt 60 = some (s_ild 61 3) := rfl
theorem kX9_sumAt_61 : kX9_sumAt 61 = some (s_ret) := rfl
def wX9_sumAt : m_GK := m_wp 5 kX9_sumAt
set_option maxRecDepth 100000 in
set_option maxHeartbeats 4000000 in
theorem sX9_sumAt (l : Launch) (X : m_X) (hX : m_inj X.1) : m_Sound l X 2 yX9_sumAt cX9_sumAt 5 (some .int) wX9_sumAt := m_sound_of hX (by decide) (fun p e s m args below meth c q C hr => m_bt_all (m_bt_all (m_bt_all (m_bt_all (m_bt_all (m_lf_all (o_iconst C (x := (0)) (m_rngd rfl) dX9_sumAt_0 rfl)) (m_lf_all (o_istore_n C (i := 3) rfl dX9_sumAt_1 rfl))) (m_bt_all (m_lf_all (o_iconst C (x := (0)) (m_rngd rfl) dX9_sumAt_2 rfl)) (m_lf_all (o_istore C dX9_sumAt_3 rfl)))) (m_bt_all (m_bt_all (m_lf_all (o_iload C dX9_sumAt_5 rfl)) (m_lf_all (o_aload_n C (i := 0) rfl dX9_sumAt_7 rfl))) (m_bt_all (m_lf_all (o_get C (ci := 9) (k := 1) (N := 35) (rf := RX9) (T := TX9) rfl ginX9 (Nat.le_of_ble_eq_true rfl) (m_tb_of 927 (by decide +kernel) rfl) dX9_sumAt_8 rfl)) (m_bt_all (m_lf_all (o_iconst C (x := (0)) (m_rngd rfl) dX9_sumAt_11 rfl)) (m_lf_all (o_iald C dX9_sumAt_12 rfl)))))) (m_bt_all (m_bt_all (m_bt_all (m_lf_all (o_icmp_ge C dX9_sumAt_13 rfl rfl)) (m_lf_all (o_iload_n C (i := 3) rfl dX9_sumAt_16 rfl))) (m_bt_all (m_lf_all (o_iload C dX9_sumAt_17 rfl)) (m_lf_all (o_iload_n C (i := 2) rfl dX9_sumAt_19 rfl)))) (m_bt_all (m_bt_all (m_lf_all (o_icmp_eq C dX9_sumAt_20 rfl rfl)) (m_lf_all (o_aload_n C (i := 0) rfl dX9_sumAt_23 rfl))) (m_bt_all (m_lf_all (o_get C (ci := 9) (k := 32) (N := 35) (rf := RX9) (T := TX9) rfl ginX9 (Nat.le_of_ble_eq_true rfl) (m_tb_of 958 (by decide +kernel) rfl) dX9_sumAt_24 rfl)) (m_bt_all (m_lf_all (o_iload C dX9_sumAt_27 rfl)) (m_lf_all (o_iald C dX9_sumAt_29 rfl))))))) (m_bt_all (m_bt_all (m_bt_all (m_bt_all (m_lf_all (o_iload_n C (i := 1) rfl dX9_sumAt_30 rfl)) (m_lf_all (o_icmp_ne C dX9_sumAt_31 rfl rfl))) (m_bt_all (m_lf_all (o_aload_n C (i := 0) rfl dX9_sumAt_34 rfl)) (m_lf_all (o_iconst C (x := (0)) (m_rngd rfl) dX9_sumAt_35 rfl)))) (m_bt_all (m_bt_all (m_lf_all (o_iload C dX9_sumAt_36 rfl)) (m_lf_all (o_callV C (T := TX9) (N := 35) (sX9_comeIn l X hX) rfl (m_in_of [1142, 1144, 47, 81] (by decide +kernel) (by decide +kernel)) (m_tb_of 1145 (by decide +kernel) rfl) (by decide +kernel) rfl ⟨Nat.le_of_ble_eq_true rfl, Nat.le_of_ble_eq_true rfl⟩ dX9_sumAt_38 rfl))) (m_bt_all (m_lf_all (o_aload_n C (i := 0) rfl dX9_sumAt_41 rfl)) (m_bt_all (m_lf_all (o_iload C dX9_sumAt_42 rfl)) (m_lf_all (o_callV C (T := TX9) (N := 35) (sX9_secondsOf l X hX) rfl (m_in_of [1146, 1148, 48, 81] (by decide +kernel) (by decide +kernel)) (m_tb_of 1149 (by decide +kernel) rfl) (by decide +kernel) rfl ⟨Nat.le_of_ble_eq_true rfl, Nat.le_of_ble_eq_true rfl⟩ dX9_sumAt_44 rfl)))))) (m_bt_all (m_bt_all (m_bt_all (m_lf_all (o_imul C dX9_sumAt_47 rfl)) (m_lf_all (o_goto C dX9_sumAt_48 rfl))) (m_bt_all (m_lf_all (o_iconst C (x := (0)) (m_rngd rfl) dX9_sumAt_51 rfl)) (m_lf_all (o_iadd C dX9_sumAt_52 rfl)))) (m_bt_all (m_bt_all (m_lf_all (o_istore_n C (i := 3) rfl dX9_sumAt_53 rfl)) (m_lf_all (o_iinc C dX9_sumAt_54 rfl))) (m_bt_all (m_lf_all (o_goto C dX9_sumAt_57 rfl)) (m_bt_all (m_lf_all (o_iload_n C (i := 3) rfl dX9_sumAt_60 rfl)) (m_lf_all (o_iret C hr dX9_sumAt_61))))))))
set_option maxRecDepth 20000 in
def kX9_goesOver : m_C := m_bt 46 (m_bt 22 (m_bt 10 (m_bt 4 (m_bt 2 (m_lf 0 (s_push 2 (.inl (-9)))) (m_bt 3 (m_lf 2 (s_ist 3 2)) (m_lf 3 (s_push 4 (.inl (0)))))) (m_bt 6 (m_bt 5 (m_lf 4 (s_ist 5 3)) (m_lf 5 (s_push 6 (.inl (0))))) (m_bt 8 (m_lf 6 (s_ist 8 4)) (m_lf 8 (s_ild 10 4))))) (m_bt 15 (m_bt 11 (m_lf 10 (s_ald 11 0)) (m_bt 14 (m_lf 11 (s_get 14 9 1)) (m_lf 14 (s_push 15 (.inl (1)))))) (m_bt 19 (m_bt 16 (m_lf 15 (s_iald 16)) (m_lf 16 (s_icmp 19 70 (fun x y => y ≤ x)))) (m_bt 20 (m_lf 19 (s_ald 20 0)) (m_lf 20 (s_ild 22 4)))))) (m_bt 33 (m_bt 27 (m_bt 23 (m_lf 22 (s_push 23 (.inl (0)))) (m_bt 26 (m_lf 23 (s_callV 26 3 9 wX9_wordOf)) (m_lf 26 (s_ild 27 1)))) (m_bt 29 (m_bt 28 (m_lf 27 (s_bin 28 m_ishr)) (m_lf 28 (s_push 29 (.inl (1))))) (m_bt 30 (m_lf 29 (s_bin 30 m_iand)) (m_lf 30 (s_if 33 36 (fun x => ¬ x = 0)))))) (m_bt 39 (m_bt 36 (m_lf 33 (s_goto 64)) (m_bt 37 (m_lf 36 (s_ald 37 0)) (m_lf 37 (s_ild 39 4)))) (m_bt 43 (m_bt 40 (m_lf 39 (s_ild 40 1)) (m_lf 40 (s_callV 43 3 9 wX9_sumAt))) (m_bt 45 (m_lf 43 (s_ist 45 5)) (m_lf 45 (s_ild 46 2))))))) (m_bt 75 (m_bt 61 (m_bt 52 (m_bt 49 (m_lf 46 (s_if 49 58 (fun x => x < 0))) (m_bt 51 (m_lf 49 (s_ild 51 5)) (m_lf 51 (s_ild 52 3)))) (m_bt 58 (m_bt 55 (m_lf 52 (s_icmp 55 58 (fun x y => x < y))) (m_lf 55 (s_goto 64))) (m_bt 60 (m_lf 58 (s_ild 60 4)) (m_lf 60 (s_ist 61 2))))) (m_bt 67 (m_bt 63 (m_lf 61 (s_ild 63 5)) (m_bt 64 (m_lf 63 (s_ist 64 3)) (m_lf 64 (s_inc 67 4 (1))))) (m_bt 71 (m_bt 70 (m_lf 67 (s_goto 8)) (m_lf 70 (s_ild 71 2))) (m_bt 72 (m_lf 71 (s_ald 72 0)) (m_lf 72 (s_get 75 9 32)))))) (m_bt 87 (m_bt 80 (m_bt 76 (m_lf 75 (s_ild 76 1)) (m_bt 77 (m_lf 76 (s_iald 77)) (m_lf 77 (s_icmp 80 84 (fun x y => x = y))))) (m_bt 84 (m_bt 81 (m_lf 80 (s_push 81 (.inl (1)))) (m_lf 81 (s_goto 85))) (m_bt 85 (m_lf 84 (s_push 85 (.inl (0)))) (m_lf 85 (s_ist 87 4))))) (m_bt 92 (m_bt 88 (m_lf 87 (s_ald 88 0)) (m_bt 91 (m_lf 88 (s_get 91 9 32)) (m_lf 91 (s_ild 92 1)))) (m_bt 94 (m_bt 93 (m_lf 92 (s_ild 93 2)) (m_lf 93 (s_iast 94))) (m_bt 96 (m_lf 94 (s_ild 96 4)) (m_lf 96 (s_retz)))))))
theorem kX9_goesOver_0 : kX9_goesOver 0 = some (s_push 2 (.inl (-9))) := rfl
theorem kX9_goesOver_2 : kX9_goesOver 2 = some (s_ist 3 2) := rfl
theorem kX9_goesOver_3 : kX9_goesOver 3 = some (s_push 4 (.inl (0))) := rfl
theorem kX9_goesOver_4 : kX9_goesOver 4 = some (s_ist 5 3) := rfl
theorem kX9_goesOver_5 : kX9_goesOver 5 = some (s_push 6 (.inl (0))) := rfl
theorem kX9_goesOver_6 : kX9_goesOver 6 = some (s_ist 8 4) := rfl
theorem kX9_goesOver_8 : kX9_goesOver 8 = some (s_ild 10 4) := rfl
theorem kX9_goesOver_10 : kX9_goesOver 10 = some (s_ald 11 0) := rfl
theorem kX9_goesOver_11 : kX9_goesOver 11 = some (s_get 14 9 1) := rfl
theorem kX9_goesOver_14 : kX9_goesOver 14 = some (s_push 15 (.inl (1))) := rfl
theorem kX9_goesOver_15 : kX9_goesOver 15 = some (s_iald 16) := rfl
theorem kX9_goesOver_16 : kX9_goesOver 16 = some (s_icmp 19 70 (fun x y => y ≤ x)) := rfl
theorem kX9_goesOver_19 : kX9_goesOver 19 = some (s_ald 20 0) := rfl
theorem kX9_goesOver_20 : kX9_goesOver 20 = some (s_ild 22 4) := rfl
theorem kX9_goesOver_22 : kX9_goesOver 22 = some (s_push 23 (.inl (0))) := rfl
theorem kX9_goesOver_23 : kX9_goesOver 23 = some (s_callV 26 3 9 wX9_wordOf) := rfl
theorem kX9_goesOver_26 : kX9_goesOver 26 = some (s_ild 27 1) := rfl
theorem kX9_goesOver_27 : kX9_goesOver 27 = some (s_bin 28 m_ishr) := rfl
theorem kX9_goesOver_28 : kX9_goesOver 28 = some (s_push 29 (.inl (1))) := rfl
theorem kX9_goesOver_29 : kX9_goesOver 29 = some (s_bin 30 m_iand) := rfl
theorem kX9_goesOver_30 : kX9_goesOver 30 = some (s_if 33 36 (fun x => ¬ x = 0)) := rfl
theorem kX9_goesOver_33 : kX9_goesOver 33 = some (s_goto 64) := rfl
theorem kX9_goesOver_36 : kX9_goesOver 36 = some (s_ald 37 0) := rfl
theorem kX9_goesOver_37 : kX9_goesOver 37 = some (s_ild 39 4) := rfl
theorem kX9_goesOver_39 : kX9_goesOver 39 = some (s_ild 40 1) := rfl
theorem kX9_goesOver_40 : kX9_goesOver 40 = some (s_callV 43 3 9 wX9_sumAt) := rfl
theorem kX9_goesOver_43 : kX9_goesOver 43 = some (s_ist 45 5) := rfl
theorem kX9_goesOver_45 : kX9_goesOver 45 = some (s_ild 46 2) := rfl
theorem kX9_goesOver_46 : kX9_goesOver 46 = some (s_if 49 58 (fun x => x < 0)) := rfl
theorem kX9_goesOver_49 : kX9_goesOver 49 = some (s_ild 51 5) := rfl
theorem kX9_goesOver_51 : kX9_goesOver 51 = some (s_ild 52 3) := rfl
theorem kX9_goesOver_52 : kX9_goesOver 52 = some (s_icmp 55 58 (fun x y => x < y)) := rfl
theorem kX9_goesOver_55 : kX9_goesOver 55 = some (s_goto 64) := rfl
theorem kX9_goesOver_58 : kX9_goesOver 58 = some (s_ild 60 4) := rfl
theorem kX9_goesOver_60 : kX9_goesOver 60 = some (s_ist 61 2) := rfl
theorem kX9_goesOver_61 : kX9_goesOver 61 = some (s_ild 63 5) := rfl
theorem kX9_goesOver_63 : kX9_goesOver 63 = some (s_ist 64 3) := rfl
theorem kX9_goesOver_64 : kX9_goesOver 64 = some (s_inc 67 4 (1)) := rfl
theorem kX9_goesOver_67 : kX9_goesOver 67 = some (s_goto 8) := rfl
theorem kX9_goesOver_70 : kX9_goesOver 70 = some (s_ild 71 2) := rfl
theorem kX9_goesOver_71 : kX9_goesOver 71 = some (s_ald 72 0) := rfl
theorem kX9_goesOver_72 : kX9_goesOver 72 = some (s_get 75 9 32) := rfl
theorem kX9_goesOver_75 : kX9_goesOver 75 = some (s_ild 76 1) := rfl
theorem kX9_goesOver_76 : kX9_goesOver 76 = some (s_iald 77) := rfl
theorem kX9_goesOver_77 : kX9_goesOver 77 = some (s_icmp 80 84 (fun x y => x = y)) := rfl
theorem kX9_goesOver_80 : kX9_goesOver 80 = some (s_push 81 (.inl (1))) := rfl
theorem kX9_goesOver_81 : kX9_goesOver 81 = some (s_goto 85) := rfl
theorem kX9_goesOver_84 : kX9_goesOver 84 = some (s_push 85 (.inl (0))) := rfl
theorem kX9_goesOver_85 : kX9_goesOver 85 = some (s_ist 87 4) := rfl
theorem kX9_goesOver_87 : kX9_goesOver 87 = some (s_ald 88 0) := rfl
theorem kX9_goesOver_88 : kX9_goesOver 88 = some (s_get 91 9 32) := rfl
theorem kX9_goesOver_91 : kX9_goesOver 91 = some (s_ild 92 1) := rfl
theorem kX9_goesOver_92 : kX9_goesOver 92 = some (s_ild 93 2) := rfl
theorem kX9_goesOver_93 : kX9_goesOver 93 = some (s_iast 94) := rfl
theorem kX9_goesOver_94 : kX9_goesOver 94 = some (s_ild 96 4) := rfl
theorem kX9_goesOver_96 : kX9_goesOver 96 = some (s_retz) := rfl
def wX9_goesOver : m_GK := m_wp 6 kX9_goesOver
set_option maxRecDepth 100000 in
set_option maxHeartbeats 4000000 in
theorem sX9_goesOver (l : Launch) (X : m_X) (hX : m_inj X.1) : m_Sound l X 3 yX9_goesOver cX9_goesOver 6 (some .boolean) wX9_goesOver := m_sound_of hX (by decide) (fun p e s m args below meth c q C hr => m_bt_all (m_bt_all (m_bt_all (m_bt_all (m_bt_all (m_lf_all (o_bipush C (x := (-9)) (m_rngd rfl) rfl dX9_goesOver_0 rfl)) (m_bt_all (m_lf_all (o_istore_n C (i := 2) rfl dX9_goesOver_2 rfl)) (m_lf_all (o_iconst C (x := (0)) (m_rngd rfl) dX9_goesOver_3 rfl)))) (m_bt_all (m_bt_all (m_lf_all (o_istore_n C (i := 3) rfl dX9_goesOver_4 rfl)) (m_lf_all (o_iconst C (x := (0)) (m_rngd rfl) dX9_goesOver_5 rfl))) (m_bt_all (m_lf_all (o_istore C dX9_goesOver_6 rfl)) (m_lf_all (o_iload C dX9_goesOver_8 rfl))))) (m_bt_all (m_bt_all (m_lf_all (o_aload_n C (i := 0) rfl dX9_goesOver_10 rfl)) (m_bt_all (m_lf_all (o_get C (ci := 9) (k := 1) (N := 35) (rf := RX9) (T := TX9) rfl ginX9 (Nat.le_of_ble_eq_true rfl) (m_tb_of 927 (by decide +kernel) rfl) dX9_goesOver_11 rfl)) (m_lf_all (o_iconst C (x := (1)) (m_rngd rfl) dX9_goesOver_14 rfl)))) (m_bt_all (m_bt_all (m_lf_all (o_iald C dX9_goesOver_15 rfl)) (m_lf_all (o_icmp_ge C dX9_goesOver_16 rfl rfl))) (m_bt_all (m_lf_all (o_aload_n C (i := 0) rfl dX9_goesOver_19 rfl)) (m_lf_all (o_iload C dX9_goesOver_20 rfl)))))) (m_bt_all (m_bt_all (m_bt_all (m_lf_all (o_iconst C (x := (0)) (m_rngd rfl) dX9_goesOver_22 rfl)) (m_bt_all (m_lf_all (o_callV C (T := TX9) (N := 35) (sX9_wordOf l X hX) rfl (m_in_of [1092, 1094, 40, 81] (by decide +kernel) (by decide +kernel)) (m_tb_of 1095 (by decide +kernel) rfl) (by decide +kernel) rfl ⟨Nat.le_of_ble_eq_true rfl, Nat.le_of_ble_eq_true rfl⟩ dX9_goesOver_23 rfl)) (m_lf_all (o_iload_n C (i := 1) rfl dX9_goesOver_26 rfl)))) (m_bt_all (m_bt_all (m_lf_all (o_ishr C dX9_goesOver_27 rfl)) (m_lf_all (o_iconst C (x := (1)) (m_rngd rfl) dX9_goesOver_28 rfl))) (m_bt_all (m_lf_all (o_iand C dX9_goesOver_29 rfl)) (m_lf_all (o_if_ne C dX9_goesOver_30 rfl rfl))))) (m_bt_all (m_bt_all (m_lf_all (o_goto C dX9_goesOver_33 rfl)) (m_bt_all (m_lf_all (o_aload_n C (i := 0) rfl dX9_goesOver_36 rfl)) (m_lf_all (o_iload C dX9_goesOver_37 rfl)))) (m_bt_all (m_bt_all (m_lf_all (o_iload_n C (i := 1) rfl dX9_goesOver_39 rfl)) (m_lf_all (o_callV C (T := TX9) (N := 35) (sX9_sumAt l X hX) rfl (m_in_of [1313, 1315, 70, 81] (by decide +kernel) (by decide +kernel)) (m_tb_of 1316 (by decide +kernel) rfl) (by decide +kernel) rfl ⟨Nat.le_of_ble_eq_true rfl, Nat.le_of_ble_eq_true rfl⟩ dX9_goesOver_40 rfl))) (m_bt_all (m_lf_all (o_istore C dX9_goesOver_43 rfl)) (m_lf_all (o_iload_n C (i := 2) rfl dX9_goesOver_45 rfl))))))) (m_bt_all (m_bt_all (m_bt_all (m_bt_all (m_lf_all (o_if_lt C dX9_goesOver_46 rfl rfl)) (m_bt_all (m_lf_all (o_iload C dX9_goesOver_49 rfl)) (m_lf_all (o_iload_n C (i := 3) rfl dX9_goesOver_51 rfl)))) (m_bt_all (m_bt_all (m_lf_all (o_icmp_lt C dX9_goesOver_52 rfl rfl)) (m_lf_all (o_goto C dX9_goesOver_55 rfl))) (m_bt_all (m_lf_all (o_iload C dX9_goesOver_58 rfl)) (m_lf_all (o_istore_n C (i := 2) rfl dX9_goesOver_60 rfl))))) (m_bt_all (m_bt_all (m_lf_all (o_iload C dX9_goesOver_61 rfl)) (m_bt_all (m_lf_all (o_istore_n C (i := 3) rfl dX9_goesOver_63 rfl)) (m_lf_all (o_iinc C dX9_goesOver_64 rfl)))) (m_bt_all (m_bt_all (m_lf_all (o_goto C dX9_goesOver_67 rfl)) (m_lf_all (o_iload_n C (i := 2) rfl dX9_goesOver_70 rfl))) (m_bt_all (m_lf_all (o_aload_n C (i := 0) rfl dX9_goesOver_71 rfl)) (m_lf_all (o_get C (ci := 9) (k := 32) (N := 35) (rf := RX9) (T := TX9) rfl ginX9 (Nat.le_of_ble_eq_true rfl) (m_tb_of 958 (by decide +kernel) rfl) dX9_goesOver_72 rfl)))))) (m_bt_all (m_bt_all (m_bt_all (m_lf_all (o_iload_n C (i := 1) rfl dX9_goesOver_75 rfl)) (m_bt_all (m_lf_all (o_iald C dX9_goesOver_76 rfl)) (m_lf_all (o_icmp_eq C dX9_goesOver_77 rfl rfl)))) (m_bt_all (m_bt_all (m_lf_all (o_iconst C (x := (1)) (m_rngd rfl) dX9_goesOver_80 rfl)) (m_lf_all (o_goto C dX9_goesOver_81 rfl))) (m_bt_all (m_lf_all (o_iconst C (x := (0)) (m_rngd rfl) dX9_goesOver_84 rfl)) (m_lf_all (o_istore C dX9_goesOver_85 rfl))))) (m_bt_all (m_bt_all (m_lf_all (o_aload_n C (i := 0) rfl dX9_goesOver_87 rfl)) (m_bt_all (m_lf_all (o_get C (ci := 9) (k := 32) (N := 35) (rf := RX9) (T := TX9) rfl ginX9 (Nat.le_of_ble_eq_true rfl) (m_tb_of 958 (by decide +kernel) rfl) dX9_goesOver_88 rfl)) (m_lf_all (o_iload_n C (i := 1) rfl dX9_goesOver_91 rfl)))) (m_bt_all (m_bt_all (m_lf_all (o_iload_n C (i := 2) rfl dX9_goesOver_92 rfl)) (m_lf_all (o_iast C dX9_goesOver_93 rfl))) (m_bt_all (m_lf_all (o_iload C dX9_goesOver_94 rfl)) (m_lf_all (o_zret C hr dX9_goesOver_96))))))))
set_option maxRecDepth 20000 in
def kX9_rests : m_C := m_bt 71 (m_bt 38 (m_bt 17 (m_bt 9 (m_bt 2 (m_bt 1 (m_lf 0 (s_ald 1 0)) (m_lf 1 (s_ild 2 1))) (m_bt 5 (m_lf 2 (s_callV 5 2 9 wX9_isSort)) (m_bt 8 (m_lf 5 (s_if 8 14 (fun x => ¬ x = 0))) (m_lf 8 (s_ald 9 0))))) (m_bt 14 (m_bt 10 (m_lf 9 (s_push 10 (.inl (-1)))) (m_bt 13 (m_lf 10 (s_callV 13 2 9 wX9_refuse)) (m_lf 13 (s_ret)))) (m_bt 15 (m_lf 14 (s_push 15 (.inl (0)))) (m_bt 16 (m_lf 15 (s_ist 16 2)) (m_lf 16 (s_ild 17 2)))))) (m_bt 27 (m_bt 22 (m_bt 18 (m_lf 17 (s_ald 18 0)) (m_bt 21 (m_lf 18 (s_get 21 9 1)) (m_lf 21 (s_push 22 (.inl (0)))))) (m_bt 23 (m_lf 22 (s_iald 23)) (m_bt 26 (m_lf 23 (s_icmp 26 89 (fun x y => y ≤ x))) (m_lf 26 (s_ald 27 0))))) (m_bt 33 (m_bt 30 (m_lf 27 (s_get 30 9 32)) (m_bt 31 (m_lf 30 (s_ild 31 2)) (m_lf 31 (s_push 33 (.inl (-9)))))) (m_bt 34 (m_lf 33 (s_iast 34)) (m_bt 35 (m_lf 34 (s_ald 35 0)) (m_lf 35 (s_get 38 9 1))))))) (m_bt 53 (m_bt 43 (m_bt 40 (m_bt 39 (m_lf 38 (s_push 39 (.inl (1)))) (m_lf 39 (s_iald 40))) (m_bt 41 (m_lf 40 (s_push 41 (.inl (1)))) (m_bt 42 (m_lf 41 (s_bin 42 (fun x y => m_wrap (x - y)))) (m_lf 42 (s_ist 43 3))))) (m_bt 48 (m_bt 44 (m_lf 43 (s_ild 44 3)) (m_bt 47 (m_lf 44 (s_if 47 83 (fun x => x < 0))) (m_lf 47 (s_ald 48 0)))) (m_bt 51 (m_lf 48 (s_get 51 9 32)) (m_bt 52 (m_lf 51 (s_ild 52 2)) (m_lf 52 (s_ald 53 0)))))) (m_bt 61 (m_bt 58 (m_bt 54 (m_lf 53 (s_ild 54 3)) (m_bt 55 (m_lf 54 (s_push 55 (.inl (0)))) (m_lf 55 (s_callV 58 3 9 wX9_wordOf)))) (m_bt 59 (m_lf 58 (s_ild 59 2)) (m_bt 60 (m_lf 59 (s_bin 60 m_ishr)) (m_lf 60 (s_push 61 (.inl (1))))))) (m_bt 66 (m_bt 62 (m_lf 61 (s_bin 62 m_iand)) (m_bt 63 (m_lf 62 (s_push 63 (.inl (1)))) (m_lf 63 (s_icmp 66 70 (fun x y => ¬ x = y))))) (m_bt 67 (m_lf 66 (s_ild 67 3)) (m_bt 70 (m_lf 67 (s_goto 76)) (m_lf 70 (s_ald 71 0)))))))) (m_bt 111 (m_bt 92 (m_bt 80 (m_bt 75 (m_bt 74 (m_lf 71 (s_get 74 9 32)) (m_lf 74 (s_ild 75 2))) (m_bt 76 (m_lf 75 (s_iald 76)) (m_bt 77 (m_lf 76 (s_iast 77)) (m_lf 77 (s_inc 80 3 (-1)))))) (m_bt 89 (m_bt 83 (m_lf 80 (s_goto 43)) (m_bt 86 (m_lf 83 (s_inc 86 2 (1))) (m_lf 86 (s_goto 16)))) (m_bt 90 (m_lf 89 (s_push 90 (.inl (1)))) (m_bt 91 (m_lf 90 (s_ist 91 2)) (m_lf 91 (s_push 92 (.inl (0)))))))) (m_bt 103 (m_bt 96 (m_bt 93 (m_lf 92 (s_ist 93 3)) (m_bt 94 (m_lf 93 (s_ild 94 3)) (m_lf 94 (s_push 96 (.inl (20)))))) (m_bt 99 (m_lf 96 (s_icmp 99 150 (fun x y => y ≤ x))) (m_bt 100 (m_lf 99 (s_ild 100 2)) (m_lf 100 (s_if 103 150 (fun x => x = 0)))))) (m_bt 106 (m_bt 104 (m_lf 103 (s_push 104 (.inl (0)))) (m_bt 105 (m_lf 104 (s_ist 105 2)) (m_lf 105 (s_push 106 (.inl (0)))))) (m_bt 108 (m_lf 106 (s_ist 108 4)) (m_bt 110 (m_lf 108 (s_ild 110 4)) (m_lf 110 (s_ald 111 0))))))) (m_bt 133 (m_bt 120 (m_bt 115 (m_bt 114 (m_lf 111 (s_get 114 9 1)) (m_lf 114 (s_push 115 (.inl (0))))) (m_bt 116 (m_lf 115 (s_iald 116)) (m_bt 119 (m_lf 116 (s_icmp 119 144 (fun x y => y ≤ x))) (m_lf 119 (s_ald 120 0))))) (m_bt 128 (m_bt 122 (m_lf 120 (s_ild 122 4)) (m_bt 125 (m_lf 122 (s_callV 125 2 9 wX9_goesOver)) (m_lf 125 (s_if 128 132 (fun x => ¬ x = 0))))) (m_bt 129 (m_lf 128 (s_ild 129 2)) (m_bt 132 (m_lf 129 (s_if 132 136 (fun x => x = 0))) (m_lf 132 (s_push 133 (.inl (1)))))))) (m_bt 147 (m_bt 138 (m_bt 136 (m_lf 133 (s_goto 137)) (m_bt 137 (m_lf 136 (s_push 137 (.inl (0)))) (m_lf 137 (s_ist 138 2)))) (m_bt 141 (m_lf 138 (s_inc 141 4 (1))) (m_bt 144 (m_lf 141 (s_goto 108)) (m_lf 144 (s_inc 147 3 (1)))))) (m_bt 154 (m_bt 150 (m_lf 147 (s_goto 93)) (m_bt 151 (m_lf 150 (s_ald 151 0)) (m_lf 151 (s_get 154 9 32)))) (m_bt 155 (m_lf 154 (s_ild 155 1)) (m_bt 156 (m_lf 155 (s_iald 156)) (m_lf 156 (s_ret))))))))
theorem kX9_rests_0 : kX9_rests 0 = some (s_ald 1 0) := rfl
theorem kX9_rests_1 : kX9_rests 1 = some (s_ild 2 1) := rfl
theorem kX9_rests_2 : kX9_rests 2 = some (s_callV 5 2 9 wX9_isSort) := rfl
theorem kX9_rests_5 : kX9_rests 5 = some (s_if 8 14 (fun x => ¬ x = 0)) := rfl
theorem kX9_rests_8 : kX9_rests 8 = some (s_ald 9 0) := rfl
theorem kX9_rests_9 : kX9_rests 9 = some (s_push 10 (.inl (-1))) := rfl
theorem kX9_rests_10 : kX9_rests 10 = some (s_callV 13 2 9 wX9_refuse) := rfl
theorem kX9_rests_13 : kX9_rests 13 = some (s_ret) := rfl
theorem kX9_rests_14 : kX9_rests 14 = some (s_push 15 (.inl (0))) := rfl
theorem kX9_rests_15 : kX9_rests 15 = some (s_ist 16 2) := rfl
theorem kX9_rests_16 : kX9_rests 16 = some (s_ild 17 2) := rfl
theorem kX9_rests_17 : kX9_rests 17 = some (s_ald 18 0) := rfl
theorem kX9_rests_18 : kX9_rests 18 = some (s_get 21 9 1) := rfl
theorem kX9_rests_21 : kX9_rests 21 = some (s_push 22 (.inl (0))) := rfl
theorem kX9_rests_22 : kX9_rests 22 = some (s_iald 23) := rfl
theorem kX9_rests_23 : kX9_rests 23 = some (s_icmp 26 89 (fun x y => y ≤ x)) := rfl
theorem kX9_rests_26 : kX9_rests 26 = some (s_ald 27 0) := rfl
theorem kX9_rests_27 : kX9_rests 27 = some (s_get 30 9 32) := rfl
theorem kX9_rests_30 : kX9_rests 30 = some (s_ild 31 2) := rfl
theorem kX9_rests_31 : kX9_rests 31 = some (s_push 33 (.inl (-9))) := rfl
theorem kX9_rests_33 : kX9_rests 33 = some (s_iast 34) := rfl
theorem kX9_rests_34 : kX9_rests 34 = some (s_ald 35 0) := rfl
theorem kX9_rests_35 : kX9_rests 35 = some (s_get 38 9 1) := rfl
theorem kX9_rests_38 : kX9_rests 38 = some (s_push 39 (.inl (1))) := rfl
theorem kX9_rests_39 : kX9_rests 39 = some (s_iald 40) := rfl
theorem kX9_rests_40 : kX9_rests 40 = some (s_push 41 (.inl (1))) := rfl
theorem kX9_rests_41 : kX9_rests 41 = some (s_bin 42 (fun x y => m_wrap (x - y))) := rfl
theorem kX9_rests_42 : kX9_rests 42 = some (s_ist 43 3) := rfl
theorem kX9_rests_43 : kX9_rests 43 = some (s_ild 44 3) := rfl
theorem kX9_rests_44 : kX9_rests 44 = some (s_if 47 83 (fun x => x < 0)) := rfl
theorem kX9_rests_47 : kX9_rests 47 = some (s_ald 48 0) := rfl
theorem kX9_rests_48 : kX9_rests 48 = some (s_get 51 9 32) := rfl
theorem kX9_rests_51 : kX9_rests 51 = some (s_ild 52 2) := rfl
theorem kX9_rests_52 : kX9_rests 52 = some (s_ald 53 0) := rfl
theorem kX9_rests_53 : kX9_rests 53 = some (s_ild 54 3) := rfl
theorem kX9_rests_54 : kX9_rests 54 = some (s_push 55 (.inl (0))) := rfl
theorem kX9_rests_55 : kX9_rests 55 = some (s_callV 58 3 9 wX9_wordOf) := rfl
theorem kX9_rests_58 : kX9_rests 58 = some (s_ild 59 2) := rfl
theorem kX9_rests_59 : kX9_rests 59 = some (s_bin 60 m_ishr) := rfl
theorem kX9_rests_60 : kX9_rests 60 = some (s_push 61 (.inl (1))) := rfl
theorem kX9_rests_61 : kX9_rests 61 = some (s_bin 62 m_iand) := rfl
theorem kX9_rests_62 : kX9_rests 62 = some (s_push 63 (.inl (1))) := rfl
theorem kX9_rests_63 : kX9_rests 63 = some (s_icmp 66 70 (fun x y => ¬ x = y)) := rfl
theorem kX9_rests_66 : kX9_rests 66 = some (s_ild 67 3) := rfl
theorem kX9_rests_67 : kX9_rests 67 = some (s_goto 76) := rfl
theorem kX9_rests_70 : kX9_rests 70 = some (s_ald 71 0) := rfl
theorem kX9_rests_71 : kX9_rests 71 = some (s_get 74 9 32) := rfl
theorem kX9_rests_74 : kX9_rests 74 = some (s_ild 75 2) := rfl
theorem kX9_rests_75 : kX9_rests 75 = some (s_iald 76) := rfl
theorem kX9_rests_76 : kX9_rests 76 = some (s_iast 77) := rfl
theorem kX9_rests_77 : kX9_rests 77 = some (s_inc 80 3 (-1)) := rfl
theorem kX9_rests_80 : kX9_rests 80 = some (s_goto 43) := rfl
theorem kX9_rests_83 : kX9_rests 83 = some (s_inc 86 2 (1)) := rfl
theorem kX9_rests_86 : kX9_rests 86 = some (s_goto 16) := rfl
theorem kX9_rests_89 : kX9_rests 89 = some (s_push 90 (.inl (1))) := rfl
theorem kX9_rests_90 : kX9_rests 90 = some (s_ist 91 2) := rfl
theorem kX9_rests_91 : kX9_rests 91 = some (s_push 92 (.inl (0))) := rfl
theorem kX9_rests_92 : kX9_rests 92 = some (s_ist 93 3) := rfl
theorem kX9_rests_93 : kX9_rests 93 = some (s_ild 94 3) := rfl
theorem kX9_rests_94 : kX9_rests 94 = some (s_push 96 (.inl (20))) := rfl
theorem kX9_rests_96 : kX9_rests 96 = some (s_icmp 99 150 (fun x y => y ≤ x)) := rfl
theorem kX9_rests_99 : kX9_rests 99 = some (s_ild 100 2) := rfl
theorem kX9_rests_100 : kX9_rests 100 = some (s_if 103 150 (fun x => x = 0)) := rfl
theorem kX9_rests_103 : kX9_rests 103 = some (s_push 104 (.inl (0))) := rfl
theorem kX9_rests_104 : kX9_rests 104 = some (s_ist 105 2) := rfl
theorem kX9_rests_105 : kX9_rests 105 = some (s_push 106 (.inl (0))) := rfl
theorem kX9_rests_106 : kX9_rests 106 = some (s_ist 108 4) := rfl
theorem kX9_rests_108 : kX9_rests 108 = some (s_ild 110 4) := rfl
theorem kX9_rests_110 : kX9_rests 110 = some (s_ald 111 0) := rfl
theorem kX9_rests_111 : kX9_rests 111 = some (s_get 114 9 1) := rfl
theorem kX9_rests_114 : kX9_rests 114 = some (s_push 115 (.inl (0))) := rfl
theorem kX9_rests_115 : kX9_rests 115 = some (s_iald 116) := rfl
theorem kX9_rests_116 : kX9_rests 116 = some (s_icmp 119 144 (fun x y => y ≤ x)) := rfl
theorem kX9_rests_119 : kX9_rests 119 = some (s_ald 120 0) := rfl
theorem kX9_rests_120 : kX9_rests 120 = some (s_ild 122 4) := rfl
theorem kX9_rests_122 : kX9_rests 122 = some (s_callV 125 2 9 wX9_goesOver) := rfl
theorem kX9_rests_125 : kX9_rests 125 = some (s_if 128 132 (fun x => ¬ x = 0)) := rfl
theorem kX9_rests_128 : kX9_rests 128 = some (s_ild 129 2) := rfl
theorem kX9_rests_129 : kX9_rests 129 = some (s_if 132 136 (fun x => x = 0)) := rfl
theorem kX9_rests_132 : kX9_rests 132 = some (s_push 133 (.inl (1))) := rfl
theorem kX9_rests_133 : kX9_rests 133 = some (s_goto 137) := rfl
theorem kX9_rests_136 : kX9_rests 136 = some (s_push 137 (.inl (0))) := rfl
theorem kX9_rests_137 : kX9_rests 137 = some (s_ist 138 2) := rfl
theorem kX9_rests_138 : kX9_rests 138 = some (s_inc 141 4 (1)) := rfl
theorem kX9_rests_141 : kX9_rests 141 = some (s_goto 108) := rfl
theorem kX9_rests_144 : kX9_rests 144 = some (s_inc 147 3 (1)) := rfl
theorem kX9_rests_147 : kX9_rests 147 = some (s_goto 93) := rfl
theorem kX9_rests_150 : kX9_rests 150 = some (s_ald 151 0) := rfl
theorem kX9_rests_151 : kX9_rests 151 = some (s_get 154 9 32) := rfl
theorem kX9_rests_154 : kX9_rests 154 = some (s_ild 155 1) := rfl
theorem kX9_rests_155 : kX9_rests 155 = some (s_iald 156) := rfl
theorem kX9_rests_156 : kX9_rests 156 = some (s_ret) := rfl
def wX9_rests : m_GK := m_wp 5 kX9_rests
set_option maxRecDepth 100000 in
set_option maxHeartbeats 4000000 in
theorem sX9_rests (l : Launch) (X : m_X) (hX : m_inj X.1) : m_Sound l X 4 yX9_rests cX9_rests 5 (some .int) wX9_rests := m_sound_of hX (by decide) (fun p e s m args below meth c q C hr => m_bt_all (m_bt_all (m_bt_all (m_bt_all (m_bt_all (m_bt_all (m_lf_all (o_aload_n C (i := 0) rfl dX9_rests_0 rfl)) (m_lf_all (o_iload_n C (i := 1) rfl dX9_rests_1 rfl))) (m_bt_all (m_lf_all (o_callV C (T := TX9) (N := 35) (sX9_isSort l X hX) rfl (m_in_of [1077, 1079, 38, 81] (by decide +kernel) (by decide +kernel)) (m_tb_of 1080 (by decide +kernel) rfl) (by decide +kernel) rfl ⟨Nat.le_of_ble_eq_true rfl, Nat.le_of_ble_eq_true rfl⟩ dX9_rests_2 rfl)) (m_bt_all (m_lf_all (o_if_ne C dX9_rests_5 rfl rfl)) (m_lf_all (o_aload_n C (i := 0) rfl dX9_rests_8 rfl))))) (m_bt_all (m_bt_all (m_lf_all (o_iconst C (x := (-1)) (m_rngd rfl) dX9_rests_9 rfl)) (m_bt_all (m_lf_all (o_callV C (T := TX9) (N := 35) (sX9_refuse l X hX) rfl (m_in_of [1036, 1038, 30, 81] (by decide +kernel) (by decide +kernel)) (m_tb_of 1039 (by decide +kernel) rfl) (by decide +kernel) rfl ⟨Nat.le_of_ble_eq_true rfl, Nat.le_of_ble_eq_true rfl⟩ dX9_rests_10 rfl)) (m_lf_all (o_iret C hr dX9_rests_13)))) (m_bt_all (m_lf_all (o_iconst C (x := (0)) (m_rngd rfl) dX9_rests_14 rfl)) (m_bt_all (m_lf_all (o_istore_n C (i := 2) rfl dX9_rests_15 rfl)) (m_lf_all (o_iload_n C (i := 2) rfl dX9_rests_16 rfl)))))) (m_bt_all (m_bt_all (m_bt_all (m_lf_all (o_aload_n C (i := 0) rfl dX9_rests_17 rfl)) (m_bt_all (m_lf_all (o_get C (ci := 9) (k := 1) (N := 35) (rf := RX9) (T := TX9) rfl ginX9 (Nat.le_of_ble_eq_true rfl) (m_tb_of 927 (by decide +kernel) rfl) dX9_rests_18 rfl)) (m_lf_all (o_iconst C (x := (0)) (m_rngd rfl) dX9_rests_21 rfl)))) (m_bt_all (m_lf_all (o_iald C dX9_rests_22 rfl)) (m_bt_all (m_lf_all (o_icmp_ge C dX9_rests_23 rfl rfl)) (m_lf_all (o_aload_n C (i := 0) rfl dX9_rests_26 rfl))))) (m_bt_all (m_bt_all (m_lf_all (o_get C (ci := 9) (k := 32) (N := 35) (rf := RX9) (T := TX9) rfl ginX9 (Nat.le_of_ble_eq_true rfl) (m_tb_of 958 (by decide +kernel) rfl) dX9_rests_27 rfl)) (m_bt_all (m_lf_all (o_iload_n C (i := 2) rfl dX9_rests_30 rfl)) (m_lf_all (o_bipush C (x := (-9)) (m_rngd rfl) rfl dX9_rests_31 rfl)))) (m_bt_all (m_lf_all (o_iast C dX9_rests_33 rfl)) (m_bt_all (m_lf_all (o_aload_n C (i := 0) rfl dX9_rests_34 rfl)) (m_lf_all (o_get C (ci := 9) (k := 1) (N := 35) (rf := RX9) (T := TX9) rfl ginX9 (Nat.le_of_ble_eq_true rfl) (m_tb_of 927 (by decide +kernel) rfl) dX9_rests_35 rfl))))))) (m_bt_all (m_bt_all (m_bt_all (m_bt_all (m_lf_all (o_iconst C (x := (1)) (m_rngd rfl) dX9_rests_38 rfl)) (m_lf_all (o_iald C dX9_rests_39 rfl))) (m_bt_all (m_lf_all (o_iconst C (x := (1)) (m_rngd rfl) dX9_rests_40 rfl)) (m_bt_all (m_lf_all (o_isub C dX9_rests_41 rfl)) (m_lf_all (o_istore_n C (i := 3) rfl dX9_rests_42 rfl))))) (m_bt_all (m_bt_all (m_lf_all (o_iload_n C (i := 3) rfl dX9_rests_43 rfl)) (m_bt_all (m_lf_all (o_if_lt C dX9_rests_44 rfl rfl)) (m_lf_all (o_aload_n C (i := 0) rfl dX9_rests_47 rfl)))) (m_bt_all (m_lf_all (o_get C (ci := 9) (k := 32) (N := 35) (rf := RX9) (T := TX9) rfl ginX9 (Nat.le_of_ble_eq_true rfl) (m_tb_of 958 (by decide +kernel) rfl) dX9_rests_48 rfl)) (m_bt_all (m_lf_all (o_iload_n C (i := 2) rfl dX9_rests_51 rfl)) (m_lf_all (o_aload_n C (i := 0) rfl dX9_rests_52 rfl)))))) (m_bt_all (m_bt_all (m_bt_all (m_lf_all (o_iload_n C (i := 3) rfl dX9_rests_53 rfl)) (m_bt_all (m_lf_all (o_iconst C (x := (0)) (m_rngd rfl) dX9_rests_54 rfl)) (m_lf_all (o_callV C (T := TX9) (N := 35) (sX9_wordOf l X hX) rfl (m_in_of [1092, 1094, 40, 81] (by decide +kernel) (by decide +kernel)) (m_tb_of 1095 (by decide +kernel) rfl) (by decide +kernel) rfl ⟨Nat.le_of_ble_eq_true rfl, Nat.le_of_ble_eq_true rfl⟩ dX9_rests_55 rfl)))) (m_bt_all (m_lf_all (o_iload_n C (i := 2) rfl dX9_rests_58 rfl)) (m_bt_all (m_lf_all (o_ishr C dX9_rests_59 rfl)) (m_lf_all (o_iconst C (x := (1)) (m_rngd rfl) dX9_rests_60 rfl))))) (m_bt_all (m_bt_all (m_lf_all (o_iand C dX9_rests_61 rfl)) (m_bt_all (m_lf_all (o_iconst C (x := (1)) (m_rngd rfl) dX9_rests_62 rfl)) (m_lf_all (o_icmp_ne C dX9_rests_63 rfl rfl)))) (m_bt_all (m_lf_all (o_iload_n C (i := 3) rfl dX9_rests_66 rfl)) (m_bt_all (m_lf_all (o_goto C dX9_rests_67 rfl)) (m_lf_all (o_aload_n C (i := 0) rfl dX9_rests_70 rfl)))))))) (m_bt_all (m_bt_all (m_bt_all (m_bt_all (m_bt_all (m_lf_all (o_get C (ci := 9) (k := 32) (N := 35) (rf := RX9) (T := TX9) rfl ginX9 (Nat.le_of_ble_eq_true rfl) (m_tb_of 958 (by decide +kernel) rfl) dX9_rests_71 rfl)) (m_lf_all (o_iload_n C (i := 2) rfl dX9_rests_74 rfl))) (m_bt_all (m_lf_all (o_iald C dX9_rests_75 rfl)) (m_bt_all (m_lf_all (o_iast C dX9_rests_76 rfl)) (m_lf_all (o_iinc C dX9_rests_77 rfl))))) (m_bt_all (m_bt_all (m_lf_all (o_goto C dX9_rests_80 rfl)) (m_bt_all (m_lf_all (o_iinc C dX9_rests_83 rfl)) (m_lf_all (o_goto C dX9_rests_86 rfl)))) (m_bt_all (m_lf_all (o_iconst C (x := (1)) (m_rngd rfl) dX9_rests_89 rfl)) (m_bt_all (m_lf_all (o_istore_n C (i := 2) rfl dX9_rests_90 rfl)) (m_lf_all (o_iconst C (x := (0)) (m_rngd rfl) dX9_rests_91 rfl)))))) (m_bt_all (m_bt_all (m_bt_all (m_lf_all (o_istore_n C (i := 3) rfl dX9_rests_92 rfl)) (m_bt_all (m_lf_all (o_iload_n C (i := 3) rfl dX9_rests_93 rfl)) (m_lf_all (o_bipush C (x := (20)) (m_rngd rfl) rfl dX9_rests_94 rfl)))) (m_bt_all (m_lf_all (o_icmp_ge C dX9_rests_96 rfl rfl)) (m_bt_all (m_lf_all (o_iload_n C (i := 2) rfl dX9_rests_99 rfl)) (m_lf_all (o_if_eq C dX9_rests_100 rfl rfl))))) (m_bt_all (m_bt_all (m_lf_all (o_iconst C (x := (0)) (m_rngd rfl) dX9_rests_103 rfl)) (m_bt_all (m_lf_all (o_istore_n C (i := 2) rfl dX9_rests_104 rfl)) (m_lf_all (o_iconst C (x := (0)) (m_rngd rfl) dX9_rests_105 rfl)))) (m_bt_all (m_lf_all (o_istore C dX9_rests_106 rfl)) (m_bt_all (m_lf_all (o_iload C dX9_rests_108 rfl)) (m_lf_all (o_aload_n C (i := 0) rfl dX9_rests_110 rfl))))))) (m_bt_all (m_bt_all (m_bt_all (m_bt_all (m_lf_all (o_get C (ci := 9) (k := 1) (N := 35) (rf := RX9) (T := TX9) rfl ginX9 (Nat.le_of_ble_eq_true rfl) (m_tb_of 927 (by decide +kernel) rfl) dX9_rests_111 rfl)) (m_lf_all (o_iconst C (x := (0)) (m_rngd rfl) dX9_rests_114 rfl))) (m_bt_all (m_lf_all (o_iald C dX9_rests_115 rfl)) (m_bt_all (m_lf_all (o_icmp_ge C dX9_rests_116 rfl rfl)) (m_lf_all (o_aload_n C (i := 0) rfl dX9_rests_119 rfl))))) (m_bt_all (m_bt_all (m_lf_all (o_iload C dX9_rests_120 rfl)) (m_bt_all (m_lf_all (o_callV C (T := TX9) (N := 35) (sX9_goesOver l X hX) rfl (m_in_of [1309, 1311, 69, 81] (by decide +kernel) (by decide +kernel)) (m_tb_of 1312 (by decide +kernel) rfl) (by decide +kernel) rfl ⟨Nat.le_of_ble_eq_true rfl, Nat.le_of_ble_eq_true rfl⟩ dX9_rests_122 rfl)) (m_lf_all (o_if_ne C dX9_rests_125 rfl rfl)))) (m_bt_all (m_lf_all (o_iload_n C (i := 2) rfl dX9_rests_128 rfl)) (m_bt_all (m_lf_all (o_if_eq C dX9_rests_129 rfl rfl)) (m_lf_all (o_iconst C (x := (1)) (m_rngd rfl) dX9_rests_132 rfl)))))) (m_bt_all (m_bt_all (m_bt_all (m_lf_all (o_goto C dX9_rests_133 rfl)) (m_bt_all (m_lf_all (o_iconst C (x := (0)) (m_rngd rfl) dX9_rests_136 rfl)) (m_lf_all (o_istore_n C (i := 2) rfl dX9_rests_137 rfl)))) (m_bt_all (m_lf_all (o_iinc C dX9_rests_138 rfl)) (m_bt_all (m_lf_all (o_goto C dX9_rests_141 rfl)) (m_lf_all (o_iinc C dX9_rests_144 rfl))))) (m_bt_all (m_bt_all (m_lf_all (o_goto C dX9_rests_147 rfl)) (m_bt_all (m_lf_all (o_aload_n C (i := 0) rfl dX9_rests_150 rfl)) (m_lf_all (o_get C (ci := 9) (k := 32) (N := 35) (rf := RX9) (T := TX9) rfl ginX9 (Nat.le_of_ble_eq_true rfl) (m_tb_of 958 (by decide +kernel) rfl) dX9_rests_151 rfl)))) (m_bt_all (m_lf_all (o_iload_n C (i := 1) rfl dX9_rests_154 rfl)) (m_bt_all (m_lf_all (o_iald C dX9_rests_155 rfl)) (m_lf_all (o_iret C hr dX9_rests_156)))))))))
set_option maxRecDepth 20000 in
def kX9_row : m_C := m_bt 30 (m_bt 14 (m_bt 8 (m_bt 2 (m_bt 1 (m_lf 0 (s_ild 1 1)) (m_lf 1 (s_push 2 (.inl (0))))) (m_bt 5 (m_lf 2 (s_push 5 (.inl (32767)))) (m_lf 5 (s_callS 8 3 wX9_within)))) (m_bt 10 (m_bt 9 (m_lf 8 (s_ist 9 2)) (m_lf 9 (s_ild 10 2))) (m_bt 13 (m_lf 10 (s_if 13 24 (fun x => ¬ x = 0))) (m_lf 13 (s_ald 14 0))))) (m_bt 23 (m_bt 18 (m_bt 17 (m_lf 14 (s_get 17 9 34)) (m_lf 17 (s_push 18 (.inl (5))))) (m_bt 21 (m_lf 18 (s_icmp 21 24 (fun x y => ¬ x = y))) (m_lf 21 (s_push 23 (.inl (-6)))))) (m_bt 25 (m_bt 24 (m_lf 23 (s_ist 24 2)) (m_lf 24 (s_ild 25 2))) (m_bt 28 (m_lf 25 (s_if 28 34 (fun x => x = 0))) (m_bt 29 (m_lf 28 (s_ald 29 0)) (m_lf 29 (s_ild 30 2))))))) (m_bt 44 (m_bt 38 (m_bt 34 (m_bt 33 (m_lf 30 (s_callV 33 2 9 wX9_refuse)) (m_lf 33 (s_ret))) (m_bt 35 (m_lf 34 (s_ald 35 0)) (m_lf 35 (s_get 38 9 33)))) (m_bt 42 (m_bt 39 (m_lf 38 (s_ald 39 0)) (m_lf 39 (s_get 42 9 34))) (m_bt 43 (m_lf 42 (s_ild 43 1)) (m_lf 43 (s_iast 44))))) (m_bt 50 (m_bt 46 (m_bt 45 (m_lf 44 (s_ald 45 0)) (m_lf 45 (s_dup 46))) (m_bt 49 (m_lf 46 (s_get 49 9 34)) (m_lf 49 (s_push 50 (.inl (1)))))) (m_bt 54 (m_bt 51 (m_lf 50 (s_bin 51 (fun x y => m_wrap (x + y)))) (m_lf 51 (s_put 54 9 34))) (m_bt 55 (m_lf 54 (s_ald 55 0)) (m_bt 58 (m_lf 55 (s_get 58 9 34)) (m_lf 58 (s_ret)))))))
theorem kX9_row_0 : kX9_row 0 = some (s_ild 1 1) := rfl
theorem kX9_row_1 : kX9_row 1 = some (s_push 2 (.inl (0))) := rfl
theorem kX9_row_2 : kX9_row 2 = some (s_push 5 (.inl (32767))) := rfl
theorem kX9_row_5 : kX9_row 5 = some (s_callS 8 3 wX9_within) := rfl
theorem kX9_row_8 : kX9_row 8 = some (s_ist 9 2) := rfl
theorem kX9_row_9 : kX9_row 9 = some (s_ild 10 2) := rfl
theorem kX9_row_10 : kX9_row 10 = some (s_if 13 24 (fun x => ¬ x = 0)) := rfl
theorem kX9_row_13 : kX9_row 13 = some (s_ald 14 0) := rfl
theorem kX9_row_14 : kX9_row 14 = some (s_get 17 9 34) := rfl
theorem kX9_row_17 : kX9_row 17 = some (s_push 18 (.inl (5))) := rfl
theorem kX9_row_18 : kX9_row 18 = some (s_icmp 21 24 (fun x y => ¬ x = y)) := rfl
theorem kX9_row_21 : kX9_row 21 = some (s_push 23 (.inl (-6))) := rfl
theorem kX9_row_23 : kX9_row 23 = some (s_ist 24 2) := rfl
theorem kX9_row_24 : kX9_row 24 = some (s_ild 25 2) := rfl
theorem kX9_row_25 : kX9_row 25 = some (s_if 28 34 (fun x => x = 0)) := rfl
theorem kX9_row_28 : kX9_row 28 = some (s_ald 29 0) := rfl
theorem kX9_row_29 : kX9_row 29 = some (s_ild 30 2) := rfl
theorem kX9_row_30 : kX9_row 30 = some (s_callV 33 2 9 wX9_refuse) := rfl
theorem kX9_row_33 : kX9_row 33 = some (s_ret) := rfl
theorem kX9_row_34 : kX9_row 34 = some (s_ald 35 0) := rfl
theorem kX9_row_35 : kX9_row 35 = some (s_get 38 9 33) := rfl
theorem kX9_row_38 : kX9_row 38 = some (s_ald 39 0) := rfl
theorem kX9_row_39 : kX9_row 39 = some (s_get 42 9 34) := rfl
theorem kX9_row_42 : kX9_row 42 = some (s_ild 43 1) := rfl
theorem kX9_row_43 : kX9_row 43 = some (s_iast 44) := rfl
theorem kX9_row_44 : kX9_row 44 = some (s_ald 45 0) := rfl
theorem kX9_row_45 : kX9_row 45 = some (s_dup 46) := rfl
theorem kX9_row_46 : kX9_row 46 = some (s_get 49 9 34) := rfl
theorem kX9_row_49 : kX9_row 49 = some (s_push 50 (.inl (1))) := rfl
theorem kX9_row_50 : kX9_row 50 = some (s_bin 51 (fun x y => m_wrap (x + y))) := rfl
theorem kX9_row_51 : kX9_row 51 = some (s_put 54 9 34) := rfl
theorem kX9_row_54 : kX9_row 54 = some (s_ald 55 0) := rfl
theorem kX9_row_55 : kX9_row 55 = some (s_get 58 9 34) := rfl
theorem kX9_row_58 : kX9_row 58 = some (s_ret) := rfl
def wX9_row : m_GK := m_wp 3 kX9_row
set_option maxRecDepth 100000 in
set_option maxHeartbeats 4000000 in
theorem sX9_row (l : Launch) (X : m_X) (hX : m_inj X.1) : m_Sound l X 2 yX9_row cX9_row 3 (some .int) wX9_row := m_sound_of hX (by decide) (fun p e s m args below meth c q C hr => m_bt_all (m_bt_all (m_bt_all (m_bt_all (m_bt_all (m_lf_all (o_iload_n C (i := 1) rfl dX9_row_0 rfl)) (m_lf_all (o_iconst C (x := (0)) (m_rngd rfl) dX9_row_1 rfl))) (m_bt_all (m_lf_all (o_sipush C (x := (32767)) (m_rngd rfl) rfl dX9_row_2 rfl)) (m_lf_all (o_callS C (sX9_within l X hX) (m_in_of [1100, 1101, 81] (by decide +kernel) (by decide +kernel)) (m_tb_of 1102 (by decide +kernel) rfl) (by decide +kernel) ⟨Nat.le_of_ble_eq_true rfl, Nat.le_of_ble_eq_true rfl⟩ dX9_row_5 rfl)))) (m_bt_all (m_bt_all (m_lf_all (o_istore_n C (i := 2) rfl dX9_row_8 rfl)) (m_lf_all (o_iload_n C (i := 2) rfl dX9_row_9 rfl))) (m_bt_all (m_lf_all (o_if_ne C dX9_row_10 rfl rfl)) (m_lf_all (o_aload_n C (i := 0) rfl dX9_row_13 rfl))))) (m_bt_all (m_bt_all (m_bt_all (m_lf_all (o_get C (ci := 9) (k := 34) (N := 35) (rf := RX9) (T := TX9) rfl ginX9 (Nat.le_of_ble_eq_true rfl) (m_tb_of 960 (by decide +kernel) rfl) dX9_row_14 rfl)) (m_lf_all (o_iconst C (x := (5)) (m_rngd rfl) dX9_row_17 rfl))) (m_bt_all (m_lf_all (o_icmp_ne C dX9_row_18 rfl rfl)) (m_lf_all (o_bipush C (x := (-6)) (m_rngd rfl) rfl dX9_row_21 rfl)))) (m_bt_all (m_bt_all (m_lf_all (o_istore_n C (i := 2) rfl dX9_row_23 rfl)) (m_lf_all (o_iload_n C (i := 2) rfl dX9_row_24 rfl))) (m_bt_all (m_lf_all (o_if_eq C dX9_row_25 rfl rfl)) (m_bt_all (m_lf_all (o_aload_n C (i := 0) rfl dX9_row_28 rfl)) (m_lf_all (o_iload_n C (i := 2) rfl dX9_row_29 rfl))))))) (m_bt_all (m_bt_all (m_bt_all (m_bt_all (m_lf_all (o_callV C (T := TX9) (N := 35) (sX9_refuse l X hX) rfl (m_in_of [1036, 1038, 30, 81] (by decide +kernel) (by decide +kernel)) (m_tb_of 1039 (by decide +kernel) rfl) (by decide +kernel) rfl ⟨Nat.le_of_ble_eq_true rfl, Nat.le_of_ble_eq_true rfl⟩ dX9_row_30 rfl)) (m_lf_all (o_iret C hr dX9_row_33))) (m_bt_all (m_lf_all (o_aload_n C (i := 0) rfl dX9_row_34 rfl)) (m_lf_all (o_get C (ci := 9) (k := 33) (N := 35) (rf := RX9) (T := TX9) rfl ginX9 (Nat.le_of_ble_eq_true rfl) (m_tb_of 959 (by decide +kernel) rfl) dX9_row_35 rfl)))) (m_bt_all (m_bt_all (m_lf_all (o_aload_n C (i := 0) rfl dX9_row_38 rfl)) (m_lf_all (o_get C (ci := 9) (k := 34) (N := 35) (rf := RX9) (T := TX9) rfl ginX9 (Nat.le_of_ble_eq_true rfl) (m_tb_of 960 (by decide +kernel) rfl) dX9_row_39 rfl))) (m_bt_all (m_lf_all (o_iload_n C (i := 1) rfl dX9_row_42 rfl)) (m_lf_all (o_iast C dX9_row_43 rfl))))) (m_bt_all (m_bt_all (m_bt_all (m_lf_all (o_aload_n C (i := 0) rfl dX9_row_44 rfl)) (m_lf_all (o_dup C dX9_row_45 rfl))) (m_bt_all (m_lf_all (o_get C (ci := 9) (k := 34) (N := 35) (rf := RX9) (T := TX9) rfl ginX9 (Nat.le_of_ble_eq_true rfl) (m_tb_of 960 (by decide +kernel) rfl) dX9_row_46 rfl)) (m_lf_all (o_iconst C (x := (1)) (m_rngd rfl) dX9_row_49 rfl)))) (m_bt_all (m_bt_all (m_lf_all (o_iadd C dX9_row_50 rfl)) (m_lf_all (o_put C (ci := 9) (k := 34) (N := 35) (rf := RX9) (T := TX9) rfl ginX9 (Nat.le_of_ble_eq_true rfl) (m_tb_of 960 (by decide +kernel) rfl) (ty0 := tyX9) tyX9_ok nmX9 rfl rfl dX9_row_51 rfl))) (m_bt_all (m_lf_all (o_aload_n C (i := 0) rfl dX9_row_54 rfl)) (m_bt_all (m_lf_all (o_get C (ci := 9) (k := 34) (N := 35) (rf := RX9) (T := TX9) rfl ginX9 (Nat.le_of_ble_eq_true rfl) (m_tb_of 960 (by decide +kernel) rfl) dX9_row_55 rfl)) (m_lf_all (o_iret C hr dX9_row_58))))))))
set_option maxRecDepth 20000 in
def kX9_judge : m_C := m_bt 45 (m_bt 22 (m_bt 11 (m_bt 5 (m_bt 1 (m_lf 0 (s_ald 1 0)) (m_bt 4 (m_lf 1 (s_get 4 9 34)) (m_lf 4 (s_ist 5 1)))) (m_bt 7 (m_bt 6 (m_lf 5 (s_ald 6 0)) (m_lf 6 (s_push 7 (.inl (0))))) (m_bt 10 (m_lf 7 (s_put 10 9 34)) (m_lf 10 (s_ald 11 0))))) (m_bt 16 (m_bt 14 (m_lf 11 (s_callV 14 1 9 wX9_plainDay)) (m_bt 15 (m_lf 14 (s_push 15 (.inl (0)))) (m_lf 15 (s_ist 16 2)))) (m_bt 18 (m_bt 17 (m_lf 16 (s_ild 17 2)) (m_lf 17 (s_ald 18 0))) (m_bt 21 (m_lf 18 (s_get 21 9 1)) (m_lf 21 (s_push 22 (.inl (0)))))))) (m_bt 33 (m_bt 27 (m_bt 23 (m_lf 22 (s_iald 23)) (m_bt 26 (m_lf 23 (s_icmp 26 76 (fun x y => y ≤ x))) (m_lf 26 (s_ild 27 2)))) (m_bt 31 (m_bt 28 (m_lf 27 (s_ild 28 1)) (m_lf 28 (s_icmp 31 33 (fun x y => ¬ x = y)))) (m_bt 32 (m_lf 31 (s_ild 32 1)) (m_lf 32 (s_ret))))) (m_bt 39 (m_bt 37 (m_bt 34 (m_lf 33 (s_ald 34 0)) (m_lf 34 (s_get 37 9 33))) (m_bt 38 (m_lf 37 (s_ild 38 2)) (m_lf 38 (s_iald 39)))) (m_bt 43 (m_bt 40 (m_lf 39 (s_ald 40 0)) (m_lf 40 (s_get 43 9 18))) (m_bt 44 (m_lf 43 (s_ild 44 2)) (m_lf 44 (s_iald 45))))))) (m_bt 70 (m_bt 58 (m_bt 52 (m_bt 48 (m_lf 45 (s_if 48 52 (fun x => ¬ x = 0))) (m_bt 49 (m_lf 48 (s_push 49 (.inl (0)))) (m_lf 49 (s_goto 65)))) (m_bt 56 (m_bt 53 (m_lf 52 (s_ald 53 0)) (m_lf 53 (s_get 56 9 17))) (m_bt 57 (m_lf 56 (s_ild 57 2)) (m_lf 57 (s_iald 58))))) (m_bt 64 (m_bt 62 (m_bt 59 (m_lf 58 (s_ald 59 0)) (m_lf 59 (s_get 62 9 18))) (m_bt 63 (m_lf 62 (s_ild 63 2)) (m_lf 63 (s_iald 64)))) (m_bt 68 (m_bt 65 (m_lf 64 (s_div 65)) (m_lf 65 (s_icmp 68 70 (fun x y => x = y)))) (m_bt 69 (m_lf 68 (s_ild 69 2)) (m_lf 69 (s_ret)))))) (m_bt 83 (m_bt 77 (m_bt 73 (m_lf 70 (s_inc 73 2 (1))) (m_bt 76 (m_lf 73 (s_goto 16)) (m_lf 76 (s_ild 77 1)))) (m_bt 81 (m_bt 78 (m_lf 77 (s_ald 78 0)) (m_lf 78 (s_get 81 9 1))) (m_bt 82 (m_lf 81 (s_push 82 (.inl (0)))) (m_lf 82 (s_iald 83))))) (m_bt 91 (m_bt 87 (m_bt 86 (m_lf 83 (s_icmp 86 95 (fun x y => x ≤ y))) (m_lf 86 (s_ald 87 0))) (m_bt 90 (m_lf 87 (s_get 90 9 1)) (m_lf 90 (s_push 91 (.inl (0)))))) (m_bt 95 (m_bt 92 (m_lf 91 (s_iald 92)) (m_lf 92 (s_goto 97))) (m_bt 97 (m_lf 95 (s_push 97 (.inl (-9)))) (m_lf 97 (s_ret)))))))
theorem kX9_judge_0 : kX9_judge 0 = some (s_ald 1 0) := rfl
theorem kX9_judge_1 : kX9_judge 1 = some (s_get 4 9 34) := rfl
theorem kX9_judge_4 : kX9_judge 4 = some (s_ist 5 1) := rfl
theorem kX9_judge_5 : kX9_judge 5 = some (s_ald 6 0) := rfl
theorem kX9_judge_6 : kX9_judge 6 = some (s_push 7 (.inl (0))) := rfl
theorem kX9_judge_7 : kX9_judge 7 = some (s_put 10 9 34) := rfl
theorem kX9_judge_10 : kX9_judge 10 = some (s_ald 11 0) := rfl
theorem kX9_judge_11 : kX9_judge 11 = some (s_callV 14 1 9 wX9_plainDay) := rfl
theorem kX9_judge_14 : kX9_judge 14 = some (s_push 15 (.inl (0))) := rfl
theorem kX9_judge_15 : kX9_judge 15 = some (s_ist 16 2) := rfl
theorem kX9_judge_16 : kX9_judge 16 = some (s_ild 17 2) := rfl
theorem kX9_judge_17 : kX9_judge 17 = some (s_ald 18 0) := rfl
theorem kX9_judge_18 : kX9_judge 18 = some (s_get 21 9 1) := rfl
theorem kX9_judge_21 : kX9_judge 21 = some (s_push 22 (.inl (0))) := rfl
theorem kX9_judge_22 : kX9_judge 22 = some (s_iald 23) := rfl
theorem kX9_judge_23 : kX9_judge 23 = some (s_icmp 26 76 (fun x y => y ≤ x)) := rfl
theorem kX9_judge_26 : kX9_judge 26 = some (s_ild 27 2) := rfl
theorem kX9_judge_27 : kX9_judge 27 = some (s_ild 28 1) := rfl
theorem kX9_judge_28 : kX9_judge 28 = some (s_icmp 31 33 (fun x y => ¬ x = y)) := rfl
theorem kX9_judge_31 : kX9_judge 31 = some (s_ild 32 1) := rfl
theorem kX9_judge_32 : kX9_judge 32 = some (s_ret) := rfl
theorem kX9_judge_33 : kX9_judge 33 = some (s_ald 34 0) := rfl
theorem kX9_judge_34 : kX9_judge 34 = some (s_get 37 9 33) := rfl
theorem kX9_judge_37 : kX9_judge 37 = some (s_ild 38 2) := rfl
theorem kX9_judge_38 : kX9_judge 38 = some (s_iald 39) := rfl
theorem kX9_judge_39 : kX9_judge 39 = some (s_ald 40 0) := rfl
theorem kX9_judge_40 : kX9_judge 40 = some (s_get 43 9 18) := rfl
theorem kX9_judge_43 : kX9_judge 43 = some (s_ild 44 2) := rfl
theorem kX9_judge_44 : kX9_judge 44 = some (s_iald 45) := rfl
theorem kX9_judge_45 : kX9_judge 45 = some (s_if 48 52 (fun x => ¬ x = 0)) := rfl
theorem kX9_judge_48 : kX9_judge 48 = some (s_push 49 (.inl (0))) := rfl
theorem kX9_judge_49 : kX9_judge 49 = some (s_goto 65) := rfl
theorem kX9_judge_52 : kX9_judge 52 = some (s_ald 53 0) := rfl
theorem kX9_judge_53 : kX9_judge 53 = some (s_get 56 9 17) := rfl
theorem kX9_judge_56 : kX9_judge 56 = some (s_ild 57 2) := rfl
theorem kX9_judge_57 : kX9_judge 57 = some (s_iald 58) := rfl
theorem kX9_judge_58 : kX9_judge 58 = some (s_ald 59 0) := rfl
theorem kX9_judge_59 : kX9_judge 59 = some (s_get 62 9 18) := rfl
theorem kX9_judge_62 : kX9_judge 62 = some (s_ild 63 2) := rfl
theorem kX9_judge_63 : kX9_judge 63 = some (s_iald 64) := rfl
theorem kX9_judge_64 : kX9_judge 64 = some (s_div 65) := rfl
theorem kX9_judge_65 : kX9_judge 65 = some (s_icmp 68 70 (fun x y => x = y)) := rfl
theorem kX9_judge_68 : kX9_judge 68 = some (s_ild 69 2) := rfl
theorem kX9_judge_69 : kX9_judge 69 = some (s_ret) := rfl
theorem kX9_judge_70 : kX9_judge 70 = some (s_inc 73 2 (1)) := rfl
theorem kX9_judge_73 : kX9_judge 73 = some (s_goto 16) := rfl
theorem kX9_judge_76 : kX9_judge 76 = some (s_ild 77 1) := rfl
theorem kX9_judge_77 : kX9_judge 77 = some (s_ald 78 0) := rfl
theorem kX9_judge_78 : kX9_judge 78 = some (s_get 81 9 1) := rfl
theorem kX9_judge_81 : kX9_judge 81 = some (s_push 82 (.inl (0))) := rfl
theorem kX9_judge_82 : kX9_judge 82 = some (s_iald 83) := rfl
theorem kX9_judge_83 : kX9_judge 83 = some (s_icmp 86 95 (fun x y => x ≤ y)) := rfl
theorem kX9_judge_86 : kX9_judge 86 = some (s_ald 87 0) := rfl
theorem kX9_judge_87 : kX9_judge 87 = some (s_get 90 9 1) := rfl
theorem kX9_judge_90 : kX9_judge 90 = some (s_push 91 (.inl (0))) := rfl
theorem kX9_judge_91 : kX9_judge 91 = some (s_iald 92) := rfl
theorem kX9_judge_92 : kX9_judge 92 = some (s_goto 97) := rfl
theorem kX9_judge_95 : kX9_judge 95 = some (s_push 97 (.inl (-9))) := rfl
theorem kX9_judge_97 : kX9_judge 97 = some (s_ret) := rfl
def wX9_judge : m_GK := m_wp 3 kX9_judge
set_option maxRecDepth 100000 in
set_option maxHeartbeats 4000000 in
theorem sX9_judge (l : Launch) (X : m_X) (hX : m_inj X.1) : m_Sound l X 10 yX9_judge cX9_judge 3 (some .int) wX9_judge := m_sound_of hX (by decide) (fun p e s m args below meth c q C hr => m_bt_all (m_bt_all (m_bt_all (m_bt_all (m_bt_all (m_lf_all (o_aload_n C (i := 0) rfl dX9_judge_0 rfl)) (m_bt_all (m_lf_all (o_get C (ci := 9) (k := 34) (N := 35) (rf := RX9) (T := TX9) rfl ginX9 (Nat.le_of_ble_eq_true rfl) (m_tb_of 960 (by decide +kernel) rfl) dX9_judge_1 rfl)) (m_lf_all (o_istore_n C (i := 1) rfl dX9_judge_4 rfl)))) (m_bt_all (m_bt_all (m_lf_all (o_aload_n C (i := 0) rfl dX9_judge_5 rfl)) (m_lf_all (o_iconst C (x := (0)) (m_rngd rfl) dX9_judge_6 rfl))) (m_bt_all (m_lf_all (o_put C (ci := 9) (k := 34) (N := 35) (rf := RX9) (T := TX9) rfl ginX9 (Nat.le_of_ble_eq_true rfl) (m_tb_of 960 (by decide +kernel) rfl) (ty0 := tyX9) tyX9_ok nmX9 rfl rfl dX9_judge_7 rfl)) (m_lf_all (o_aload_n C (i := 0) rfl dX9_judge_10 rfl))))) (m_bt_all (m_bt_all (m_lf_all (o_callV C (T := TX9) (N := 35) (sX9_plainDay l X hX) rfl (m_in_of [1213, 1215, 63, 81] (by decide +kernel) (by decide +kernel)) (m_tb_of 1216 (by decide +kernel) rfl) (by decide +kernel) rfl ⟨Nat.le_of_ble_eq_true rfl, Nat.le_of_ble_eq_true rfl⟩ dX9_judge_11 rfl)) (m_bt_all (m_lf_all (o_iconst C (x := (0)) (m_rngd rfl) dX9_judge_14 rfl)) (m_lf_all (o_istore_n C (i := 2) rfl dX9_judge_15 rfl)))) (m_bt_all (m_bt_all (m_lf_all (o_iload_n C (i := 2) rfl dX9_judge_16 rfl)) (m_lf_all (o_aload_n C (i := 0) rfl dX9_judge_17 rfl))) (m_bt_all (m_lf_all (o_get C (ci := 9) (k := 1) (N := 35) (rf := RX9) (T := TX9) rfl ginX9 (Nat.le_of_ble_eq_true rfl) (m_tb_of 927 (by decide +kernel) rfl) dX9_judge_18 rfl)) (m_lf_all (o_iconst C (x := (0)) (m_rngd rfl) dX9_judge_21 rfl)))))) (m_bt_all (m_bt_all (m_bt_all (m_lf_all (o_iald C dX9_judge_22 rfl)) (m_bt_all (m_lf_all (o_icmp_ge C dX9_judge_23 rfl rfl)) (m_lf_all (o_iload_n C (i := 2) rfl dX9_judge_26 rfl)))) (m_bt_all (m_bt_all (m_lf_all (o_iload_n C (i := 1) rfl dX9_judge_27 rfl)) (m_lf_all (o_icmp_ne C dX9_judge_28 rfl rfl))) (m_bt_all (m_lf_all (o_iload_n C (i := 1) rfl dX9_judge_31 rfl)) (m_lf_all (o_iret C hr dX9_judge_32))))) (m_bt_all (m_bt_all (m_bt_all (m_lf_all (o_aload_n C (i := 0) rfl dX9_judge_33 rfl)) (m_lf_all (o_get C (ci := 9) (k := 33) (N := 35) (rf := RX9) (T := TX9) rfl ginX9 (Nat.le_of_ble_eq_true rfl) (m_tb_of 959 (by decide +kernel) rfl) dX9_judge_34 rfl))) (m_bt_all (m_lf_all (o_iload_n C (i := 2) rfl dX9_judge_37 rfl)) (m_lf_all (o_iald C dX9_judge_38 rfl)))) (m_bt_all (m_bt_all (m_lf_all (o_aload_n C (i := 0) rfl dX9_judge_39 rfl)) (m_lf_all (o_get C (ci := 9) (k := 18) (N := 35) (rf := RX9) (T := TX9) rfl ginX9 (Nat.le_of_ble_eq_true rfl) (m_tb_of 944 (by decide +kernel) rfl) dX9_judge_40 rfl))) (m_bt_all (m_lf_all (o_iload_n C (i := 2) rfl dX9_judge_43 rfl)) (m_lf_all (o_iald C dX9_judge_44 rfl))))))) (m_bt_all (m_bt_all (m_bt_all (m_bt_all (m_lf_all (o_if_ne C dX9_judge_45 rfl rfl)) (m_bt_all (m_lf_all (o_iconst C (x := (0)) (m_rngd rfl) dX9_judge_48 rfl)) (m_lf_all (o_goto C dX9_judge_49 rfl)))) (m_bt_all (m_bt_all (m_lf_all (o_aload_n C (i := 0) rfl dX9_judge_52 rfl)) (m_lf_all (o_get C (ci := 9) (k := 17) (N := 35) (rf := RX9) (T := TX9) rfl ginX9 (Nat.le_of_ble_eq_true rfl) (m_tb_of 943 (by decide +kernel) rfl) dX9_judge_53 rfl))) (m_bt_all (m_lf_all (o_iload_n C (i := 2) rfl dX9_judge_56 rfl)) (m_lf_all (o_iald C dX9_judge_57 rfl))))) (m_bt_all (m_bt_all (m_bt_all (m_lf_all (o_aload_n C (i := 0) rfl dX9_judge_58 rfl)) (m_lf_all (o_get C (ci := 9) (k := 18) (N := 35) (rf := RX9) (T := TX9) rfl ginX9 (Nat.le_of_ble_eq_true rfl) (m_tb_of 944 (by decide +kernel) rfl) dX9_judge_59 rfl))) (m_bt_all (m_lf_all (o_iload_n C (i := 2) rfl dX9_judge_62 rfl)) (m_lf_all (o_iald C dX9_judge_63 rfl)))) (m_bt_all (m_bt_all (m_lf_all (o_idiv C dX9_judge_64 rfl)) (m_lf_all (o_icmp_eq C dX9_judge_65 rfl rfl))) (m_bt_all (m_lf_all (o_iload_n C (i := 2) rfl dX9_judge_68 rfl)) (m_lf_all (o_iret C hr dX9_judge_69)))))) (m_bt_all (m_bt_all (m_bt_all (m_lf_all (o_iinc C dX9_judge_70 rfl)) (m_bt_all (m_lf_all (o_goto C dX9_judge_73 rfl)) (m_lf_all (o_iload_n C (i := 1) rfl dX9_judge_76 rfl)))) (m_bt_all (m_bt_all (m_lf_all (o_aload_n C (i := 0) rfl dX9_judge_77 rfl)) (m_lf_all (o_get C (ci := 9) (k := 1) (N := 35) (rf := RX9) (T := TX9) rfl ginX9 (Nat.le_of_ble_eq_true rfl) (m_tb_of 927 (by decide +kernel) rfl) dX9_judge_78 rfl))) (m_bt_all (m_lf_all (o_iconst C (x := (0)) (m_rngd rfl) dX9_judge_81 rfl)) (m_lf_all (o_iald C dX9_judge_82 rfl))))) (m_bt_all (m_bt_all (m_bt_all (m_lf_all (o_icmp_le C dX9_judge_83 rfl rfl)) (m_lf_all (o_aload_n C (i := 0) rfl dX9_judge_86 rfl))) (m_bt_all (m_lf_all (o_get C (ci := 9) (k := 1) (N := 35) (rf := RX9) (T := TX9) rfl ginX9 (Nat.le_of_ble_eq_true rfl) (m_tb_of 927 (by decide +kernel) rfl) dX9_judge_87 rfl)) (m_lf_all (o_iconst C (x := (0)) (m_rngd rfl) dX9_judge_90 rfl)))) (m_bt_all (m_bt_all (m_lf_all (o_iald C dX9_judge_91 rfl)) (m_lf_all (o_goto C dX9_judge_92 rfl))) (m_bt_all (m_lf_all (o_bipush C (x := (-9)) (m_rngd rfl) rfl dX9_judge_95 rfl)) (m_lf_all (o_iret C hr dX9_judge_97))))))))
set_option maxRecDepth 20000 in
def kX9_image : m_C := m_bt 18 (m_bt 8 (m_bt 2 (m_bt 1 (m_lf 0 (s_push 1 (.inl (0)))) (m_lf 1 (s_ist 2 1))) (m_bt 3 (m_lf 2 (s_ild 3 1)) (m_bt 5 (m_lf 3 (s_push 5 (.inl (64)))) (m_lf 5 (s_icmp 8 26 (fun x y => y ≤ x)))))) (m_bt 13 (m_bt 9 (m_lf 8 (s_ald 9 0)) (m_bt 12 (m_lf 9 (s_get 12 9 2)) (m_lf 12 (s_ild 13 1)))) (m_bt 14 (m_lf 13 (s_ald 14 0)) (m_bt 17 (m_lf 14 (s_get 17 9 1)) (m_lf 17 (s_ild 18 1)))))) (m_bt 28 (m_bt 23 (m_bt 19 (m_lf 18 (s_iald 19)) (m_bt 20 (m_lf 19 (s_iast 20)) (m_lf 20 (s_inc 23 1 (1))))) (m_bt 26 (m_lf 23 (s_goto 2)) (m_bt 27 (m_lf 26 (s_ald 27 0)) (m_lf 27 (s_push 28 (.inl (1))))))) (m_bt 35 (m_bt 31 (m_lf 28 (s_putz 31 9 5)) (m_bt 32 (m_lf 31 (s_ald 32 0)) (m_lf 32 (s_get 35 9 1)))) (m_bt 36 (m_lf 35 (s_push 36 (.inl (1)))) (m_bt 37 (m_lf 36 (s_iald 37)) (m_lf 37 (s_ret))))))
theorem kX9_image_0 : kX9_image 0 = some (s_push 1 (.inl (0))) := rfl
theorem kX9_image_1 : kX9_image 1 = some (s_ist 2 1) := rfl
theorem kX9_image_2 : kX9_image 2 = some (s_ild 3 1) := rfl
theorem kX9_image_3 : kX9_image 3 = some (s_push 5 (.inl (64))) := rfl
theorem kX9_image_5 : kX9_image 5 = some (s_icmp 8 26 (fun x y => y ≤ x)) := rfl
theorem kX9_image_8 : kX9_image 8 = some (s_ald 9 0) := rfl
theorem kX9_image_9 : kX9_image 9 = some (s_get 12 9 2) := rfl
theorem kX9_image_12 : kX9_image 12 = some (s_ild 13 1) := rfl
theorem kX9_image_13 : kX9_image 13 = some (s_ald 14 0) := rfl
theorem kX9_image_14 : kX9_image 14 = some (s_get 17 9 1) := rfl
theorem kX9_image_17 : kX9_image 17 = some (s_ild 18 1) := rfl
theorem kX9_image_18 : kX9_image 18 = some (s_iald 19) := rfl
theorem kX9_image_19 : kX9_image 19 = some (s_iast 20) := rfl
theorem kX9_image_20 : kX9_image 20 = some (s_inc 23 1 (1)) := rfl
theorem kX9_image_23 : kX9_image 23 = some (s_goto 2) := rfl
theorem kX9_image_26 : kX9_image 26 = some (s_ald 27 0) := rfl
theorem kX9_image_27 : kX9_image 27 = some (s_push 28 (.inl (1))) := rfl
theorem kX9_image_28 : kX9_image 28 = some (s_putz 31 9 5) := rfl
theorem kX9_image_31 : kX9_image 31 = some (s_ald 32 0) := rfl
theorem kX9_image_32 : kX9_image 32 = some (s_get 35 9 1) := rfl
theorem kX9_image_35 : kX9_image 35 = some (s_push 36 (.inl (1))) := rfl
theorem kX9_image_36 : kX9_image 36 = some (s_iald 37) := rfl
theorem kX9_image_37 : kX9_image 37 = some (s_ret) := rfl
def wX9_image : m_GK := m_wp 2 kX9_image
set_option maxRecDepth 100000 in
set_option maxHeartbeats 4000000 in
theorem sX9_image (l : Launch) (X : m_X) (hX : m_inj X.1) : m_Sound l X 1 yX9_image cX9_image 2 (some .int) wX9_image := m_sound_of hX (by decide) (fun p e s m args below meth c q C hr => m_bt_all (m_bt_all (m_bt_all (m_bt_all (m_lf_all (o_iconst C (x := (0)) (m_rngd rfl) dX9_image_0 rfl)) (m_lf_all (o_istore_n C (i := 1) rfl dX9_image_1 rfl))) (m_bt_all (m_lf_all (o_iload_n C (i := 1) rfl dX9_image_2 rfl)) (m_bt_all (m_lf_all (o_bipush C (x := (64)) (m_rngd rfl) rfl dX9_image_3 rfl)) (m_lf_all (o_icmp_ge C dX9_image_5 rfl rfl))))) (m_bt_all (m_bt_all (m_lf_all (o_aload_n C (i := 0) rfl dX9_image_8 rfl)) (m_bt_all (m_lf_all (o_get C (ci := 9) (k := 2) (N := 35) (rf := RX9) (T := TX9) rfl ginX9 (Nat.le_of_ble_eq_true rfl) (m_tb_of 928 (by decide +kernel) rfl) dX9_image_9 rfl)) (m_lf_all (o_iload_n C (i := 1) rfl dX9_image_12 rfl)))) (m_bt_all (m_lf_all (o_aload_n C (i := 0) rfl dX9_image_13 rfl)) (m_bt_all (m_lf_all (o_get C (ci := 9) (k := 1) (N := 35) (rf := RX9) (T := TX9) rfl ginX9 (Nat.le_of_ble_eq_true rfl) (m_tb_of 927 (by decide +kernel) rfl) dX9_image_14 rfl)) (m_lf_all (o_iload_n C (i := 1) rfl dX9_image_17 rfl)))))) (m_bt_all (m_bt_all (m_bt_all (m_lf_all (o_iald C dX9_image_18 rfl)) (m_bt_all (m_lf_all (o_iast C dX9_image_19 rfl)) (m_lf_all (o_iinc C dX9_image_20 rfl)))) (m_bt_all (m_lf_all (o_goto C dX9_image_23 rfl)) (m_bt_all (m_lf_all (o_aload_n C (i := 0) rfl dX9_image_26 rfl)) (m_lf_all (o_iconst C (x := (1)) (m_rngd rfl) dX9_image_27 rfl))))) (m_bt_all (m_bt_all (m_lf_all (o_putz C (ci := 9) (k := 5) (N := 35) (rf := RX9) (T := TX9) rfl ginX9 (Nat.le_of_ble_eq_true rfl) (m_tb_of 931 (by decide +kernel) rfl) (ty0 := tyX9) tyX9_ok nmX9 rfl rfl dX9_image_28 rfl)) (m_bt_all (m_lf_all (o_aload_n C (i := 0) rfl dX9_image_31 rfl)) (m_lf_all (o_get C (ci := 9) (k := 1) (N := 35) (rf := RX9) (T := TX9) rfl ginX9 (Nat.le_of_ble_eq_true rfl) (m_tb_of 927 (by decide +kernel) rfl) dX9_image_32 rfl)))) (m_bt_all (m_lf_all (o_iconst C (x := (1)) (m_rngd rfl) dX9_image_35 rfl)) (m_bt_all (m_lf_all (o_iald C dX9_image_36 rfl)) (m_lf_all (o_iret C hr dX9_image_37)))))))
set_option maxRecDepth 20000 in
def kX9_on : m_C := m_bt 23 (m_bt 13 (m_bt 7 (m_bt 1 (m_lf 0 (s_ald 1 0)) (m_bt 4 (m_lf 1 (s_get 4 9 5)) (m_lf 4 (s_if 7 14 (fun x => ¬ x = 0))))) (m_bt 8 (m_lf 7 (s_ald 8 0)) (m_bt 10 (m_lf 8 (s_push 10 (.inl (-3)))) (m_lf 10 (s_callV 13 2 9 wX9_refuse))))) (m_bt 16 (m_bt 14 (m_lf 13 (s_ret)) (m_bt 15 (m_lf 14 (s_push 15 (.inl (0)))) (m_lf 15 (s_ist 16 1)))) (m_bt 19 (m_bt 17 (m_lf 16 (s_ild 17 1)) (m_lf 17 (s_push 19 (.inl (64))))) (m_bt 22 (m_lf 19 (s_icmp 22 40 (fun x y => y ≤ x))) (m_lf 22 (s_ald 23 0)))))) (m_bt 34 (m_bt 28 (m_bt 26 (m_lf 23 (s_get 26 9 1)) (m_bt 27 (m_lf 26 (s_ild 27 1)) (m_lf 27 (s_ald 28 0)))) (m_bt 32 (m_bt 31 (m_lf 28 (s_get 31 9 2)) (m_lf 31 (s_ild 32 1))) (m_bt 33 (m_lf 32 (s_iald 33)) (m_lf 33 (s_iast 34))))) (m_bt 41 (m_bt 37 (m_lf 34 (s_inc 37 1 (1))) (m_bt 40 (m_lf 37 (s_goto 16)) (m_lf 40 (s_ald 41 0)))) (m_bt 45 (m_bt 44 (m_lf 41 (s_get 44 9 1)) (m_lf 44 (s_push 45 (.inl (1))))) (m_bt 46 (m_lf 45 (s_iald 46)) (m_lf 46 (s_ret))))))
theorem kX9_on_0 : kX9_on 0 = some (s_ald 1 0) := rfl
theorem kX9_on_1 : kX9_on 1 = some (s_get 4 9 5) := rfl
theorem kX9_on_4 : kX9_on 4 = some (s_if 7 14 (fun x => ¬ x = 0)) := rfl
theorem kX9_on_7 : kX9_on 7 = some (s_ald 8 0) := rfl
theorem kX9_on_8 : kX9_on 8 = some (s_push 10 (.inl (-3))) := rfl
theorem kX9_on_10 : kX9_on 10 = some (s_callV 13 2 9 wX9_refuse) := rfl
theorem kX9_on_13 : kX9_on 13 = some (s_ret) := rfl
theorem kX9_on_14 : kX9_on 14 = some (s_push 15 (.inl (0))) := rfl
theorem kX9_on_15 : kX9_on 15 = some (s_ist 16 1) := rfl
theorem kX9_on_16 : kX9_on 16 = some (s_ild 17 1) := rfl
theorem kX9_on_17 : kX9_on 17 = some (s_push 19 (.inl (64))) := rfl
theorem kX9_on_19 : kX9_on 19 = some (s_icmp 22 40 (fun x y => y ≤ x)) := rfl
theorem kX9_on_22 : kX9_on 22 = some (s_ald 23 0) := rfl
theorem kX9_on_23 : kX9_on 23 = some (s_get 26 9 1) := rfl
theorem kX9_on_26 : kX9_on 26 = some (s_ild 27 1) := rfl
theorem kX9_on_27 : kX9_on 27 = some (s_ald 28 0) := rfl
theorem kX9_on_28 : kX9_on 28 = some (s_get 31 9 2) := rfl
theorem kX9_on_31 : kX9_on 31 = some (s_ild 32 1) := rfl
theorem kX9_on_32 : kX9_on 32 = some (s_iald 33) := rfl
theorem kX9_on_33 : kX9_on 33 = some (s_iast 34) := rfl
theorem kX9_on_34 : kX9_on 34 = some (s_inc 37 1 (1)) := rfl
theorem kX9_on_37 : kX9_on 37 = some (s_goto 16) := rfl
theorem kX9_on_40 : kX9_on 40 = some (s_ald 41 0) := rfl
theorem kX9_on_41 : kX9_on 41 = some (s_get 44 9 1) := rfl
theorem kX9_on_44 : kX9_on 44 = some (s_push 45 (.inl (1))) := rfl
theorem kX9_on_45 : kX9_on 45 = some (s_iald 46) := rfl
theorem kX9_on_46 : kX9_on 46 = some (s_ret) := rfl
def wX9_on : m_GK := m_wp 2 kX9_on
set_option maxRecDepth 100000 in
set_option maxHeartbeats 4000000 in
theorem sX9_on (l : Launch) (X : m_X) (hX : m_inj X.1) : m_Sound l X 2 yX9_on cX9_on 2 (some .int) wX9_on := m_sound_of hX (by decide) (fun p e s m args below meth c q C hr => m_bt_all (m_bt_all (m_bt_all (m_bt_all (m_lf_all (o_aload_n C (i := 0) rfl dX9_on_0 rfl)) (m_bt_all (m_lf_all (o_get C (ci := 9) (k := 5) (N := 35) (rf := RX9) (T := TX9) rfl ginX9 (Nat.le_of_ble_eq_true rfl) (m_tb_of 931 (by decide +kernel) rfl) dX9_on_1 rfl)) (m_lf_all (o_if_ne C dX9_on_4 rfl rfl)))) (m_bt_all (m_lf_all (o_aload_n C (i := 0) rfl dX9_on_7 rfl)) (m_bt_all (m_lf_all (o_bipush C (x := (-3)) (m_rngd rfl) rfl dX9_on_8 rfl)) (m_lf_all (o_callV C (T := TX9) (N := 35) (sX9_refuse l X hX) rfl (m_in_of [1036, 1038, 30, 81] (by decide +kernel) (by decide +kernel)) (m_tb_of 1039 (by decide +kernel) rfl) (by decide +kernel) rfl ⟨Nat.le_of_ble_eq_true rfl, Nat.le_of_ble_eq_true rfl⟩ dX9_on_10 rfl))))) (m_bt_all (m_bt_all (m_lf_all (o_iret C hr dX9_on_13)) (m_bt_all (m_lf_all (o_iconst C (x := (0)) (m_rngd rfl) dX9_on_14 rfl)) (m_lf_all (o_istore_n C (i := 1) rfl dX9_on_15 rfl)))) (m_bt_all (m_bt_all (m_lf_all (o_iload_n C (i := 1) rfl dX9_on_16 rfl)) (m_lf_all (o_bipush C (x := (64)) (m_rngd rfl) rfl dX9_on_17 rfl))) (m_bt_all (m_lf_all (o_icmp_ge C dX9_on_19 rfl rfl)) (m_lf_all (o_aload_n C (i := 0) rfl dX9_on_22 rfl)))))) (m_bt_all (m_bt_all (m_bt_all (m_lf_all (o_get C (ci := 9) (k := 1) (N := 35) (rf := RX9) (T := TX9) rfl ginX9 (Nat.le_of_ble_eq_true rfl) (m_tb_of 927 (by decide +kernel) rfl) dX9_on_23 rfl)) (m_bt_all (m_lf_all (o_iload_n C (i := 1) rfl dX9_on_26 rfl)) (m_lf_all (o_aload_n C (i := 0) rfl dX9_on_27 rfl)))) (m_bt_all (m_bt_all (m_lf_all (o_get C (ci := 9) (k := 2) (N := 35) (rf := RX9) (T := TX9) rfl ginX9 (Nat.le_of_ble_eq_true rfl) (m_tb_of 928 (by decide +kernel) rfl) dX9_on_28 rfl)) (m_lf_all (o_iload_n C (i := 1) rfl dX9_on_31 rfl))) (m_bt_all (m_lf_all (o_iald C dX9_on_32 rfl)) (m_lf_all (o_iast C dX9_on_33 rfl))))) (m_bt_all (m_bt_all (m_lf_all (o_iinc C dX9_on_34 rfl)) (m_bt_all (m_lf_all (o_goto C dX9_on_37 rfl)) (m_lf_all (o_aload_n C (i := 0) rfl dX9_on_40 rfl)))) (m_bt_all (m_bt_all (m_lf_all (o_get C (ci := 9) (k := 1) (N := 35) (rf := RX9) (T := TX9) rfl ginX9 (Nat.le_of_ble_eq_true rfl) (m_tb_of 927 (by decide +kernel) rfl) dX9_on_41 rfl)) (m_lf_all (o_iconst C (x := (1)) (m_rngd rfl) dX9_on_44 rfl))) (m_bt_all (m_lf_all (o_iald C dX9_on_45 rfl)) (m_lf_all (o_iret C hr dX9_on_46)))))))
set_option maxRecDepth 20000 in
def kX9_count : m_C := m_bt 132 (m_bt 83 (m_bt 23 (m_bt 13 (m_bt 6 (m_bt 1 (m_lf 0 (s_ild 1 1)) (m_bt 3 (m_lf 1 (s_push 3 (.inl (10)))) (m_lf 3 (s_icmp 6 22 (fun x y => x ≤ y))))) (m_bt 9 (m_bt 7 (m_lf 6 (s_ild 7 1)) (m_lf 7 (s_push 9 (.inl (17))))) (m_bt 12 (m_lf 9 (s_icmp 12 22 (fun x y => y ≤ x))) (m_lf 12 (s_ald 13 0))))) (m_bt 19 (m_bt 16 (m_lf 13 (s_get 16 9 0)) (m_bt 17 (m_lf 16 (s_ild 17 1)) (m_lf 17 (s_push 19 (.inl (10)))))) (m_bt 21 (m_bt 20 (m_lf 19 (s_bin 20 (fun x y => m_wrap (x - y)))) (m_lf 20 (s_iald 21))) (m_bt 22 (m_lf 21 (s_ret)) (m_lf 22 (s_push 23 (.inl (0)))))))) (m_bt 74 (m_bt 68 (m_bt 24 (m_lf 23 (s_ist 24 2)) (m_bt 25 (m_lf 24 (s_ild 25 1)) (m_lf 25 (s_sw [(0, 68), (1, 68), (2, 75), (3, 120), (4, 153), (5, 213), (6, 218)] 223)))) (m_bt 72 (m_bt 69 (m_lf 68 (s_ald 69 0)) (m_lf 69 (s_get 72 9 1))) (m_bt 73 (m_lf 72 (s_ild 73 1)) (m_lf 73 (s_iald 74))))) (m_bt 77 (m_bt 75 (m_lf 74 (s_ret)) (m_bt 76 (m_lf 75 (s_push 76 (.inl (0)))) (m_lf 76 (s_ist 77 3)))) (m_bt 79 (m_bt 78 (m_lf 77 (s_ild 78 3)) (m_lf 78 (s_ald 79 0))) (m_bt 82 (m_lf 79 (s_get 82 9 1)) (m_lf 82 (s_push 83 (.inl (0))))))))) (m_bt 106 (m_bt 96 (m_bt 88 (m_bt 84 (m_lf 83 (s_iald 84)) (m_bt 87 (m_lf 84 (s_icmp 87 118 (fun x y => y ≤ x))) (m_lf 87 (s_push 88 (.inl (0)))))) (m_bt 92 (m_bt 90 (m_lf 88 (s_ist 90 4)) (m_lf 90 (s_ild 92 4))) (m_bt 93 (m_lf 92 (s_push 93 (.inl (4)))) (m_lf 93 (s_icmp 96 112 (fun x y => y ≤ x)))))) (m_bt 100 (m_bt 97 (m_lf 96 (s_ild 97 2)) (m_bt 98 (m_lf 97 (s_ald 98 0)) (m_lf 98 (s_ild 100 4)))) (m_bt 104 (m_bt 101 (m_lf 100 (s_ild 101 3)) (m_lf 101 (s_callV 104 3 9 wX9_comeIn))) (m_bt 105 (m_lf 104 (s_bin 105 (fun x y => m_wrap (x + y)))) (m_lf 105 (s_ist 106 2)))))) (m_bt 121 (m_bt 115 (m_bt 109 (m_lf 106 (s_inc 109 4 (1))) (m_bt 112 (m_lf 109 (s_goto 90)) (m_lf 112 (s_inc 115 3 (1))))) (m_bt 119 (m_bt 118 (m_lf 115 (s_goto 77)) (m_lf 118 (s_ild 119 2))) (m_bt 120 (m_lf 119 (s_ret)) (m_lf 120 (s_ald 121 0))))) (m_bt 126 (m_bt 124 (m_lf 121 (s_callV 124 1 9 wX9_plainDay)) (m_bt 125 (m_lf 124 (s_push 125 (.inl (0)))) (m_lf 125 (s_ist 126 3)))) (m_bt 128 (m_bt 127 (m_lf 126 (s_ild 127 3)) (m_lf 127 (s_ald 128 0))) (m_bt 131 (m_lf 128 (s_get 131 9 1)) (m_lf 131 (s_push 132 (.inl (0)))))))))) (m_bt 176 (m_bt 154 (m_bt 143 (m_bt 137 (m_bt 133 (m_lf 132 (s_iald 133)) (m_bt 136 (m_lf 133 (s_icmp 136 151 (fun x y => y ≤ x))) (m_lf 136 (s_ild 137 2)))) (m_bt 141 (m_bt 138 (m_lf 137 (s_ald 138 0)) (m_lf 138 (s_get 141 9 19))) (m_bt 142 (m_lf 141 (s_ild 142 3)) (m_lf 142 (s_iald 143))))) (m_bt 148 (m_bt 144 (m_lf 143 (s_bin 144 (fun x y => m_wrap (x + y)))) (m_bt 145 (m_lf 144 (s_ist 145 2)) (m_lf 145 (s_inc 148 3 (1))))) (m_bt 152 (m_bt 151 (m_lf 148 (s_goto 126)) (m_lf 151 (s_ild 152 2))) (m_bt 153 (m_lf 152 (s_ret)) (m_lf 153 (s_push 154 (.inl (0)))))))) (m_bt 165 (m_bt 157 (m_bt 155 (m_lf 154 (s_ist 155 3)) (m_bt 156 (m_lf 155 (s_ild 156 3)) (m_lf 156 (s_ald 157 0)))) (m_bt 161 (m_bt 160 (m_lf 157 (s_get 160 9 1)) (m_lf 160 (s_push 161 (.inl (1))))) (m_bt 162 (m_lf 161 (s_iald 162)) (m_lf 162 (s_icmp 165 211 (fun x y => y ≤ x)))))) (m_bt 170 (m_bt 166 (m_lf 165 (s_push 166 (.inl (1)))) (m_bt 168 (m_lf 166 (s_ist 168 4)) (m_lf 168 (s_ild 170 4)))) (m_bt 174 (m_bt 171 (m_lf 170 (s_push 171 (.inl (4)))) (m_lf 171 (s_icmp 174 205 (fun x y => y ≤ x)))) (m_bt 175 (m_lf 174 (s_ild 175 2)) (m_lf 175 (s_ald 176 0))))))) (m_bt 198 (m_bt 187 (m_bt 182 (m_bt 179 (m_lf 176 (s_get 179 9 1)) (m_bt 181 (m_lf 179 (s_push 181 (.inl (40)))) (m_lf 181 (s_push 182 (.inl (4)))))) (m_bt 184 (m_bt 183 (m_lf 182 (s_ild 183 3)) (m_lf 183 (s_bin 184 (fun x y => m_wrap (x * y))))) (m_bt 185 (m_lf 184 (s_bin 185 (fun x y => m_wrap (x + y)))) (m_lf 185 (s_ild 187 4))))) (m_bt 192 (m_bt 188 (m_lf 187 (s_bin 188 (fun x y => m_wrap (x + y)))) (m_bt 189 (m_lf 188 (s_iald 189)) (m_lf 189 (s_if 192 196 (fun x => x < 0))))) (m_bt 196 (m_bt 193 (m_lf 192 (s_push 193 (.inl (1)))) (m_lf 193 (s_goto 197))) (m_bt 197 (m_lf 196 (s_push 197 (.inl (0)))) (m_lf 197 (s_bin 198 (fun x y => m_wrap (x + y)))))))) (m_bt 213 (m_bt 205 (m_bt 199 (m_lf 198 (s_ist 199 2)) (m_bt 202 (m_lf 199 (s_inc 202 4 (1))) (m_lf 202 (s_goto 168)))) (m_bt 211 (m_bt 208 (m_lf 205 (s_inc 208 3 (1))) (m_lf 208 (s_goto 155))) (m_bt 212 (m_lf 211 (s_ild 212 2)) (m_lf 212 (s_ret))))) (m_bt 219 (m_bt 217 (m_bt 214 (m_lf 213 (s_ald 214 0)) (m_lf 214 (s_get 217 9 34))) (m_bt 218 (m_lf 217 (s_ret)) (m_lf 218 (s_ald 219 0)))) (m_bt 223 (m_bt 222 (m_lf 219 (s_get 222 9 8)) (m_lf 222 (s_ret))) (m_bt 225 (m_lf 223 (s_push 225 (.inl (-9)))) (m_lf 225 (s_ret))))))))
theorem kX9_count_0 : kX9_count 0 = some (s_ild 1 1) := rfl
theorem kX9_count_1 : kX9_count 1 = some (s_push 3 (.inl (10))) := rfl
theorem kX9_count_3 : kX9_count 3 = some (s_icmp 6 22 (fun x y => x ≤ y)) := rfl
theorem kX9_count_6 : kX9_count 6 = some (s_ild 7 1) := rfl
theorem kX9_count_7 : kX9_count 7 = some (s_push 9 (.inl (17))) := rfl
theorem kX9_count_9 : kX9_count 9 = some (s_icmp 12 22 (fun x y => y ≤ x)) := rfl
theorem kX9_count_12 : kX9_count 12 = some (s_ald 13 0) := rfl
theorem kX9_count_13 : kX9_count 13 = some (s_get 16 9 0) := rfl
theorem kX9_count_16 : kX9_count 16 = some (s_ild 17 1) := rfl
theorem kX9_count_17 : kX9_count 17 = some (s_push 19 (.inl (10))) := rfl
theorem kX9_count_19 : kX9_count 19 = some (s_bin 20 (fun x y => m_wrap (x - y))) := rfl
theorem kX9_count_20 : kX9_count 20 = some (s_iald 21) := rfl
theorem kX9_count_21 : kX9_count 21 = some (s_ret) := rfl
theorem kX9_count_22 : kX9_count 22 = some (s_push 23 (.inl (0))) := rfl
theorem kX9_count_23 : kX9_count 23 = some (s_ist 24 2) := rfl
theorem kX9_count_24 : kX9_count 24 = some (s_ild 25 1) := rfl
theorem kX9_count_25 : kX9_count 25 = some (s_sw [(0, 68), (1, 68), (2, 75), (3, 120), (4, 153), (5, 213), (6, 218)] 223) := rfl
theorem kX9_count_68 : kX9_count 68 = some (s_ald 69 0) := rfl
theorem kX9_count_69 : kX9_count 69 = some (s_get 72 9 1) := rfl
theorem kX9_count_72 : kX9_count 72 = some (s_ild 73 1) := rfl
theorem kX9_count_73 : kX9_count 73 = some (s_iald 74) := rfl
theorem kX9_count_74 : kX9_count 74 = some (s_ret) := rfl
theorem kX9_count_75 : kX9_count 75 = some (s_push 76 (.inl (0))) := rfl
theorem kX9_count_76 : kX9_count 76 = some (s_ist 77 3) := rfl
theorem kX9_count_77 : kX9_count 77 = some (s_ild 78 3) := rfl
theorem kX9_count_78 : kX9_count 78 = some (s_ald 79 0) := rfl
theorem kX9_count_79 : kX9_count 79 = some (s_get 82 9 1) := rfl
theorem kX9_count_82 : kX9_count 82 = some (s_push 83 (.inl (0))) := rfl
theorem kX9_count_83 : kX9_count 83 = some (s_iald 84) := rfl
theorem kX9_count_84 : kX9_count 84 = some (s_icmp 87 118 (fun x y => y ≤ x)) := rfl
theorem kX9_count_87 : kX9_count 87 = some (s_push 88 (.inl (0))) := rfl
theorem kX9_count_88 : kX9_count 88 = some (s_ist 90 4) := rfl
theorem kX9_count_90 : kX9_count 90 = some (s_ild 92 4) := rfl
theorem kX9_count_92 : kX9_count 92 = some (s_push 93 (.inl (4))) := rfl
theorem kX9_count_93 : kX9_count 93 = some (s_icmp 96 112 (fun x y => y ≤ x)) := rfl
theorem kX9_count_96 : kX9_count 96 = some (s_ild 97 2) := rfl
theorem kX9_count_97 : kX9_count 97 = some (s_ald 98 0) := rfl
theorem kX9_count_98 : kX9_count 98 = some (s_ild 100 4) := rfl
theorem kX9_count_100 : kX9_count 100 = some (s_ild 101 3) := rfl
theorem kX9_count_101 : kX9_count 101 = some (s_callV 104 3 9 wX9_comeIn) := rfl
theorem kX9_count_104 : kX9_count 104 = some (s_bin 105 (fun x y => m_wrap (x + y))) := rfl
theorem kX9_count_105 : kX9_count 105 = some (s_ist 106 2) := rfl
theorem kX9_count_106 : kX9_count 106 = some (s_inc 109 4 (1)) := rfl
theorem kX9_count_109 : kX9_count 109 = some (s_goto 90) := rfl
theorem kX9_count_112 : kX9_count 112 = some (s_inc 115 3 (1)) := rfl
theorem kX9_count_115 : kX9_count 115 = some (s_goto 77) := rfl
theorem kX9_count_118 : kX9_count 118 = some (s_ild 119 2) := rfl
theorem kX9_count_119 : kX9_count 119 = some (s_ret) := rfl
theorem kX9_count_120 : kX9_count 120 = some (s_ald 121 0) := rfl
theorem kX9_count_121 : kX9_count 121 = some (s_callV 124 1 9 wX9_plainDay) := rfl
theorem kX9_count_124 : kX9_count 124 = some (s_push 125 (.inl (0))) := rfl
theorem kX9_count_125 : kX9_count 125 = some (s_ist 126 3) := rfl
theorem kX9_count_126 : kX9_count 126 = some (s_ild 127 3) := rfl
theorem kX9_count_127 : kX9_count 127 = some (s_ald 128 0) := rfl
theorem kX9_count_128 : kX9_count 128 = some (s_get 131 9 1) := rfl
theorem kX9_count_131 : kX9_count 131 = some (s_push 132 (.inl (0))) := rfl
theorem kX9_count_132 : kX9_count 132 = some (s_iald 133) := rfl
theorem kX9_count_133 : kX9_count 133 = some (s_icmp 136 151 (fun x y => y ≤ x)) := rfl
theorem kX9_count_136 : kX9_count 136 = some (s_ild 137 2) := rfl
theorem kX9_count_137 : kX9_count 137 = some (s_ald 138 0) := rfl
theorem kX9_count_138 : kX9_count 138 = some (s_get 141 9 19) := rfl
theorem kX9_count_141 : kX9_count 141 = some (s_ild 142 3) := rfl
theorem kX9_count_142 : kX9_count 142 = some (s_iald 143) := rfl
theorem kX9_count_143 : kX9_count 143 = some (s_bin 144 (fun x y => m_wrap (x + y))) := rfl
theorem kX9_count_144 : kX9_count 144 = some (s_ist 145 2) := rfl
theorem kX9_count_145 : kX9_count 145 = some (s_inc 148 3 (1)) := rfl
theorem kX9_count_148 : kX9_count 148 = some (s_goto 126) := rfl
theorem kX9_count_151 : kX9_count 151 = some (s_ild 152 2) := rfl
theorem kX9_count_152 : kX9_count 152 = some (s_ret) := rfl
theorem kX9_count_153 : kX9_count 153 = some (s_push 154 (.inl (0))) := rfl
theorem kX9_count_154 : kX9_count 154 = some (s_ist 155 3) := rfl
theorem kX9_count_155 : kX9_count 155 = some (s_ild 156 3) := rfl
theorem kX9_count_156 : kX9_count 156 = some (s_ald 157 0) := rfl
theorem kX9_count_157 : kX9_count 157 = some (s_get 160 9 1) := rfl
theorem kX9_count_160 : kX9_count 160 = some (s_push 161 (.inl (1))) := rfl
theorem kX9_count_161 : kX9_count 161 = some (s_iald 162) := rfl
theorem kX9_count_162 : kX9_count 162 = some (s_icmp 165 211 (fun x y => y ≤ x)) := rfl
theorem kX9_count_165 : kX9_count 165 = some (s_push 166 (.inl (1))) := rfl
theorem kX9_count_166 : kX9_count 166 = some (s_ist 168 4) := rfl
theorem kX9_count_168 : kX9_count 168 = some (s_ild 170 4) := rfl
theorem kX9_count_170 : kX9_count 170 = some (s_push 171 (.inl (4))) := rfl
theorem kX9_count_171 : kX9_count 171 = some (s_icmp 174 205 (fun x y => y ≤ x)) := rfl
theorem kX9_count_174 : kX9_count 174 = some (s_ild 175 2) := rfl
theorem kX9_count_175 : kX9_count 175 = some (s_ald 176 0) := rfl
theorem kX9_count_176 : kX9_count 176 = some (s_get 179 9 1) := rfl
theorem kX9_count_179 : kX9_count 179 = some (s_push 181 (.inl (40))) := rfl
theorem kX9_count_181 : kX9_count 181 = some (s_push 182 (.inl (4))) := rfl
theorem kX9_count_182 : kX9_count 182 = some (s_ild 183 3) := rfl
theorem kX9_count_183 : kX9_count 183 = some (s_bin 184 (fun x y => m_wrap (x * y))) := rfl
theorem kX9_count_184 : kX9_count 184 = some (s_bin 185 (fun x y => m_wrap (x + y))) := rfl
theorem kX9_count_185 : kX9_count 185 = some (s_ild 187 4) := rfl
theorem kX9_count_187 : kX9_count 187 = some (s_bin 188 (fun x y => m_wrap (x + y))) := rfl
theorem kX9_count_188 : kX9_count 188 = some (s_iald 189) := rfl
theorem kX9_count_189 : kX9_count 189 = some (s_if 192 196 (fun x => x < 0)) := rfl
theorem kX9_count_192 : kX9_count 192 = some (s_push 193 (.inl (1))) := rfl
theorem kX9_count_193 : kX9_count 193 = some (s_goto 197) := rfl
theorem kX9_count_196 : kX9_count 196 = some (s_push 197 (.inl (0))) := rfl
theorem kX9_count_197 : kX9_count 197 = some (s_bin 198 (fun x y => m_wrap (x + y))) := rfl
theorem kX9_count_198 : kX9_count 198 = some (s_ist 199 2) := rfl
theorem kX9_count_199 : kX9_count 199 = some (s_inc 202 4 (1)) := rfl
theorem kX9_count_202 : kX9_count 202 = some (s_goto 168) := rfl
theorem kX9_count_205 : kX9_count 205 = some (s_inc 208 3 (1)) := rfl
theorem kX9_count_208 : kX9_count 208 = some (s_goto 155) := rfl
theorem kX9_count_211 : kX9_count 211 = some (s_ild 212 2) := rfl
theorem kX9_count_212 : kX9_count 212 = some (s_ret) := rfl
theorem kX9_count_213 : kX9_count 213 = some (s_ald 214 0) := rfl
theorem kX9_count_214 : kX9_count 214 = some (s_get 217 9 34) := rfl
theorem kX9_count_217 : kX9_count 217 = some (s_ret) := rfl
theorem kX9_count_218 : kX9_count 218 = some (s_ald 219 0) := rfl
theorem kX9_count_219 : kX9_count 219 = some (s_get 222 9 8) := rfl
theorem kX9_count_222 : kX9_count 222 = some (s_ret) := rfl
theorem kX9_count_223 : kX9_count 223 = some (s_push 225 (.inl (-9))) := rfl
theorem kX9_count_225 : kX9_count 225 = some (s_ret) := rfl
def wX9_count : m_GK := m_wp 5 kX9_count
set_option maxRecDepth 100000 in
set_option maxHeartbeats 4000000 in
theorem sX9_count (l : Launch) (X : m_X) (hX : m_inj X.1) : m_Sound l X 10 yX9_count cX9_count 5 (some .int) wX9_count := m_sound_of hX (by decide) (fun p e s m args below meth c q C hr => m_bt_all (m_bt_all (m_bt_all (m_bt_all (m_bt_all (m_bt_all (m_lf_all (o_iload_n C (i := 1) rfl dX9_count_0 rfl)) (m_bt_all (m_lf_all (o_bipush C (x := (10)) (m_rngd rfl) rfl dX9_count_1 rfl)) (m_lf_all (o_icmp_le C dX9_count_3 rfl rfl)))) (m_bt_all (m_bt_all (m_lf_all (o_iload_n C (i := 1) rfl dX9_count_6 rfl)) (m_lf_all (o_bipush C (x := (17)) (m_rngd rfl) rfl dX9_count_7 rfl))) (m_bt_all (m_lf_all (o_icmp_ge C dX9_count_9 rfl rfl)) (m_lf_all (o_aload_n C (i := 0) rfl dX9_count_12 rfl))))) (m_bt_all (m_bt_all (m_lf_all (o_get C (ci := 9) (k := 0) (N := 35) (rf := RX9) (T := TX9) rfl ginX9 (Nat.le_of_ble_eq_true rfl) (m_tb_of 926 (by decide +kernel) rfl) dX9_count_13 rfl)) (m_bt_all (m_lf_all (o_iload_n C (i := 1) rfl dX9_count_16 rfl)) (m_lf_all (o_bipush C (x := (10)) (m_rngd rfl) rfl dX9_count_17 rfl)))) (m_bt_all (m_bt_all (m_lf_all (o_isub C dX9_count_19 rfl)) (m_lf_all (o_iald C dX9_count_20 rfl))) (m_bt_all (m_lf_all (o_iret C hr dX9_count_21)) (m_lf_all (o_iconst C (x := (0)) (m_rngd rfl) dX9_count_22 rfl)))))) (m_bt_all (m_bt_all (m_bt_all (m_lf_all (o_istore_n C (i := 2) rfl dX9_count_23 rfl)) (m_bt_all (m_lf_all (o_iload_n C (i := 1) rfl dX9_count_24 rfl)) (m_lf_all (o_tsw C dX9_count_25 rfl (by decide) (by decide +kernel))))) (m_bt_all (m_bt_all (m_lf_all (o_aload_n C (i := 0) rfl dX9_count_68 rfl)) (m_lf_all (o_get C (ci := 9) (k := 1) (N := 35) (rf := RX9) (T := TX9) rfl ginX9 (Nat.le_of_ble_eq_true rfl) (m_tb_of 927 (by decide +kernel) rfl) dX9_count_69 rfl))) (m_bt_all (m_lf_all (o_iload_n C (i := 1) rfl dX9_count_72 rfl)) (m_lf_all (o_iald C dX9_count_73 rfl))))) (m_bt_all (m_bt_all (m_lf_all (o_iret C hr dX9_count_74)) (m_bt_all (m_lf_all (o_iconst C (x := (0)) (m_rngd rfl) dX9_count_75 rfl)) (m_lf_all (o_istore_n C (i := 3) rfl dX9_count_76 rfl)))) (m_bt_all (m_bt_all (m_lf_all (o_iload_n C (i := 3) rfl dX9_count_77 rfl)) (m_lf_all (o_aload_n C (i := 0) rfl dX9_count_78 rfl))) (m_bt_all (m_lf_all (o_get C (ci := 9) (k := 1) (N := 35) (rf := RX9) (T := TX9) rfl ginX9 (Nat.le_of_ble_eq_true rfl) (m_tb_of 927 (by decide +kernel) rfl) dX9_count_79 rfl)) (m_lf_all (o_iconst C (x := (0)) (m_rngd rfl) dX9_count_82 rfl))))))) (m_bt_all (m_bt_all (m_bt_all (m_bt_all (m_lf_all (o_iald C dX9_count_83 rfl)) (m_bt_all (m_lf_all (o_icmp_ge C dX9_count_84 rfl rfl)) (m_lf_all (o_iconst C (x := (0)) (m_rngd rfl) dX9_count_87 rfl)))) (m_bt_all (m_bt_all (m_lf_all (o_istore C dX9_count_88 rfl)) (m_lf_all (o_iload C dX9_count_90 rfl))) (m_bt_all (m_lf_all (o_iconst C (x := (4)) (m_rngd rfl) dX9_count_92 rfl)) (m_lf_all (o_icmp_ge C dX9_count_93 rfl rfl))))) (m_bt_all (m_bt_all (m_lf_all (o_iload_n C (i := 2) rfl dX9_count_96 rfl)) (m_bt_all (m_lf_all (o_aload_n C (i := 0) rfl dX9_count_97 rfl)) (m_lf_all (o_iload C dX9_count_98 rfl)))) (m_bt_all (m_bt_all (m_lf_all (o_iload_n C (i := 3) rfl dX9_count_100 rfl)) (m_lf_all (o_callV C (T := TX9) (N := 35) (sX9_comeIn l X hX) rfl (m_in_of [1142, 1144, 47, 81] (by decide +kernel) (by decide +kernel)) (m_tb_of 1145 (by decide +kernel) rfl) (by decide +kernel) rfl ⟨Nat.le_of_ble_eq_true rfl, Nat.le_of_ble_eq_true rfl⟩ dX9_count_101 rfl))) (m_bt_all (m_lf_all (o_iadd C dX9_count_104 rfl)) (m_lf_all (o_istore_n C (i := 2) rfl dX9_count_105 rfl)))))) (m_bt_all (m_bt_all (m_bt_all (m_lf_all (o_iinc C dX9_count_106 rfl)) (m_bt_all (m_lf_all (o_goto C dX9_count_109 rfl)) (m_lf_all (o_iinc C dX9_count_112 rfl)))) (m_bt_all (m_bt_all (m_lf_all (o_goto C dX9_count_115 rfl)) (m_lf_all (o_iload_n C (i := 2) rfl dX9_count_118 rfl))) (m_bt_all (m_lf_all (o_iret C hr dX9_count_119)) (m_lf_all (o_aload_n C (i := 0) rfl dX9_count_120 rfl))))) (m_bt_all (m_bt_all (m_lf_all (o_callV C (T := TX9) (N := 35) (sX9_plainDay l X hX) rfl (m_in_of [1213, 1215, 63, 81] (by decide +kernel) (by decide +kernel)) (m_tb_of 1216 (by decide +kernel) rfl) (by decide +kernel) rfl ⟨Nat.le_of_ble_eq_true rfl, Nat.le_of_ble_eq_true rfl⟩ dX9_count_121 rfl)) (m_bt_all (m_lf_all (o_iconst C (x := (0)) (m_rngd rfl) dX9_count_124 rfl)) (m_lf_all (o_istore_n C (i := 3) rfl dX9_count_125 rfl)))) (m_bt_all (m_bt_all (m_lf_all (o_iload_n C (i := 3) rfl dX9_count_126 rfl)) (m_lf_all (o_aload_n C (i := 0) rfl dX9_count_127 rfl))) (m_bt_all (m_lf_all (o_get C (ci := 9) (k := 1) (N := 35) (rf := RX9) (T := TX9) rfl ginX9 (Nat.le_of_ble_eq_true rfl) (m_tb_of 927 (by decide +kernel) rfl) dX9_count_128 rfl)) (m_lf_all (o_iconst C (x := (0)) (m_rngd rfl) dX9_count_131 rfl)))))))) (m_bt_all (m_bt_all (m_bt_all (m_bt_all (m_bt_all (m_lf_all (o_iald C dX9_count_132 rfl)) (m_bt_all (m_lf_all (o_icmp_ge C dX9_count_133 rfl rfl)) (m_lf_all (o_iload_n C (i := 2) rfl dX9_count_136 rfl)))) (m_bt_all (m_bt_all (m_lf_all (o_aload_n C (i := 0) rfl dX9_count_137 rfl)) (m_lf_all (o_get C (ci := 9) (k := 19) (N := 35) (rf := RX9) (T := TX9) rfl ginX9 (Nat.le_of_ble_eq_true rfl) (m_tb_of 945 (by decide +kernel) rfl) dX9_count_138 rfl))) (m_bt_all (m_lf_all (o_iload_n C (i := 3) rfl dX9_count_141 rfl)) (m_lf_all (o_iald C dX9_count_142 rfl))))) (m_bt_all (m_bt_all (m_lf_all (o_iadd C dX9_count_143 rfl)) (m_bt_all (m_lf_all (o_istore_n C (i := 2) rfl dX9_count_144 rfl)) (m_lf_all (o_iinc C dX9_count_145 rfl)))) (m_bt_all (m_bt_all (m_lf_all (o_goto C dX9_count_148 rfl)) (m_lf_all (o_iload_n C (i := 2) rfl dX9_count_151 rfl))) (m_bt_all (m_lf_all (o_iret C hr dX9_count_152)) (m_lf_all (o_iconst C (x := (0)) (m_rngd rfl) dX9_count_153 rfl)))))) (m_bt_all (m_bt_all (m_bt_all (m_lf_all (o_istore_n C (i := 3) rfl dX9_count_154 rfl)) (m_bt_all (m_lf_all (o_iload_n C (i := 3) rfl dX9_count_155 rfl)) (m_lf_all (o_aload_n C (i := 0) rfl dX9_count_156 rfl)))) (m_bt_all (m_bt_all (m_lf_all (o_get C (ci := 9) (k := 1) (N := 35) (rf := RX9) (T := TX9) rfl ginX9 (Nat.le_of_ble_eq_true rfl) (m_tb_of 927 (by decide +kernel) rfl) dX9_count_157 rfl)) (m_lf_all (o_iconst C (x := (1)) (m_rngd rfl) dX9_count_160 rfl))) (m_bt_all (m_lf_all (o_iald C dX9_count_161 rfl)) (m_lf_all (o_icmp_ge C dX9_count_162 rfl rfl))))) (m_bt_all (m_bt_all (m_lf_all (o_iconst C (x := (1)) (m_rngd rfl) dX9_count_165 rfl)) (m_bt_all (m_lf_all (o_istore C dX9_count_166 rfl)) (m_lf_all (o_iload C dX9_count_168 rfl)))) (m_bt_all (m_bt_all (m_lf_all (o_iconst C (x := (4)) (m_rngd rfl) dX9_count_170 rfl)) (m_lf_all (o_icmp_ge C dX9_count_171 rfl rfl))) (m_bt_all (m_lf_all (o_iload_n C (i := 2) rfl dX9_count_174 rfl)) (m_lf_all (o_aload_n C (i := 0) rfl dX9_count_175 rfl))))))) (m_bt_all (m_bt_all (m_bt_all (m_bt_all (m_lf_all (o_get C (ci := 9) (k := 1) (N := 35) (rf := RX9) (T := TX9) rfl ginX9 (Nat.le_of_ble_eq_true rfl) (m_tb_of 927 (by decide +kernel) rfl) dX9_count_176 rfl)) (m_bt_all (m_lf_all (o_bipush C (x := (40)) (m_rngd rfl) rfl dX9_count_179 rfl)) (m_lf_all (o_iconst C (x := (4)) (m_rngd rfl) dX9_count_181 rfl)))) (m_bt_all (m_bt_all (m_lf_all (o_iload_n C (i := 3) rfl dX9_count_182 rfl)) (m_lf_all (o_imul C dX9_count_183 rfl))) (m_bt_all (m_lf_all (o_iadd C dX9_count_184 rfl)) (m_lf_all (o_iload C dX9_count_185 rfl))))) (m_bt_all (m_bt_all (m_lf_all (o_iadd C dX9_count_187 rfl)) (m_bt_all (m_lf_all (o_iald C dX9_count_188 rfl)) (m_lf_all (o_if_lt C dX9_count_189 rfl rfl)))) (m_bt_all (m_bt_all (m_lf_all (o_iconst C (x := (1)) (m_rngd rfl) dX9_count_192 rfl)) (m_lf_all (o_goto C dX9_count_193 rfl))) (m_bt_all (m_lf_all (o_iconst C (x := (0)) (m_rngd rfl) dX9_count_196 rfl)) (m_lf_all (o_iadd C dX9_count_197 rfl)))))) (m_bt_all (m_bt_all (m_bt_all (m_lf_all (o_istore_n C (i := 2) rfl dX9_count_198 rfl)) (m_bt_all (m_lf_all (o_iinc C dX9_count_199 rfl)) (m_lf_all (o_goto C dX9_count_202 rfl)))) (m_bt_all (m_bt_all (m_lf_all (o_iinc C dX9_count_205 rfl)) (m_lf_all (o_goto C dX9_count_208 rfl))) (m_bt_all (m_lf_all (o_iload_n C (i := 2) rfl dX9_count_211 rfl)) (m_lf_all (o_iret C hr dX9_count_212))))) (m_bt_all (m_bt_all (m_bt_all (m_lf_all (o_aload_n C (i := 0) rfl dX9_count_213 rfl)) (m_lf_all (o_get C (ci := 9) (k := 34) (N := 35) (rf := RX9) (T := TX9) rfl ginX9 (Nat.le_of_ble_eq_true rfl) (m_tb_of 960 (by decide +kernel) rfl) dX9_count_214 rfl))) (m_bt_all (m_lf_all (o_iret C hr dX9_count_217)) (m_lf_all (o_aload_n C (i := 0) rfl dX9_count_218 rfl)))) (m_bt_all (m_bt_all (m_lf_all (o_get C (ci := 9) (k := 8) (N := 35) (rf := RX9) (T := TX9) rfl ginX9 (Nat.le_of_ble_eq_true rfl) (m_tb_of 934 (by decide +kernel) rfl) dX9_count_219 rfl)) (m_lf_all (o_iret C hr dX9_count_222))) (m_bt_all (m_lf_all (o_bipush C (x := (-9)) (m_rngd rfl) rfl dX9_count_223 rfl)) (m_lf_all (o_iret C hr dX9_count_225)))))))))
