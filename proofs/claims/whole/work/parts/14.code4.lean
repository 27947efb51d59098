set_option maxRecDepth 20000 in
def kX8_image : m_C := m_bt 12 (m_bt 5 (m_bt 1 (m_lf 0 (s_ald 1 0)) (m_bt 4 (m_lf 1 (s_get 4 8 1)) (m_lf 4 (s_ald 5 0)))) (m_bt 8 (m_lf 5 (s_get 8 8 0)) (m_bt 11 (m_lf 8 (s_callV 11 2 2 wX2_copy)) (m_lf 11 (s_ald 12 0))))) (m_bt 17 (m_bt 13 (m_lf 12 (s_push 13 (.inl (1)))) (m_bt 16 (m_lf 13 (s_putz 16 8 10)) (m_lf 16 (s_ald 17 0)))) (m_bt 20 (m_lf 17 (s_get 20 8 0)) (m_bt 23 (m_lf 20 (s_get 23 2 1)) (m_lf 23 (s_ret)))))
theorem kX8_image_0 : kX8_image 0 = some (s_ald 1 0) := rfl
theorem kX8_image_1 : kX8_image 1 = some (s_get 4 8 1) := rfl
theorem kX8_image_4 : kX8_image 4 = some (s_ald 5 0) := rfl
theorem kX8_image_5 : kX8_image 5 = some (s_get 8 8 0) := rfl
theorem kX8_image_8 : kX8_image 8 = some (s_callV 11 2 2 wX2_copy) := rfl
theorem kX8_image_11 : kX8_image 11 = some (s_ald 12 0) := rfl
theorem kX8_image_12 : kX8_image 12 = some (s_push 13 (.inl (1))) := rfl
theorem kX8_image_13 : kX8_image 13 = some (s_putz 16 8 10) := rfl
theorem kX8_image_16 : kX8_image 16 = some (s_ald 17 0) := rfl
theorem kX8_image_17 : kX8_image 17 = some (s_get 20 8 0) := rfl
theorem kX8_image_20 : kX8_image 20 = some (s_get 23 2 1) := rfl
theorem kX8_image_23 : kX8_image 23 = some (s_ret) := rfl
def wX8_image : m_GK := m_wp 1 kX8_image
set_option maxRecDepth 100000 in
set_option maxHeartbeats 4000000 in
theorem sX8_image (l : Launch) (X : m_X) (hX : m_inj X.1) : m_Sound l X 2 yX8_image cX8_image 1 (some .int) wX8_image := m_sound_of hX (by decide) (fun p e s m args below meth c q C hr => m_bt_all (m_bt_all (m_bt_all (m_lf_all (o_aload_n C (i := 0) rfl dX8_image_0 rfl)) (m_bt_all (m_lf_all (o_get C (ci := 8) (k := 1) (N := 11) (rf := RX8) (T := TX8) rfl ginX8 (Nat.le_of_ble_eq_true rfl) (m_tb_of 362 (by decide +kernel) rfl) dX8_image_1 rfl)) (m_lf_all (o_aload_n C (i := 0) rfl dX8_image_4 rfl)))) (m_bt_all (m_lf_all (o_get C (ci := 8) (k := 0) (N := 11) (rf := RX8) (T := TX8) rfl ginX8 (Nat.le_of_ble_eq_true rfl) (m_tb_of 361 (by decide +kernel) rfl) dX8_image_5 rfl)) (m_bt_all (m_lf_all (o_callV C (T := TX2) (N := 8) (sX2_copy l X hX) rfl (m_in_of [902, 503, 504, 73] (by decide +kernel) (by decide +kernel)) (m_tb_of 505 (by decide +kernel) rfl) (by decide +kernel) rfl ⟨Nat.le_of_ble_eq_true rfl, Nat.le_of_ble_eq_true rfl⟩ dX8_image_8 rfl)) (m_lf_all (o_aload_n C (i := 0) rfl dX8_image_11 rfl))))) (m_bt_all (m_bt_all (m_lf_all (o_iconst C (x := (1)) (m_rngd rfl) dX8_image_12 rfl)) (m_bt_all (m_lf_all (o_putz C (ci := 8) (k := 10) (N := 11) (rf := RX8) (T := TX8) rfl ginX8 (Nat.le_of_ble_eq_true rfl) (m_tb_of 371 (by decide +kernel) rfl) (ty0 := tyX8) tyX8_ok nmX8 rfl rfl dX8_image_13 rfl)) (m_lf_all (o_aload_n C (i := 0) rfl dX8_image_16 rfl)))) (m_bt_all (m_lf_all (o_get C (ci := 8) (k := 0) (N := 11) (rf := RX8) (T := TX8) rfl ginX8 (Nat.le_of_ble_eq_true rfl) (m_tb_of 361 (by decide +kernel) rfl) dX8_image_17 rfl)) (m_bt_all (m_lf_all (o_get C (ci := 2) (k := 1) (N := 8) (rf := RX2) (T := TX2) rfl ginX2 (Nat.le_of_ble_eq_true rfl) (m_tb_of 115 (by decide +kernel) rfl) dX8_image_20 rfl)) (m_lf_all (o_iret C hr dX8_image_23))))))
set_option maxRecDepth 20000 in
def kX8_on : m_C := m_bt 15 (m_bt 8 (m_bt 4 (m_bt 1 (m_lf 0 (s_ald 1 0)) (m_lf 1 (s_get 4 8 10))) (m_bt 7 (m_lf 4 (s_if 7 14 (fun x => ¬ x = 0))) (m_lf 7 (s_ald 8 0)))) (m_bt 13 (m_bt 10 (m_lf 8 (s_push 10 (.inl (-3)))) (m_lf 10 (s_callV 13 2 8 wX8_refuse))) (m_bt 14 (m_lf 13 (s_ret)) (m_lf 14 (s_ald 15 0))))) (m_bt 25 (m_bt 19 (m_bt 18 (m_lf 15 (s_get 18 8 0)) (m_lf 18 (s_ald 19 0))) (m_bt 22 (m_lf 19 (s_get 22 8 1)) (m_lf 22 (s_callV 25 2 2 wX2_copy)))) (m_bt 29 (m_bt 26 (m_lf 25 (s_ald 26 0)) (m_lf 26 (s_get 29 8 0))) (m_bt 32 (m_lf 29 (s_get 32 2 1)) (m_lf 32 (s_ret)))))
theorem kX8_on_0 : kX8_on 0 = some (s_ald 1 0) := rfl
theorem kX8_on_1 : kX8_on 1 = some (s_get 4 8 10) := rfl
theorem kX8_on_4 : kX8_on 4 = some (s_if 7 14 (fun x => ¬ x = 0)) := rfl
theorem kX8_on_7 : kX8_on 7 = some (s_ald 8 0) := rfl
theorem kX8_on_8 : kX8_on 8 = some (s_push 10 (.inl (-3))) := rfl
theorem kX8_on_10 : kX8_on 10 = some (s_callV 13 2 8 wX8_refuse) := rfl
theorem kX8_on_13 : kX8_on 13 = some (s_ret) := rfl
theorem kX8_on_14 : kX8_on 14 = some (s_ald 15 0) := rfl
theorem kX8_on_15 : kX8_on 15 = some (s_get 18 8 0) := rfl
theorem kX8_on_18 : kX8_on 18 = some (s_ald 19 0) := rfl
theorem kX8_on_19 : kX8_on 19 = some (s_get 22 8 1) := rfl
theorem kX8_on_22 : kX8_on 22 = some (s_callV 25 2 2 wX2_copy) := rfl
theorem kX8_on_25 : kX8_on 25 = some (s_ald 26 0) := rfl
theorem kX8_on_26 : kX8_on 26 = some (s_get 29 8 0) := rfl
theorem kX8_on_29 : kX8_on 29 = some (s_get 32 2 1) := rfl
theorem kX8_on_32 : kX8_on 32 = some (s_ret) := rfl
def wX8_on : m_GK := m_wp 1 kX8_on
set_option maxRecDepth 100000 in
set_option maxHeartbeats 4000000 in
theorem sX8_on (l : Launch) (X : m_X) (hX : m_inj X.1) : m_Sound l X 2 yX8_on cX8_on 1 (some .int) wX8_on := m_sound_of hX (by decide) (fun p e s m args below meth c q C hr => m_bt_all (m_bt_all (m_bt_all (m_bt_all (m_lf_all (o_aload_n C (i := 0) rfl dX8_on_0 rfl)) (m_lf_all (o_get C (ci := 8) (k := 10) (N := 11) (rf := RX8) (T := TX8) rfl ginX8 (Nat.le_of_ble_eq_true rfl) (m_tb_of 371 (by decide +kernel) rfl) dX8_on_1 rfl))) (m_bt_all (m_lf_all (o_if_ne C dX8_on_4 rfl rfl)) (m_lf_all (o_aload_n C (i := 0) rfl dX8_on_7 rfl)))) (m_bt_all (m_bt_all (m_lf_all (o_bipush C (x := (-3)) (m_rngd rfl) rfl dX8_on_8 rfl)) (m_lf_all (o_callV C (T := TX8) (N := 11) (sX8_refuse l X hX) rfl (m_in_of [399, 401, 0, 72] (by decide +kernel) (by decide +kernel)) (m_tb_of 402 (by decide +kernel) rfl) (by decide +kernel) rfl ⟨Nat.le_of_ble_eq_true rfl, Nat.le_of_ble_eq_true rfl⟩ dX8_on_10 rfl))) (m_bt_all (m_lf_all (o_iret C hr dX8_on_13)) (m_lf_all (o_aload_n C (i := 0) rfl dX8_on_14 rfl))))) (m_bt_all (m_bt_all (m_bt_all (m_lf_all (o_get C (ci := 8) (k := 0) (N := 11) (rf := RX8) (T := TX8) rfl ginX8 (Nat.le_of_ble_eq_true rfl) (m_tb_of 361 (by decide +kernel) rfl) dX8_on_15 rfl)) (m_lf_all (o_aload_n C (i := 0) rfl dX8_on_18 rfl))) (m_bt_all (m_lf_all (o_get C (ci := 8) (k := 1) (N := 11) (rf := RX8) (T := TX8) rfl ginX8 (Nat.le_of_ble_eq_true rfl) (m_tb_of 362 (by decide +kernel) rfl) dX8_on_19 rfl)) (m_lf_all (o_callV C (T := TX2) (N := 8) (sX2_copy l X hX) rfl (m_in_of [902, 503, 504, 73] (by decide +kernel) (by decide +kernel)) (m_tb_of 505 (by decide +kernel) rfl) (by decide +kernel) rfl ⟨Nat.le_of_ble_eq_true rfl, Nat.le_of_ble_eq_true rfl⟩ dX8_on_22 rfl)))) (m_bt_all (m_bt_all (m_lf_all (o_aload_n C (i := 0) rfl dX8_on_25 rfl)) (m_lf_all (o_get C (ci := 8) (k := 0) (N := 11) (rf := RX8) (T := TX8) rfl ginX8 (Nat.le_of_ble_eq_true rfl) (m_tb_of 361 (by decide +kernel) rfl) dX8_on_26 rfl))) (m_bt_all (m_lf_all (o_get C (ci := 2) (k := 1) (N := 8) (rf := RX2) (T := TX2) rfl ginX2 (Nat.le_of_ble_eq_true rfl) (m_tb_of 115 (by decide +kernel) rfl) dX8_on_29 rfl)) (m_lf_all (o_iret C hr dX8_on_32))))))
set_option maxRecDepth 20000 in
def kX8_count : m_C := m_bt 88 (m_bt 64 (m_bt 52 (m_bt 45 (m_bt 1 (m_lf 0 (s_ild 1 1)) (m_bt 44 (m_lf 1 (s_sw [(0, 44), (1, 52), (2, 60), (3, 68), (4, 87), (5, 95), (6, 100)] 108)) (m_lf 44 (s_ald 45 0)))) (m_bt 48 (m_lf 45 (s_get 48 8 0)) (m_bt 51 (m_lf 48 (s_get 51 2 0)) (m_lf 51 (s_ret))))) (m_bt 59 (m_bt 53 (m_lf 52 (s_ald 53 0)) (m_bt 56 (m_lf 53 (s_get 56 8 0)) (m_lf 56 (s_get 59 2 1)))) (m_bt 60 (m_lf 59 (s_ret)) (m_bt 61 (m_lf 60 (s_ald 61 0)) (m_lf 61 (s_get 64 8 0)))))) (m_bt 76 (m_bt 69 (m_bt 67 (m_lf 64 (s_callV 67 1 2 wX2_allComers)) (m_bt 68 (m_lf 67 (s_ret)) (m_lf 68 (s_ald 69 0)))) (m_bt 72 (m_lf 69 (s_get 72 8 3)) (m_bt 73 (m_lf 72 (s_ald 73 0)) (m_lf 73 (s_get 76 8 0))))) (m_bt 83 (m_bt 79 (m_lf 76 (s_callV 79 2 1 wX1_run)) (m_bt 80 (m_lf 79 (s_ald 80 0)) (m_lf 80 (s_get 83 8 3)))) (m_bt 86 (m_lf 83 (s_callV 86 1 1 wX1_allLeft)) (m_bt 87 (m_lf 86 (s_ret)) (m_lf 87 (s_ald 88 0))))))) (m_bt 111 (m_bt 100 (m_bt 95 (m_bt 91 (m_lf 88 (s_get 91 8 0)) (m_bt 94 (m_lf 91 (s_callV 94 1 2 wX2_changes)) (m_lf 94 (s_ret)))) (m_bt 96 (m_lf 95 (s_ald 96 0)) (m_bt 99 (m_lf 96 (s_get 99 8 9)) (m_lf 99 (s_ret))))) (m_bt 107 (m_bt 101 (m_lf 100 (s_ald 101 0)) (m_bt 104 (m_lf 101 (s_get 104 8 2)) (m_lf 104 (s_get 107 6 0)))) (m_bt 108 (m_lf 107 (s_ret)) (m_bt 109 (m_lf 108 (s_ild 109 1)) (m_lf 109 (s_push 111 (.inl (10)))))))) (m_bt 124 (m_bt 117 (m_bt 114 (m_lf 111 (s_icmp 114 132 (fun x y => x ≤ y))) (m_bt 115 (m_lf 114 (s_ild 115 1)) (m_lf 115 (s_push 117 (.inl (16)))))) (m_bt 120 (m_lf 117 (s_icmp 120 132 (fun x y => y < x))) (m_bt 121 (m_lf 120 (s_ald 121 0)) (m_lf 121 (s_get 124 8 8))))) (m_bt 128 (m_bt 125 (m_lf 124 (s_ild 125 1)) (m_bt 127 (m_lf 125 (s_push 127 (.inl (10)))) (m_lf 127 (s_bin 128 (fun x y => m_wrap (x - y)))))) (m_bt 132 (m_bt 129 (m_lf 128 (s_iald 129)) (m_lf 129 (s_goto 134))) (m_bt 134 (m_lf 132 (s_push 134 (.inl (-9)))) (m_lf 134 (s_ret)))))))
theorem kX8_count_0 : kX8_count 0 = some (s_ild 1 1) := rfl
theorem kX8_count_1 : kX8_count 1 = some (s_sw [(0, 44), (1, 52), (2, 60), (3, 68), (4, 87), (5, 95), (6, 100)] 108) := rfl
theorem kX8_count_44 : kX8_count 44 = some (s_ald 45 0) := rfl
theorem kX8_count_45 : kX8_count 45 = some (s_get 48 8 0) := rfl
theorem kX8_count_48 : kX8_count 48 = some (s_get 51 2 0) := rfl
theorem kX8_count_51 : kX8_count 51 = some (s_ret) := rfl
theorem kX8_count_52 : kX8_count 52 = some (s_ald 53 0) := rfl
theorem kX8_count_53 : kX8_count 53 = some (s_get 56 8 0) := rfl
theorem kX8_count_56 : kX8_count 56 = some (s_get 59 2 1) := rfl
theorem kX8_count_59 : kX8_count 59 = some (s_ret) := rfl
theorem kX8_count_60 : kX8_count 60 = some (s_ald 61 0) := rfl
theorem kX8_count_61 : kX8_count 61 = some (s_get 64 8 0) := rfl
theorem kX8_count_64 : kX8_count 64 = some (s_callV 67 1 2 wX2_allComers) := rfl
theorem kX8_count_67 : kX8_count 67 = some (s_ret) := rfl
theorem kX8_count_68 : kX8_count 68 = some (s_ald 69 0) := rfl
theorem kX8_count_69 : kX8_count 69 = some (s_get 72 8 3) := rfl
theorem kX8_count_72 : kX8_count 72 = some (s_ald 73 0) := rfl
theorem kX8_count_73 : kX8_count 73 = some (s_get 76 8 0) := rfl
theorem kX8_count_76 : kX8_count 76 = some (s_callV 79 2 1 wX1_run) := rfl
theorem kX8_count_79 : kX8_count 79 = some (s_ald 80 0) := rfl
theorem kX8_count_80 : kX8_count 80 = some (s_get 83 8 3) := rfl
theorem kX8_count_83 : kX8_count 83 = some (s_callV 86 1 1 wX1_allLeft) := rfl
theorem kX8_count_86 : kX8_count 86 = some (s_ret) := rfl
theorem kX8_count_87 : kX8_count 87 = some (s_ald 88 0) := rfl
theorem kX8_count_88 : kX8_count 88 = some (s_get 91 8 0) := rfl
theorem kX8_count_91 : kX8_count 91 = some (s_callV 94 1 2 wX2_changes) := rfl
theorem kX8_count_94 : kX8_count 94 = some (s_ret) := rfl
theorem kX8_count_95 : kX8_count 95 = some (s_ald 96 0) := rfl
theorem kX8_count_96 : kX8_count 96 = some (s_get 99 8 9) := rfl
theorem kX8_count_99 : kX8_count 99 = some (s_ret) := rfl
theorem kX8_count_100 : kX8_count 100 = some (s_ald 101 0) := rfl
theorem kX8_count_101 : kX8_count 101 = some (s_get 104 8 2) := rfl
theorem kX8_count_104 : kX8_count 104 = some (s_get 107 6 0) := rfl
theorem kX8_count_107 : kX8_count 107 = some (s_ret) := rfl
theorem kX8_count_108 : kX8_count 108 = some (s_ild 109 1) := rfl
theorem kX8_count_109 : kX8_count 109 = some (s_push 111 (.inl (10))) := rfl
theorem kX8_count_111 : kX8_count 111 = some (s_icmp 114 132 (fun x y => x ≤ y)) := rfl
theorem kX8_count_114 : kX8_count 114 = some (s_ild 115 1) := rfl
theorem kX8_count_115 : kX8_count 115 = some (s_push 117 (.inl (16))) := rfl
theorem kX8_count_117 : kX8_count 117 = some (s_icmp 120 132 (fun x y => y < x)) := rfl
theorem kX8_count_120 : kX8_count 120 = some (s_ald 121 0) := rfl
theorem kX8_count_121 : kX8_count 121 = some (s_get 124 8 8) := rfl
theorem kX8_count_124 : kX8_count 124 = some (s_ild 125 1) := rfl
theorem kX8_count_125 : kX8_count 125 = some (s_push 127 (.inl (10))) := rfl
theorem kX8_count_127 : kX8_count 127 = some (s_bin 128 (fun x y => m_wrap (x - y))) := rfl
theorem kX8_count_128 : kX8_count 128 = some (s_iald 129) := rfl
theorem kX8_count_129 : kX8_count 129 = some (s_goto 134) := rfl
theorem kX8_count_132 : kX8_count 132 = some (s_push 134 (.inl (-9))) := rfl
theorem kX8_count_134 : kX8_count 134 = some (s_ret) := rfl
def wX8_count : m_GK := m_wp 2 kX8_count
set_option maxRecDepth 100000 in
set_option maxHeartbeats 4000000 in
theorem sX8_count (l : Launch) (X : m_X) (hX : m_inj X.1) : m_Sound l X 6 yX8_count cX8_count 2 (some .int) wX8_count := m_sound_of hX (by decide) (fun p e s m args below meth c q C hr => m_bt_all (m_bt_all (m_bt_all (m_bt_all (m_bt_all (m_lf_all (o_iload_n C (i := 1) rfl dX8_count_0 rfl)) (m_bt_all (m_lf_all (o_tsw C dX8_count_1 rfl (by decide) (by decide +kernel))) (m_lf_all (o_aload_n C (i := 0) rfl dX8_count_44 rfl)))) (m_bt_all (m_lf_all (o_get C (ci := 8) (k := 0) (N := 11) (rf := RX8) (T := TX8) rfl ginX8 (Nat.le_of_ble_eq_true rfl) (m_tb_of 361 (by decide +kernel) rfl) dX8_count_45 rfl)) (m_bt_all (m_lf_all (o_get C (ci := 2) (k := 0) (N := 8) (rf := RX2) (T := TX2) rfl ginX2 (Nat.le_of_ble_eq_true rfl) (m_tb_of 109 (by decide +kernel) rfl) dX8_count_48 rfl)) (m_lf_all (o_iret C hr dX8_count_51))))) (m_bt_all (m_bt_all (m_lf_all (o_aload_n C (i := 0) rfl dX8_count_52 rfl)) (m_bt_all (m_lf_all (o_get C (ci := 8) (k := 0) (N := 11) (rf := RX8) (T := TX8) rfl ginX8 (Nat.le_of_ble_eq_true rfl) (m_tb_of 361 (by decide +kernel) rfl) dX8_count_53 rfl)) (m_lf_all (o_get C (ci := 2) (k := 1) (N := 8) (rf := RX2) (T := TX2) rfl ginX2 (Nat.le_of_ble_eq_true rfl) (m_tb_of 115 (by decide +kernel) rfl) dX8_count_56 rfl)))) (m_bt_all (m_lf_all (o_iret C hr dX8_count_59)) (m_bt_all (m_lf_all (o_aload_n C (i := 0) rfl dX8_count_60 rfl)) (m_lf_all (o_get C (ci := 8) (k := 0) (N := 11) (rf := RX8) (T := TX8) rfl ginX8 (Nat.le_of_ble_eq_true rfl) (m_tb_of 361 (by decide +kernel) rfl) dX8_count_61 rfl)))))) (m_bt_all (m_bt_all (m_bt_all (m_lf_all (o_callV C (T := TX2) (N := 8) (sX2_allComers l X hX) rfl (m_in_of [911, 611, 612, 73] (by decide +kernel) (by decide +kernel)) (m_tb_of 613 (by decide +kernel) rfl) (by decide +kernel) rfl ⟨Nat.le_of_ble_eq_true rfl, Nat.le_of_ble_eq_true rfl⟩ dX8_count_64 rfl)) (m_bt_all (m_lf_all (o_iret C hr dX8_count_67)) (m_lf_all (o_aload_n C (i := 0) rfl dX8_count_68 rfl)))) (m_bt_all (m_lf_all (o_get C (ci := 8) (k := 3) (N := 11) (rf := RX8) (T := TX8) rfl ginX8 (Nat.le_of_ble_eq_true rfl) (m_tb_of 364 (by decide +kernel) rfl) dX8_count_69 rfl)) (m_bt_all (m_lf_all (o_aload_n C (i := 0) rfl dX8_count_72 rfl)) (m_lf_all (o_get C (ci := 8) (k := 0) (N := 11) (rf := RX8) (T := TX8) rfl ginX8 (Nat.le_of_ble_eq_true rfl) (m_tb_of 361 (by decide +kernel) rfl) dX8_count_73 rfl))))) (m_bt_all (m_bt_all (m_lf_all (o_callV C (T := TX1) (N := 11) (sX1_run l X hX) rfl (m_in_of [594, 595, 596, 75] (by decide +kernel) (by decide +kernel)) (m_tb_of 597 (by decide +kernel) rfl) (by decide +kernel) rfl ⟨Nat.le_of_ble_eq_true rfl, Nat.le_of_ble_eq_true rfl⟩ dX8_count_76 rfl)) (m_bt_all (m_lf_all (o_aload_n C (i := 0) rfl dX8_count_79 rfl)) (m_lf_all (o_get C (ci := 8) (k := 3) (N := 11) (rf := RX8) (T := TX8) rfl ginX8 (Nat.le_of_ble_eq_true rfl) (m_tb_of 364 (by decide +kernel) rfl) dX8_count_80 rfl)))) (m_bt_all (m_lf_all (o_callV C (T := TX1) (N := 11) (sX1_allLeft l X hX) rfl (m_in_of [912, 913, 914, 75] (by decide +kernel) (by decide +kernel)) (m_tb_of 915 (by decide +kernel) rfl) (by decide +kernel) rfl ⟨Nat.le_of_ble_eq_true rfl, Nat.le_of_ble_eq_true rfl⟩ dX8_count_83 rfl)) (m_bt_all (m_lf_all (o_iret C hr dX8_count_86)) (m_lf_all (o_aload_n C (i := 0) rfl dX8_count_87 rfl))))))) (m_bt_all (m_bt_all (m_bt_all (m_bt_all (m_lf_all (o_get C (ci := 8) (k := 0) (N := 11) (rf := RX8) (T := TX8) rfl ginX8 (Nat.le_of_ble_eq_true rfl) (m_tb_of 361 (by decide +kernel) rfl) dX8_count_88 rfl)) (m_bt_all (m_lf_all (o_callV C (T := TX2) (N := 8) (sX2_changes l X hX) rfl (m_in_of [916, 917, 918, 73] (by decide +kernel) (by decide +kernel)) (m_tb_of 919 (by decide +kernel) rfl) (by decide +kernel) rfl ⟨Nat.le_of_ble_eq_true rfl, Nat.le_of_ble_eq_true rfl⟩ dX8_count_91 rfl)) (m_lf_all (o_iret C hr dX8_count_94)))) (m_bt_all (m_lf_all (o_aload_n C (i := 0) rfl dX8_count_95 rfl)) (m_bt_all (m_lf_all (o_get C (ci := 8) (k := 9) (N := 11) (rf := RX8) (T := TX8) rfl ginX8 (Nat.le_of_ble_eq_true rfl) (m_tb_of 370 (by decide +kernel) rfl) dX8_count_96 rfl)) (m_lf_all (o_iret C hr dX8_count_99))))) (m_bt_all (m_bt_all (m_lf_all (o_aload_n C (i := 0) rfl dX8_count_100 rfl)) (m_bt_all (m_lf_all (o_get C (ci := 8) (k := 2) (N := 11) (rf := RX8) (T := TX8) rfl ginX8 (Nat.le_of_ble_eq_true rfl) (m_tb_of 363 (by decide +kernel) rfl) dX8_count_101 rfl)) (m_lf_all (o_get C (ci := 6) (k := 0) (N := 6) (rf := RX6) (T := TX6) rfl ginX6 (Nat.le_of_ble_eq_true rfl) (m_tb_of 157 (by decide +kernel) rfl) dX8_count_104 rfl)))) (m_bt_all (m_lf_all (o_iret C hr dX8_count_107)) (m_bt_all (m_lf_all (o_iload_n C (i := 1) rfl dX8_count_108 rfl)) (m_lf_all (o_bipush C (x := (10)) (m_rngd rfl) rfl dX8_count_109 rfl)))))) (m_bt_all (m_bt_all (m_bt_all (m_lf_all (o_icmp_le C dX8_count_111 rfl rfl)) (m_bt_all (m_lf_all (o_iload_n C (i := 1) rfl dX8_count_114 rfl)) (m_lf_all (o_bipush C (x := (16)) (m_rngd rfl) rfl dX8_count_115 rfl)))) (m_bt_all (m_lf_all (o_icmp_gt C dX8_count_117 rfl rfl)) (m_bt_all (m_lf_all (o_aload_n C (i := 0) rfl dX8_count_120 rfl)) (m_lf_all (o_get C (ci := 8) (k := 8) (N := 11) (rf := RX8) (T := TX8) rfl ginX8 (Nat.le_of_ble_eq_true rfl) (m_tb_of 369 (by decide +kernel) rfl) dX8_count_121 rfl))))) (m_bt_all (m_bt_all (m_lf_all (o_iload_n C (i := 1) rfl dX8_count_124 rfl)) (m_bt_all (m_lf_all (o_bipush C (x := (10)) (m_rngd rfl) rfl dX8_count_125 rfl)) (m_lf_all (o_isub C dX8_count_127 rfl)))) (m_bt_all (m_bt_all (m_lf_all (o_iald C dX8_count_128 rfl)) (m_lf_all (o_goto C dX8_count_129 rfl))) (m_bt_all (m_lf_all (o_bipush C (x := (-9)) (m_rngd rfl) rfl dX8_count_132 rfl)) (m_lf_all (o_iret C hr dX8_count_134))))))))
set_option maxRecDepth 20000 in
def kX9_refuse : m_C := m_bt 7 (m_bt 4 (m_bt 1 (m_lf 0 (s_ald 1 0)) (m_lf 1 (s_get 4 9 0))) (m_bt 5 (m_lf 4 (s_ild 5 1)) (m_bt 6 (m_lf 5 (s_neg 6)) (m_lf 6 (s_dup2 7))))) (m_bt 10 (m_bt 8 (m_lf 7 (s_iald 8)) (m_bt 9 (m_lf 8 (s_push 9 (.inl (1)))) (m_lf 9 (s_bin 10 (fun x y => m_wrap (x + y)))))) (m_bt 11 (m_lf 10 (s_iast 11)) (m_bt 12 (m_lf 11 (s_ild 12 1)) (m_lf 12 (s_ret)))))
theorem kX9_refuse_0 : kX9_refuse 0 = some (s_ald 1 0) := rfl
theorem kX9_refuse_1 : kX9_refuse 1 = some (s_get 4 9 0) := rfl
theorem kX9_refuse_4 : kX9_refuse 4 = some (s_ild 5 1) := rfl
theorem kX9_refuse_5 : kX9_refuse 5 = some (s_neg 6) := rfl
theorem kX9_refuse_6 : kX9_refuse 6 = some (s_dup2 7) := rfl
theorem kX9_refuse_7 : kX9_refuse 7 = some (s_iald 8) := rfl
theorem kX9_refuse_8 : kX9_refuse 8 = some (s_push 9 (.inl (1))) := rfl
theorem kX9_refuse_9 : kX9_refuse 9 = some (s_bin 10 (fun x y => m_wrap (x + y))) := rfl
theorem kX9_refuse_10 : kX9_refuse 10 = some (s_iast 11) := rfl
theorem kX9_refuse_11 : kX9_refuse 11 = some (s_ild 12 1) := rfl
theorem kX9_refuse_12 : kX9_refuse 12 = some (s_ret) := rfl
def wX9_refuse : m_GK := m_wp 2 kX9_refuse
set_option maxRecDepth 100000 in
set_option maxHeartbeats 4000000 in
theorem sX9_refuse (l : Launch) (X : m_X) (hX : m_inj X.1) : m_Sound l X 1 yX9_refuse cX9_refuse 2 (some .int) wX9_refuse := m_sound_of hX (by decide) (fun p e s m args below meth c q C hr => m_bt_all (m_bt_all (m_bt_all (m_lf_all (o_aload_n C (i := 0) rfl dX9_refuse_0 rfl)) (m_lf_all (o_get C (ci := 9) (k := 0) (N := 35) (rf := RX9) (T := TX9) rfl ginX9 (Nat.le_of_ble_eq_true rfl) (m_tb_of 926 (by decide +kernel) rfl) dX9_refuse_1 rfl))) (m_bt_all (m_lf_all (o_iload_n C (i := 1) rfl dX9_refuse_4 rfl)) (m_bt_all (m_lf_all (o_ineg C dX9_refuse_5 rfl)) (m_lf_all (o_dup2 C dX9_refuse_6 rfl))))) (m_bt_all (m_bt_all (m_lf_all (o_iald C dX9_refuse_7 rfl)) (m_bt_all (m_lf_all (o_iconst C (x := (1)) (m_rngd rfl) dX9_refuse_8 rfl)) (m_lf_all (o_iadd C dX9_refuse_9 rfl)))) (m_bt_all (m_lf_all (o_iast C dX9_refuse_10 rfl)) (m_bt_all (m_lf_all (o_iload_n C (i := 1) rfl dX9_refuse_11 rfl)) (m_lf_all (o_iret C hr dX9_refuse_12))))))
set_option maxRecDepth 20000 in
def kX9_isIn : m_C := m_bt 6 (m_bt 4 (m_bt 1 (m_lf 0 (s_ild 1 0)) (m_lf 1 (s_if 4 13 (fun x => x < 0)))) (m_bt 5 (m_lf 4 (s_ild 5 0)) (m_lf 5 (s_ild 6 1)))) (m_bt 10 (m_bt 9 (m_lf 6 (s_icmp 9 13 (fun x y => y ≤ x))) (m_lf 9 (s_push 10 (.inl (1))))) (m_bt 13 (m_lf 10 (s_goto 14)) (m_bt 14 (m_lf 13 (s_push 14 (.inl (0)))) (m_lf 14 (s_retz)))))
theorem kX9_isIn_0 : kX9_isIn 0 = some (s_ild 1 0) := rfl
theorem kX9_isIn_1 : kX9_isIn 1 = some (s_if 4 13 (fun x => x < 0)) := rfl
theorem kX9_isIn_4 : kX9_isIn 4 = some (s_ild 5 0) := rfl
theorem kX9_isIn_5 : kX9_isIn 5 = some (s_ild 6 1) := rfl
theorem kX9_isIn_6 : kX9_isIn 6 = some (s_icmp 9 13 (fun x y => y ≤ x)) := rfl
theorem kX9_isIn_9 : kX9_isIn 9 = some (s_push 10 (.inl (1))) := rfl
theorem kX9_isIn_10 : kX9_isIn 10 = some (s_goto 14) := rfl
theorem kX9_isIn_13 : kX9_isIn 13 = some (s_push 14 (.inl (0))) := rfl
theorem kX9_isIn_14 : kX9_isIn 14 = some (s_retz) := rfl
def wX9_isIn : m_GK := m_wp 2 kX9_isIn
set_option maxRecDepth 100000 in
set_option maxHeartbeats 4000000 in
theorem sX9_isIn (l : Launch) (X : m_X) (hX : m_inj X.1) : m_Sound l X 1 yX9_isIn cX9_isIn 2 (some .boolean) wX9_isIn := m_sound_of hX (by decide) (fun p e s m args below meth c q C hr => m_bt_all (m_bt_all (m_bt_all (m_lf_all (o_iload_n C (i := 0) rfl dX9_isIn_0 rfl)) (m_lf_all (o_if_lt C dX9_isIn_1 rfl rfl))) (m_bt_all (m_lf_all (o_iload_n C (i := 0) rfl dX9_isIn_4 rfl)) (m_lf_all (o_iload_n C (i := 1) rfl dX9_isIn_5 rfl)))) (m_bt_all (m_bt_all (m_lf_all (o_icmp_ge C dX9_isIn_6 rfl rfl)) (m_lf_all (o_iconst C (x := (1)) (m_rngd rfl) dX9_isIn_9 rfl))) (m_bt_all (m_lf_all (o_goto C dX9_isIn_10 rfl)) (m_bt_all (m_lf_all (o_iconst C (x := (0)) (m_rngd rfl) dX9_isIn_13 rfl)) (m_lf_all (o_zret C hr dX9_isIn_14))))))
set_option maxRecDepth 20000 in
def kX9_within : m_C := m_bt 11 (m_bt 5 (m_bt 1 (m_lf 0 (s_ild 1 0)) (m_bt 2 (m_lf 1 (s_ild 2 1)) (m_lf 2 (s_icmp 5 10 (fun x y => y ≤ x))))) (m_bt 7 (m_lf 5 (s_push 7 (.inl (-4)))) (m_bt 10 (m_lf 7 (s_goto 21)) (m_lf 10 (s_ild 11 0))))) (m_bt 17 (m_bt 12 (m_lf 11 (s_ild 12 2)) (m_bt 15 (m_lf 12 (s_icmp 15 20 (fun x y => x ≤ y))) (m_lf 15 (s_push 17 (.inl (-6)))))) (m_bt 20 (m_lf 17 (s_goto 21)) (m_bt 21 (m_lf 20 (s_push 21 (.inl (0)))) (m_lf 21 (s_ret)))))
theorem kX9_within_0 : kX9_within 0 = some (s_ild 1 0) := rfl
theorem kX9_within_1 : kX9_within 1 = some (s_ild 2 1) := rfl
theorem kX9_within_2 : kX9_within 2 = some (s_icmp 5 10 (fun x y => y ≤ x)) := rfl
theorem kX9_within_5 : kX9_within 5 = some (s_push 7 (.inl (-4))) := rfl
theorem kX9_within_7 : kX9_within 7 = some (s_goto 21) := rfl
theorem kX9_within_10 : kX9_within 10 = some (s_ild 11 0) := rfl
theorem kX9_within_11 : kX9_within 11 = some (s_ild 12 2) := rfl
theorem kX9_within_12 : kX9_within 12 = some (s_icmp 15 20 (fun x y => x ≤ y)) := rfl
theorem kX9_within_15 : kX9_within 15 = some (s_push 17 (.inl (-6))) := rfl
theorem kX9_within_17 : kX9_within 17 = some (s_goto 21) := rfl
theorem kX9_within_20 : kX9_within 20 = some (s_push 21 (.inl (0))) := rfl
theorem kX9_within_21 : kX9_within 21 = some (s_ret) := rfl
def wX9_within : m_GK := m_wp 3 kX9_within
set_option maxRecDepth 100000 in
set_option maxHeartbeats 4000000 in
theorem sX9_within (l : Launch) (X : m_X) (hX : m_inj X.1) : m_Sound l X 1 yX9_within cX9_within 3 (some .int) wX9_within := m_sound_of hX (by decide) (fun p e s m args below meth c q C hr => m_bt_all (m_bt_all (m_bt_all (m_lf_all (o_iload_n C (i := 0) rfl dX9_within_0 rfl)) (m_bt_all (m_lf_all (o_iload_n C (i := 1) rfl dX9_within_1 rfl)) (m_lf_all (o_icmp_ge C dX9_within_2 rfl rfl)))) (m_bt_all (m_lf_all (o_bipush C (x := (-4)) (m_rngd rfl) rfl dX9_within_5 rfl)) (m_bt_all (m_lf_all (o_goto C dX9_within_7 rfl)) (m_lf_all (o_iload_n C (i := 0) rfl dX9_within_10 rfl))))) (m_bt_all (m_bt_all (m_lf_all (o_iload_n C (i := 2) rfl dX9_within_11 rfl)) (m_bt_all (m_lf_all (o_icmp_le C dX9_within_12 rfl rfl)) (m_lf_all (o_bipush C (x := (-6)) (m_rngd rfl) rfl dX9_within_15 rfl)))) (m_bt_all (m_lf_all (o_goto C dX9_within_17 rfl)) (m_bt_all (m_lf_all (o_iconst C (x := (0)) (m_rngd rfl) dX9_within_20 rfl)) (m_lf_all (o_iret C hr dX9_within_21))))))
set_option maxRecDepth 20000 in
def kX9_isSort : m_C := m_bt 5 (m_bt 1 (m_lf 0 (s_ild 1 1)) (m_bt 2 (m_lf 1 (s_ald 2 0)) (m_lf 2 (s_get 5 9 1)))) (m_bt 7 (m_bt 6 (m_lf 5 (s_push 6 (.inl (0)))) (m_lf 6 (s_iald 7))) (m_bt 10 (m_lf 7 (s_callS 10 2 wX9_isIn)) (m_lf 10 (s_retz))))
theorem kX9_isSort_0 : kX9_isSort 0 = some (s_ild 1 1) := rfl
theorem kX9_isSort_1 : kX9_isSort 1 = some (s_ald 2 0) := rfl
theorem kX9_isSort_2 : kX9_isSort 2 = some (s_get 5 9 1) := rfl
theorem kX9_isSort_5 : kX9_isSort 5 = some (s_push 6 (.inl (0))) := rfl
theorem kX9_isSort_6 : kX9_isSort 6 = some (s_iald 7) := rfl
theorem kX9_isSort_7 : kX9_isSort 7 = some (s_callS 10 2 wX9_isIn) := rfl
theorem kX9_isSort_10 : kX9_isSort 10 = some (s_retz) := rfl
def wX9_isSort : m_GK := m_wp 2 kX9_isSort
set_option maxRecDepth 100000 in
set_option maxHeartbeats 4000000 in
theorem sX9_isSort (l : Launch) (X : m_X) (hX : m_inj X.1) : m_Sound l X 2 yX9_isSort cX9_isSort 2 (some .boolean) wX9_isSort := m_sound_of hX (by decide) (fun p e s m args below meth c q C hr => m_bt_all (m_bt_all (m_lf_all (o_iload_n C (i := 1) rfl dX9_isSort_0 rfl)) (m_bt_all (m_lf_all (o_aload_n C (i := 0) rfl dX9_isSort_1 rfl)) (m_lf_all (o_get C (ci := 9) (k := 1) (N := 35) (rf := RX9) (T := TX9) rfl ginX9 (Nat.le_of_ble_eq_true rfl) (m_tb_of 927 (by decide +kernel) rfl) dX9_isSort_2 rfl)))) (m_bt_all (m_bt_all (m_lf_all (o_iconst C (x := (0)) (m_rngd rfl) dX9_isSort_5 rfl)) (m_lf_all (o_iald C dX9_isSort_6 rfl))) (m_bt_all (m_lf_all (o_callS C (sX9_isIn l X hX) (m_in_of [1081, 1082, 81] (by decide +kernel) (by decide +kernel)) (m_tb_of 1083 (by decide +kernel) rfl) (by decide +kernel) ⟨Nat.le_of_ble_eq_true rfl, Nat.le_of_ble_eq_true rfl⟩ dX9_isSort_7 rfl)) (m_lf_all (o_zret C hr dX9_isSort_10)))))
set_option maxRecDepth 20000 in
def kX9_isLane : m_C := m_bt 5 (m_bt 1 (m_lf 0 (s_ild 1 1)) (m_bt 2 (m_lf 1 (s_ald 2 0)) (m_lf 2 (s_get 5 9 1)))) (m_bt 7 (m_bt 6 (m_lf 5 (s_push 6 (.inl (1)))) (m_lf 6 (s_iald 7))) (m_bt 10 (m_lf 7 (s_callS 10 2 wX9_isIn)) (m_lf 10 (s_retz))))
theorem kX9_isLane_0 : kX9_isLane 0 = some (s_ild 1 1) := rfl
theorem kX9_isLane_1 : kX9_isLane 1 = some (s_ald 2 0) := rfl
theorem kX9_isLane_2 : kX9_isLane 2 = some (s_get 5 9 1) := rfl
theorem kX9_isLane_5 : kX9_isLane 5 = some (s_push 6 (.inl (1))) := rfl
theorem kX9_isLane_6 : kX9_isLane 6 = some (s_iald 7) := rfl
theorem kX9_isLane_7 : kX9_isLane 7 = some (s_callS 10 2 wX9_isIn) := rfl
theorem kX9_isLane_10 : kX9_isLane 10 = some (s_retz) := rfl
def wX9_isLane : m_GK := m_wp 2 kX9_isLane
set_option maxRecDepth 100000 in
set_option maxHeartbeats 4000000 in
theorem sX9_isLane (l : Launch) (X : m_X) (hX : m_inj X.1) : m_Sound l X 2 yX9_isLane cX9_isLane 2 (some .boolean) wX9_isLane := m_sound_of hX (by decide) (fun p e s m args below meth c q C hr => m_bt_all (m_bt_all (m_lf_all (o_iload_n C (i := 1) rfl dX9_isLane_0 rfl)) (m_bt_all (m_lf_all (o_aload_n C (i := 0) rfl dX9_isLane_1 rfl)) (m_lf_all (o_get C (ci := 9) (k := 1) (N := 35) (rf := RX9) (T := TX9) rfl ginX9 (Nat.le_of_ble_eq_true rfl) (m_tb_of 927 (by decide +kernel) rfl) dX9_isLane_2 rfl)))) (m_bt_all (m_bt_all (m_lf_all (o_iconst C (x := (1)) (m_rngd rfl) dX9_isLane_5 rfl)) (m_lf_all (o_iald C dX9_isLane_6 rfl))) (m_bt_all (m_lf_all (o_callS C (sX9_isIn l X hX) (m_in_of [1081, 1082, 81] (by decide +kernel) (by decide +kernel)) (m_tb_of 1083 (by decide +kernel) rfl) (by decide +kernel) ⟨Nat.le_of_ble_eq_true rfl, Nat.le_of_ble_eq_true rfl⟩ dX9_isLane_7 rfl)) (m_lf_all (o_zret C hr dX9_isLane_10)))))
set_option maxRecDepth 20000 in
def kX9_secondsOf : m_C := m_bt 8 (m_bt 4 (m_bt 1 (m_lf 0 (s_ald 1 0)) (m_lf 1 (s_get 4 9 1))) (m_bt 6 (m_lf 4 (s_push 6 (.inl (10)))) (m_lf 6 (s_push 8 (.inl (6)))))) (m_bt 10 (m_bt 9 (m_lf 8 (s_ild 9 1)) (m_lf 9 (s_bin 10 (fun x y => m_wrap (x * y))))) (m_bt 11 (m_lf 10 (s_bin 11 (fun x y => m_wrap (x + y)))) (m_bt 12 (m_lf 11 (s_iald 12)) (m_lf 12 (s_ret)))))
theorem kX9_secondsOf_0 : kX9_secondsOf 0 = some (s_ald 1 0) := rfl
theorem kX9_secondsOf_1 : kX9_secondsOf 1 = some (s_get 4 9 1) := rfl
theorem kX9_secondsOf_4 : kX9_secondsOf 4 = some (s_push 6 (.inl (10))) := rfl
theorem kX9_secondsOf_6 : kX9_secondsOf 6 = some (s_push 8 (.inl (6))) := rfl
theorem kX9_secondsOf_8 : kX9_secondsOf 8 = some (s_ild 9 1) := rfl
theorem kX9_secondsOf_9 : kX9_secondsOf 9 = some (s_bin 10 (fun x y => m_wrap (x * y))) := rfl
theorem kX9_secondsOf_10 : kX9_secondsOf 10 = some (s_bin 11 (fun x y => m_wrap (x + y))) := rfl
theorem kX9_secondsOf_11 : kX9_secondsOf 11 = some (s_iald 12) := rfl
theorem kX9_secondsOf_12 : kX9_secondsOf 12 = some (s_ret) := rfl
def wX9_secondsOf : m_GK := m_wp 2 kX9_secondsOf
set_option maxRecDepth 100000 in
set_option maxHeartbeats 4000000 in
theorem sX9_secondsOf (l : Launch) (X : m_X) (hX : m_inj X.1) : m_Sound l X 1 yX9_secondsOf cX9_secondsOf 2 (some .int) wX9_secondsOf := m_sound_of hX (by decide) (fun p e s m args below meth c q C hr => m_bt_all (m_bt_all (m_bt_all (m_lf_all (o_aload_n C (i := 0) rfl dX9_secondsOf_0 rfl)) (m_lf_all (o_get C (ci := 9) (k := 1) (N := 35) (rf := RX9) (T := TX9) rfl ginX9 (Nat.le_of_ble_eq_true rfl) (m_tb_of 927 (by decide +kernel) rfl) dX9_secondsOf_1 rfl))) (m_bt_all (m_lf_all (o_bipush C (x := (10)) (m_rngd rfl) rfl dX9_secondsOf_4 rfl)) (m_lf_all (o_bipush C (x := (6)) (m_rngd rfl) rfl dX9_secondsOf_6 rfl)))) (m_bt_all (m_bt_all (m_lf_all (o_iload_n C (i := 1) rfl dX9_secondsOf_8 rfl)) (m_lf_all (o_imul C dX9_secondsOf_9 rfl))) (m_bt_all (m_lf_all (o_iadd C dX9_secondsOf_10 rfl)) (m_bt_all (m_lf_all (o_iald C dX9_secondsOf_11 rfl)) (m_lf_all (o_iret C hr dX9_secondsOf_12))))))
set_option maxRecDepth 20000 in
def kX9_worthOf : m_C := m_bt 9 (m_bt 4 (m_bt 1 (m_lf 0 (s_ald 1 0)) (m_lf 1 (s_get 4 9 1))) (m_bt 6 (m_lf 4 (s_push 6 (.inl (10)))) (m_bt 8 (m_lf 6 (s_push 8 (.inl (6)))) (m_lf 8 (s_ild 9 1))))) (m_bt 12 (m_bt 10 (m_lf 9 (s_bin 10 (fun x y => m_wrap (x * y)))) (m_bt 11 (m_lf 10 (s_bin 11 (fun x y => m_wrap (x + y)))) (m_lf 11 (s_push 12 (.inl (1)))))) (m_bt 13 (m_lf 12 (s_bin 13 (fun x y => m_wrap (x + y)))) (m_bt 14 (m_lf 13 (s_iald 14)) (m_lf 14 (s_ret)))))
theorem kX9_worthOf_0 : kX9_worthOf 0 = some (s_ald 1 0) := rfl
theorem kX9_worthOf_1 : kX9_worthOf 1 = some (s_get 4 9 1) := rfl
theorem kX9_worthOf_4 : kX9_worthOf 4 = some (s_push 6 (.inl (10))) := rfl
theorem kX9_worthOf_6 : kX9_worthOf 6 = some (s_push 8 (.inl (6))) := rfl
theorem kX9_worthOf_8 : kX9_worthOf 8 = some (s_ild 9 1) := rfl
theorem kX9_worthOf_9 : kX9_worthOf 9 = some (s_bin 10 (fun x y => m_wrap (x * y))) := rfl
theorem kX9_worthOf_10 : kX9_worthOf 10 = some (s_bin 11 (fun x y => m_wrap (x + y))) := rfl
theorem kX9_worthOf_11 : kX9_worthOf 11 = some (s_push 12 (.inl (1))) := rfl
theorem kX9_worthOf_12 : kX9_worthOf 12 = some (s_bin 13 (fun x y => m_wrap (x + y))) := rfl
theorem kX9_worthOf_13 : kX9_worthOf 13 = some (s_iald 14) := rfl
theorem kX9_worthOf_14 : kX9_worthOf 14 = some (s_ret) := rfl
def wX9_worthOf : m_GK := m_wp 2 kX9_worthOf
set_option maxRecDepth 100000 in
set_option maxHeartbeats 4000000 in
theorem sX9_worthOf (l : Launch) (X : m_X) (hX : m_inj X.1) : m_Sound l X 1 yX9_worthOf cX9_worthOf 2 (some .int) wX9_worthOf := m_sound_of hX (by decide) (fun p e s m args below meth c q C hr => m_bt_all (m_bt_all (m_bt_all (m_lf_all (o_aload_n C (i := 0) rfl dX9_worthOf_0 rfl)) (m_lf_all (o_get C (ci := 9) (k := 1) (N := 35) (rf := RX9) (T := TX9) rfl ginX9 (Nat.le_of_ble_eq_true rfl) (m_tb_of 927 (by decide +kernel) rfl) dX9_worthOf_1 rfl))) (m_bt_all (m_lf_all (o_bipush C (x := (10)) (m_rngd rfl) rfl dX9_worthOf_4 rfl)) (m_bt_all (m_lf_all (o_bipush C (x := (6)) (m_rngd rfl) rfl dX9_worthOf_6 rfl)) (m_lf_all (o_iload_n C (i := 1) rfl dX9_worthOf_8 rfl))))) (m_bt_all (m_bt_all (m_lf_all (o_imul C dX9_worthOf_9 rfl)) (m_bt_all (m_lf_all (o_iadd C dX9_worthOf_10 rfl)) (m_lf_all (o_iconst C (x := (1)) (m_rngd rfl) dX9_worthOf_11 rfl)))) (m_bt_all (m_lf_all (o_iadd C dX9_worthOf_12 rfl)) (m_bt_all (m_lf_all (o_iald C dX9_worthOf_13 rfl)) (m_lf_all (o_iret C hr dX9_worthOf_14))))))
set_option maxRecDepth 20000 in
def kX9_comeIn : m_C := m_bt 10 (m_bt 6 (m_bt 1 (m_lf 0 (s_ald 1 0)) (m_bt 4 (m_lf 1 (s_get 4 9 1)) (m_lf 4 (s_push 6 (.inl (10)))))) (m_bt 8 (m_lf 6 (s_push 8 (.inl (6)))) (m_bt 9 (m_lf 8 (s_ild 9 2)) (m_lf 9 (s_bin 10 (fun x y => m_wrap (x * y))))))) (m_bt 13 (m_bt 11 (m_lf 10 (s_bin 11 (fun x y => m_wrap (x + y)))) (m_bt 12 (m_lf 11 (s_push 12 (.inl (2)))) (m_lf 12 (s_bin 13 (fun x y => m_wrap (x + y)))))) (m_bt 15 (m_bt 14 (m_lf 13 (s_ild 14 1)) (m_lf 14 (s_bin 15 (fun x y => m_wrap (x + y))))) (m_bt 16 (m_lf 15 (s_iald 16)) (m_lf 16 (s_ret)))))
theorem kX9_comeIn_0 : kX9_comeIn 0 = some (s_ald 1 0) := rfl
theorem kX9_comeIn_1 : kX9_comeIn 1 = some (s_get 4 9 1) := rfl
theorem kX9_comeIn_4 : kX9_comeIn 4 = some (s_push 6 (.inl (10))) := rfl
theorem kX9_comeIn_6 : kX9_comeIn 6 = some (s_push 8 (.inl (6))) := rfl
theorem kX9_comeIn_8 : kX9_comeIn 8 = some (s_ild 9 2) := rfl
theorem kX9_comeIn_9 : kX9_comeIn 9 = some (s_bin 10 (fun x y => m_wrap (x * y))) := rfl
theorem kX9_comeIn_10 : kX9_comeIn 10 = some (s_bin 11 (fun x y => m_wrap (x + y))) := rfl
theorem kX9_comeIn_11 : kX9_comeIn 11 = some (s_push 12 (.inl (2))) := rfl
theorem kX9_comeIn_12 : kX9_comeIn 12 = some (s_bin 13 (fun x y => m_wrap (x + y))) := rfl
theorem kX9_comeIn_13 : kX9_comeIn 13 = some (s_ild 14 1) := rfl
theorem kX9_comeIn_14 : kX9_comeIn 14 = some (s_bin 15 (fun x y => m_wrap (x + y))) := rfl
theorem kX9_comeIn_15 : kX9_comeIn 15 = some (s_iald 16) := rfl
theorem kX9_comeIn_16 : kX9_comeIn 16 = some (s_ret) := rfl
def wX9_comeIn : m_GK := m_wp 3 kX9_comeIn
set_option maxRecDepth 100000 in
set_option maxHeartbeats 4000000 in
theorem sX9_comeIn (l : Launch) (X : m_X) (hX : m_inj X.1) : m_Sound l X 1 yX9_comeIn cX9_comeIn 3 (some .int) wX9_comeIn := m_sound_of hX (by decide) (fun p e s m args below meth c q C hr => m_bt_all (m_bt_all (m_bt_all (m_lf_all (o_aload_n C (i := 0) rfl dX9_comeIn_0 rfl)) (m_bt_all (m_lf_all (o_get C (ci := 9) (k := 1) (N := 35) (rf := RX9) (T := TX9) rfl ginX9 (Nat.le_of_ble_eq_true rfl) (m_tb_of 927 (by decide +kernel) rfl) dX9_comeIn_1 rfl)) (m_lf_all (o_bipush C (x := (10)) (m_rngd rfl) rfl dX9_comeIn_4 rfl)))) (m_bt_all (m_lf_all (o_bipush C (x := (6)) (m_rngd rfl) rfl dX9_comeIn_6 rfl)) (m_bt_all (m_lf_all (o_iload_n C (i := 2) rfl dX9_comeIn_8 rfl)) (m_lf_all (o_imul C dX9_comeIn_9 rfl))))) (m_bt_all (m_bt_all (m_lf_all (o_iadd C dX9_comeIn_10 rfl)) (m_bt_all (m_lf_all (o_iconst C (x := (2)) (m_rngd rfl) dX9_comeIn_11 rfl)) (m_lf_all (o_iadd C dX9_comeIn_12 rfl)))) (m_bt_all (m_bt_all (m_lf_all (o_iload_n C (i := 1) rfl dX9_comeIn_13 rfl)) (m_lf_all (o_iadd C dX9_comeIn_14 rfl))) (m_bt_all (m_lf_all (o_iald C dX9_comeIn_15 rfl)) (m_lf_all (o_iret C hr dX9_comeIn_16))))))
set_option maxRecDepth 20000 in
def kX9_becomes : m_C := m_bt 8 (m_bt 5 (m_bt 1 (m_lf 0 (s_ald 1 0)) (m_bt 4 (m_lf 1 (s_get 4 9 1)) (m_lf 4 (s_ild 5 1)))) (m_bt 6 (m_lf 5 (s_iald 6)) (m_bt 7 (m_lf 6 (s_ist 7 3)) (m_lf 7 (s_ald 8 0))))) (m_bt 13 (m_bt 11 (m_lf 8 (s_get 11 9 1)) (m_bt 12 (m_lf 11 (s_ild 12 1)) (m_lf 12 (s_ild 13 2)))) (m_bt 14 (m_lf 13 (s_iast 14)) (m_bt 15 (m_lf 14 (s_ild 15 3)) (m_lf 15 (s_ret)))))
theorem kX9_becomes_0 : kX9_becomes 0 = some (s_ald 1 0) := rfl
theorem kX9_becomes_1 : kX9_becomes 1 = some (s_get 4 9 1) := rfl
theorem kX9_becomes_4 : kX9_becomes 4 = some (s_ild 5 1) := rfl
theorem kX9_becomes_5 : kX9_becomes 5 = some (s_iald 6) := rfl
theorem kX9_becomes_6 : kX9_becomes 6 = some (s_ist 7 3) := rfl
theorem kX9_becomes_7 : kX9_becomes 7 = some (s_ald 8 0) := rfl
theorem kX9_becomes_8 : kX9_becomes 8 = some (s_get 11 9 1) := rfl
theorem kX9_becomes_11 : kX9_becomes 11 = some (s_ild 12 1) := rfl
theorem kX9_becomes_12 : kX9_becomes 12 = some (s_ild 13 2) := rfl
theorem kX9_becomes_13 : kX9_becomes 13 = some (s_iast 14) := rfl
theorem kX9_becomes_14 : kX9_becomes 14 = some (s_ild 15 3) := rfl
theorem kX9_becomes_15 : kX9_becomes 15 = some (s_ret) := rfl
def wX9_becomes : m_GK := m_wp 4 kX9_becomes
set_option maxRecDepth 100000 in
set_option maxHeartbeats 4000000 in
theorem sX9_becomes (l : Launch) (X : m_X) (hX : m_inj X.1) : m_Sound l X 1 yX9_becomes cX9_becomes 4 (some .int) wX9_becomes := m_sound_of hX (by decide) (fun p e s m args below meth c q C hr => m_bt_all (m_bt_all (m_bt_all (m_lf_all (o_aload_n C (i := 0) rfl dX9_becomes_0 rfl)) (m_bt_all (m_lf_all (o_get C (ci := 9) (k := 1) (N := 35) (rf := RX9) (T := TX9) rfl ginX9 (Nat.le_of_ble_eq_true rfl) (m_tb_of 927 (by decide +kernel) rfl) dX9_becomes_1 rfl)) (m_lf_all (o_iload_n C (i := 1) rfl dX9_becomes_4 rfl)))) (m_bt_all (m_lf_all (o_iald C dX9_becomes_5 rfl)) (m_bt_all (m_lf_all (o_istore_n C (i := 3) rfl dX9_becomes_6 rfl)) (m_lf_all (o_aload_n C (i := 0) rfl dX9_becomes_7 rfl))))) (m_bt_all (m_bt_all (m_lf_all (o_get C (ci := 9) (k := 1) (N := 35) (rf := RX9) (T := TX9) rfl ginX9 (Nat.le_of_ble_eq_true rfl) (m_tb_of 927 (by decide +kernel) rfl) dX9_becomes_8 rfl)) (m_bt_all (m_lf_all (o_iload_n C (i := 1) rfl dX9_becomes_11 rfl)) (m_lf_all (o_iload_n C (i := 2) rfl dX9_becomes_12 rfl)))) (m_bt_all (m_lf_all (o_iast C dX9_becomes_13 rfl)) (m_bt_all (m_lf_all (o_iload_n C (i := 3) rfl dX9_becomes_14 rfl)) (m_lf_all (o_iret C hr dX9_becomes_15))))))
set_option maxRecDepth 20000 in
def kX9_feed : m_C := m_bt 42 (m_bt 22 (m_bt 11 (m_bt 5 (m_bt 1 (m_lf 0 (s_ild 1 1)) (m_bt 2 (m_lf 1 (s_push 2 (.inl (1)))) (m_lf 2 (s_icmp 5 12 (fun x y => y ≤ x))))) (m_bt 6 (m_lf 5 (s_ald 6 0)) (m_bt 8 (m_lf 6 (s_push 8 (.inl (-4)))) (m_lf 8 (s_callV 11 2 9 wX9_refuse))))) (m_bt 15 (m_bt 12 (m_lf 11 (s_ret)) (m_bt 13 (m_lf 12 (s_ild 13 1)) (m_lf 13 (s_push 15 (.inl (8)))))) (m_bt 18 (m_lf 15 (s_icmp 18 29 (fun x y => y < x))) (m_bt 19 (m_lf 18 (s_ald 19 0)) (m_lf 19 (s_get 22 9 8)))))) (m_bt 32 (m_bt 26 (m_bt 23 (m_lf 22 (s_ild 23 1)) (m_bt 24 (m_lf 23 (s_bin 24 (fun x y => m_wrap (x + y)))) (m_lf 24 (s_push 26 (.inl (64)))))) (m_bt 29 (m_lf 26 (s_icmp 29 36 (fun x y => x ≤ y))) (m_bt 30 (m_lf 29 (s_ald 30 0)) (m_lf 30 (s_push 32 (.inl (-6))))))) (m_bt 37 (m_bt 35 (m_lf 32 (s_callV 35 2 9 wX9_refuse)) (m_bt 36 (m_lf 35 (s_ret)) (m_lf 36 (s_push 37 (.inl (0)))))) (m_bt 39 (m_lf 37 (s_ist 39 4)) (m_bt 41 (m_lf 39 (s_ild 41 4)) (m_lf 41 (s_ild 42 1))))))) (m_bt 64 (m_bt 54 (m_bt 49 (m_bt 45 (m_lf 42 (s_icmp 45 82 (fun x y => y ≤ x))) (m_bt 46 (m_lf 45 (s_ald 46 0)) (m_lf 46 (s_get 49 9 6)))) (m_bt 50 (m_lf 49 (s_ald 50 0)) (m_bt 53 (m_lf 50 (s_get 53 9 8)) (m_lf 53 (s_lld 54 2))))) (m_bt 59 (m_bt 56 (m_lf 54 (s_push 56 (.inl (8)))) (m_bt 58 (m_lf 56 (s_ild 58 4)) (m_lf 58 (s_bin 59 (fun x y => m_wrap (x * y)))))) (m_bt 60 (m_lf 59 (s_lshr 60)) (m_bt 63 (m_lf 60 (s_push 63 (.inr (.inl (255))))) (m_lf 63 (s_lbin 64 (fun x y => x &&& y))))))) (m_bt 72 (m_bt 67 (m_bt 65 (m_lf 64 (s_l2i 65)) (m_bt 66 (m_lf 65 (s_iast 66)) (m_lf 66 (s_ald 67 0)))) (m_bt 68 (m_lf 67 (s_dup 68)) (m_bt 71 (m_lf 68 (s_get 71 9 8)) (m_lf 71 (s_push 72 (.inl (1))))))) (m_bt 79 (m_bt 73 (m_lf 72 (s_bin 73 (fun x y => m_wrap (x + y)))) (m_bt 76 (m_lf 73 (s_put 76 9 8)) (m_lf 76 (s_inc 79 4 (1))))) (m_bt 83 (m_bt 82 (m_lf 79 (s_goto 39)) (m_lf 82 (s_ald 83 0))) (m_bt 86 (m_lf 83 (s_get 86 9 8)) (m_lf 86 (s_ret)))))))
theorem kX9_feed_0 : kX9_feed 0 = some (s_ild 1 1) := rfl
theorem kX9_feed_1 : kX9_feed 1 = some (s_push 2 (.inl (1))) := rfl
theorem kX9_feed_2 : kX9_feed 2 = some (s_icmp 5 12 (fun x y => y ≤ x)) := rfl
theorem kX9_feed_5 : kX9_feed 5 = some (s_ald 6 0) := rfl
theorem kX9_feed_6 : kX9_feed 6 = some (s_push 8 (.inl (-4))) := rfl
theorem kX9_feed_8 : kX9_feed 8 = some (s_callV 11 2 9 wX9_refuse) := rfl
theorem kX9_feed_11 : kX9_feed 11 = some (s_ret) := rfl
theorem kX9_feed_12 : kX9_feed 12 = some (s_ild 13 1) := rfl
theorem kX9_feed_13 : kX9_feed 13 = some (s_push 15 (.inl (8))) := rfl
theorem kX9_feed_15 : kX9_feed 15 = some (s_icmp 18 29 (fun x y => y < x)) := rfl
theorem kX9_feed_18 : kX9_feed 18 = some (s_ald 19 0) := rfl
theorem kX9_feed_19 : kX9_feed 19 = some (s_get 22 9 8) := rfl
theorem kX9_feed_22 : kX9_feed 22 = some (s_ild 23 1) := rfl
theorem kX9_feed_23 : kX9_feed 23 = some (s_bin 24 (fun x y => m_wrap (x + y))) := rfl
theorem kX9_feed_24 : kX9_feed 24 = some (s_push 26 (.inl (64))) := rfl
theorem kX9_feed_26 : kX9_feed 26 = some (s_icmp 29 36 (fun x y => x ≤ y)) := rfl
theorem kX9_feed_29 : kX9_feed 29 = some (s_ald 30 0) := rfl
theorem kX9_feed_30 : kX9_feed 30 = some (s_push 32 (.inl (-6))) := rfl
theorem kX9_feed_32 : kX9_feed 32 = some (s_callV 35 2 9 wX9_refuse) := rfl
theorem kX9_feed_35 : kX9_feed 35 = some (s_ret) := rfl
theorem kX9_feed_36 : kX9_feed 36 = some (s_push 37 (.inl (0))) := rfl
theorem kX9_feed_37 : kX9_feed 37 = some (s_ist 39 4) := rfl
theorem kX9_feed_39 : kX9_feed 39 = some (s_ild 41 4) := rfl
theorem kX9_feed_41 : kX9_feed 41 = some (s_ild 42 1) := rfl
theorem kX9_feed_42 : kX9_feed 42 = some (s_icmp 45 82 (fun x y => y ≤ x)) := rfl
theorem kX9_feed_45 : kX9_feed 45 = some (s_ald 46 0) := rfl
theorem kX9_feed_46 : kX9_feed 46 = some (s_get 49 9 6) := rfl
theorem kX9_feed_49 : kX9_feed 49 = some (s_ald 50 0) := rfl
theorem kX9_feed_50 : kX9_feed 50 = some (s_get 53 9 8) := rfl
theorem kX9_feed_53 : kX9_feed 53 = some (s_lld 54 2) := rfl
theorem kX9_feed_54 : kX9_feed 54 = some (s_push 56 (.inl (8))) := rfl
theorem kX9_feed_56 : kX9_feed 56 = some (s_ild 58 4) := rfl
theorem kX9_feed_58 : kX9_feed 58 = some (s_bin 59 (fun x y => m_wrap (x * y))) := rfl
theorem kX9_feed_59 : kX9_feed 59 = some (s_lshr 60) := rfl
theorem kX9_feed_60 : kX9_feed 60 = some (s_push 63 (.inr (.inl (255)))) := rfl
theorem kX9_feed_63 : kX9_feed 63 = some (s_lbin 64 (fun x y => x &&& y)) := rfl
theorem kX9_feed_64 : kX9_feed 64 = some (s_l2i 65) := rfl
theorem kX9_feed_65 : kX9_feed 65 = some (s_iast 66) := rfl
theorem kX9_feed_66 : kX9_feed 66 = some (s_ald 67 0) := rfl
theorem kX9_feed_67 : kX9_feed 67 = some (s_dup 68) := rfl
theorem kX9_feed_68 : kX9_feed 68 = some (s_get 71 9 8) := rfl
theorem kX9_feed_71 : kX9_feed 71 = some (s_push 72 (.inl (1))) := rfl
theorem kX9_feed_72 : kX9_feed 72 = some (s_bin 73 (fun x y => m_wrap (x + y))) := rfl
theorem kX9_feed_73 : kX9_feed 73 = some (s_put 76 9 8) := rfl
theorem kX9_feed_76 : kX9_feed 76 = some (s_inc 79 4 (1)) := rfl
theorem kX9_feed_79 : kX9_feed 79 = some (s_goto 39) := rfl
theorem kX9_feed_82 : kX9_feed 82 = some (s_ald 83 0) := rfl
theorem kX9_feed_83 : kX9_feed 83 = some (s_get 86 9 8) := rfl
theorem kX9_feed_86 : kX9_feed 86 = some (s_ret) := rfl
def wX9_feed : m_GK := m_wp 5 kX9_feed
set_option maxRecDepth 100000 in
set_option maxHeartbeats 4000000 in
theorem sX9_feed (l : Launch) (X : m_X) (hX : m_inj X.1) : m_Sound l X 2 yX9_feed cX9_feed 5 (some .int) wX9_feed := m_sound_of hX (by decide) (fun p e s m args below meth c q C hr => m_bt_all (m_bt_all (m_bt_all (m_bt_all (m_bt_all (m_lf_all (o_iload_n C (i := 1) rfl dX9_feed_0 rfl)) (m_bt_all (m_lf_all (o_iconst C (x := (1)) (m_rngd rfl) dX9_feed_1 rfl)) (m_lf_all (o_icmp_ge C dX9_feed_2 rfl rfl)))) (m_bt_all (m_lf_all (o_aload_n C (i := 0) rfl dX9_feed_5 rfl)) (m_bt_all (m_lf_all (o_bipush C (x := (-4)) (m_rngd rfl) rfl dX9_feed_6 rfl)) (m_lf_all (o_callV C (T := TX9) (N := 35) (sX9_refuse l X hX) rfl (m_in_of [1036, 1038, 30, 81] (by decide +kernel) (by decide +kernel)) (m_tb_of 1039 (by decide +kernel) rfl) (by decide +kernel) rfl ⟨Nat.le_of_ble_eq_true rfl, Nat.le_of_ble_eq_true rfl⟩ dX9_feed_8 rfl))))) (m_bt_all (m_bt_all (m_lf_all (o_iret C hr dX9_feed_11)) (m_bt_all (m_lf_all (o_iload_n C (i := 1) rfl dX9_feed_12 rfl)) (m_lf_all (o_bipush C (x := (8)) (m_rngd rfl) rfl dX9_feed_13 rfl)))) (m_bt_all (m_lf_all (o_icmp_gt C dX9_feed_15 rfl rfl)) (m_bt_all (m_lf_all (o_aload_n C (i := 0) rfl dX9_feed_18 rfl)) (m_lf_all (o_get C (ci := 9) (k := 8) (N := 35) (rf := RX9) (T := TX9) rfl ginX9 (Nat.le_of_ble_eq_true rfl) (m_tb_of 934 (by decide +kernel) rfl) dX9_feed_19 rfl)))))) (m_bt_all (m_bt_all (m_bt_all (m_lf_all (o_iload_n C (i := 1) rfl dX9_feed_22 rfl)) (m_bt_all (m_lf_all (o_iadd C dX9_feed_23 rfl)) (m_lf_all (o_bipush C (x := (64)) (m_rngd rfl) rfl dX9_feed_24 rfl)))) (m_bt_all (m_lf_all (o_icmp_le C dX9_feed_26 rfl rfl)) (m_bt_all (m_lf_all (o_aload_n C (i := 0) rfl dX9_feed_29 rfl)) (m_lf_all (o_bipush C (x := (-6)) (m_rngd rfl) rfl dX9_feed_30 rfl))))) (m_bt_all (m_bt_all (m_lf_all (o_callV C (T := TX9) (N := 35) (sX9_refuse l X hX) rfl (m_in_of [1036, 1038, 30, 81] (by decide +kernel) (by decide +kernel)) (m_tb_of 1039 (by decide +kernel) rfl) (by decide +kernel) rfl ⟨Nat.le_of_ble_eq_true rfl, Nat.le_of_ble_eq_true rfl⟩ dX9_feed_32 rfl)) (m_bt_all (m_lf_all (o_iret C hr dX9_feed_35)) (m_lf_all (o_iconst C (x := (0)) (m_rngd rfl) dX9_feed_36 rfl)))) (m_bt_all (m_lf_all (o_istore C dX9_feed_37 rfl)) (m_bt_all (m_lf_all (o_iload C dX9_feed_39 rfl)) (m_lf_all (o_iload_n C (i := 1) rfl dX9_feed_41 rfl))))))) (m_bt_all (m_bt_all (m_bt_all (m_bt_all (m_lf_all (o_icmp_ge C dX9_feed_42 rfl rfl)) (m_bt_all (m_lf_all (o_aload_n C (i := 0) rfl dX9_feed_45 rfl)) (m_lf_all (o_get C (ci := 9) (k := 6) (N := 35) (rf := RX9) (T := TX9) rfl ginX9 (Nat.le_of_ble_eq_true rfl) (m_tb_of 932 (by decide +kernel) rfl) dX9_feed_46 rfl)))) (m_bt_all (m_lf_all (o_aload_n C (i := 0) rfl dX9_feed_49 rfl)) (m_bt_all (m_lf_all (o_get C (ci := 9) (k := 8) (N := 35) (rf := RX9) (T := TX9) rfl ginX9 (Nat.le_of_ble_eq_true rfl) (m_tb_of 934 (by decide +kernel) rfl) dX9_feed_50 rfl)) (m_lf_all (o_lload_n C (i := 2) rfl dX9_feed_53 rfl))))) (m_bt_all (m_bt_all (m_lf_all (o_bipush C (x := (8)) (m_rngd rfl) rfl dX9_feed_54 rfl)) (m_bt_all (m_lf_all (o_iload C dX9_feed_56 rfl)) (m_lf_all (o_imul C dX9_feed_58 rfl)))) (m_bt_all (m_lf_all (o_lshr C dX9_feed_59 rfl)) (m_bt_all (m_lf_all (o_ldc2 C (x := (255)) (m_tb_of 1040 (by decide +kernel) rfl) dX9_feed_60 rfl)) (m_lf_all (o_land C dX9_feed_63 rfl)))))) (m_bt_all (m_bt_all (m_bt_all (m_lf_all (o_l2i C dX9_feed_64 rfl)) (m_bt_all (m_lf_all (o_iast C dX9_feed_65 rfl)) (m_lf_all (o_aload_n C (i := 0) rfl dX9_feed_66 rfl)))) (m_bt_all (m_lf_all (o_dup C dX9_feed_67 rfl)) (m_bt_all (m_lf_all (o_get C (ci := 9) (k := 8) (N := 35) (rf := RX9) (T := TX9) rfl ginX9 (Nat.le_of_ble_eq_true rfl) (m_tb_of 934 (by decide +kernel) rfl) dX9_feed_68 rfl)) (m_lf_all (o_iconst C (x := (1)) (m_rngd rfl) dX9_feed_71 rfl))))) (m_bt_all (m_bt_all (m_lf_all (o_iadd C dX9_feed_72 rfl)) (m_bt_all (m_lf_all (o_put C (ci := 9) (k := 8) (N := 35) (rf := RX9) (T := TX9) rfl ginX9 (Nat.le_of_ble_eq_true rfl) (m_tb_of 934 (by decide +kernel) rfl) (ty0 := tyX9) tyX9_ok nmX9 rfl rfl dX9_feed_73 rfl)) (m_lf_all (o_iinc C dX9_feed_76 rfl)))) (m_bt_all (m_bt_all (m_lf_all (o_goto C dX9_feed_79 rfl)) (m_lf_all (o_aload_n C (i := 0) rfl dX9_feed_82 rfl))) (m_bt_all (m_lf_all (o_get C (ci := 9) (k := 8) (N := 35) (rf := RX9) (T := TX9) rfl ginX9 (Nat.le_of_ble_eq_true rfl) (m_tb_of 934 (by decide +kernel) rfl) dX9_feed_83 rfl)) (m_lf_all (o_iret C hr dX9_feed_86))))))))
set_option maxRecDepth 20000 in
def kX9_sign : m_C := m_bt 12 (m_bt 5 (m_bt 1 (m_lf 0 (s_ald 1 0)) (m_bt 4 (m_lf 1 (s_get 4 9 9)) (m_lf 4 (s_ald 5 0)))) (m_bt 8 (m_lf 5 (s_get 8 9 8)) (m_bt 11 (m_lf 8 (s_icmp 11 15 (fun x y => x < y))) (m_lf 11 (s_push 12 (.inl (-1))))))) (m_bt 19 (m_bt 15 (m_lf 12 (s_goto 24)) (m_bt 16 (m_lf 15 (s_ald 16 0)) (m_lf 16 (s_get 19 9 6)))) (m_bt 23 (m_bt 20 (m_lf 19 (s_ald 20 0)) (m_lf 20 (s_get 23 9 9))) (m_bt 24 (m_lf 23 (s_iald 24)) (m_lf 24 (s_ret)))))
theorem kX9_sign_0 : kX9_sign 0 = some (s_ald 1 0) := rfl
theorem kX9_sign_1 : kX9_sign 1 = some (s_get 4 9 9) := rfl
theorem kX9_sign_4 : kX9_sign 4 = some (s_ald 5 0) := rfl
theorem kX9_sign_5 : kX9_sign 5 = some (s_get 8 9 8) := rfl
theorem kX9_sign_8 : kX9_sign 8 = some (s_icmp 11 15 (fun x y => x < y)) := rfl
theorem kX9_sign_11 : kX9_sign 11 = some (s_push 12 (.inl (-1))) := rfl
theorem kX9_sign_12 : kX9_sign 12 = some (s_goto 24) := rfl
theorem kX9_sign_15 : kX9_sign 15 = some (s_ald 16 0) := rfl
theorem kX9_sign_16 : kX9_sign 16 = some (s_get 19 9 6) := rfl
theorem kX9_sign_19 : kX9_sign 19 = some (s_ald 20 0) := rfl
theorem kX9_sign_20 : kX9_sign 20 = some (s_get 23 9 9) := rfl
theorem kX9_sign_23 : kX9_sign 23 = some (s_iald 24) := rfl
theorem kX9_sign_24 : kX9_sign 24 = some (s_ret) := rfl
def wX9_sign : m_GK := m_wp 1 kX9_sign
set_option maxRecDepth 100000 in
set_option maxHeartbeats 4000000 in
theorem sX9_sign (l : Launch) (X : m_X) (hX : m_inj X.1) : m_Sound l X 1 yX9_sign cX9_sign 1 (some .int) wX9_sign := m_sound_of hX (by decide) (fun p e s m args below meth c q C hr => m_bt_all (m_bt_all (m_bt_all (m_lf_all (o_aload_n C (i := 0) rfl dX9_sign_0 rfl)) (m_bt_all (m_lf_all (o_get C (ci := 9) (k := 9) (N := 35) (rf := RX9) (T := TX9) rfl ginX9 (Nat.le_of_ble_eq_true rfl) (m_tb_of 935 (by decide +kernel) rfl) dX9_sign_1 rfl)) (m_lf_all (o_aload_n C (i := 0) rfl dX9_sign_4 rfl)))) (m_bt_all (m_lf_all (o_get C (ci := 9) (k := 8) (N := 35) (rf := RX9) (T := TX9) rfl ginX9 (Nat.le_of_ble_eq_true rfl) (m_tb_of 934 (by decide +kernel) rfl) dX9_sign_5 rfl)) (m_bt_all (m_lf_all (o_icmp_lt C dX9_sign_8 rfl rfl)) (m_lf_all (o_iconst C (x := (-1)) (m_rngd rfl) dX9_sign_11 rfl))))) (m_bt_all (m_bt_all (m_lf_all (o_goto C dX9_sign_12 rfl)) (m_bt_all (m_lf_all (o_aload_n C (i := 0) rfl dX9_sign_15 rfl)) (m_lf_all (o_get C (ci := 9) (k := 6) (N := 35) (rf := RX9) (T := TX9) rfl ginX9 (Nat.le_of_ble_eq_true rfl) (m_tb_of 932 (by decide +kernel) rfl) dX9_sign_16 rfl)))) (m_bt_all (m_bt_all (m_lf_all (o_aload_n C (i := 0) rfl dX9_sign_19 rfl)) (m_lf_all (o_get C (ci := 9) (k := 9) (N := 35) (rf := RX9) (T := TX9) rfl ginX9 (Nat.le_of_ble_eq_true rfl) (m_tb_of 935 (by decide +kernel) rfl) dX9_sign_20 rfl))) (m_bt_all (m_lf_all (o_iald C dX9_sign_23 rfl)) (m_lf_all (o_iret C hr dX9_sign_24))))))
set_option maxRecDepth 20000 in
def kX9_isDigit : m_C := m_bt 13 (m_bt 6 (m_bt 1 (m_lf 0 (s_ald 1 0)) (m_bt 4 (m_lf 1 (s_callV 4 1 9 wX9_sign)) (m_lf 4 (s_push 6 (.inl (48)))))) (m_bt 9 (m_lf 6 (s_icmp 9 22 (fun x y => x < y))) (m_bt 10 (m_lf 9 (s_ald 10 0)) (m_lf 10 (s_callV 13 1 9 wX9_sign))))) (m_bt 19 (m_bt 15 (m_lf 13 (s_push 15 (.inl (57)))) (m_bt 18 (m_lf 15 (s_icmp 18 22 (fun x y => y < x))) (m_lf 18 (s_push 19 (.inl (1)))))) (m_bt 22 (m_lf 19 (s_goto 23)) (m_bt 23 (m_lf 22 (s_push 23 (.inl (0)))) (m_lf 23 (s_retz)))))
theorem kX9_isDigit_0 : kX9_isDigit 0 = some (s_ald 1 0) := rfl
theorem kX9_isDigit_1 : kX9_isDigit 1 = some (s_callV 4 1 9 wX9_sign) := rfl
theorem kX9_isDigit_4 : kX9_isDigit 4 = some (s_push 6 (.inl (48))) := rfl
theorem kX9_isDigit_6 : kX9_isDigit 6 = some (s_icmp 9 22 (fun x y => x < y)) := rfl
theorem kX9_isDigit_9 : kX9_isDigit 9 = some (s_ald 10 0) := rfl
theorem kX9_isDigit_10 : kX9_isDigit 10 = some (s_callV 13 1 9 wX9_sign) := rfl
theorem kX9_isDigit_13 : kX9_isDigit 13 = some (s_push 15 (.inl (57))) := rfl
theorem kX9_isDigit_15 : kX9_isDigit 15 = some (s_icmp 18 22 (fun x y => y < x)) := rfl
theorem kX9_isDigit_18 : kX9_isDigit 18 = some (s_push 19 (.inl (1))) := rfl
theorem kX9_isDigit_19 : kX9_isDigit 19 = some (s_goto 23) := rfl
theorem kX9_isDigit_22 : kX9_isDigit 22 = some (s_push 23 (.inl (0))) := rfl
theorem kX9_isDigit_23 : kX9_isDigit 23 = some (s_retz) := rfl
def wX9_isDigit : m_GK := m_wp 1 kX9_isDigit
set_option maxRecDepth 100000 in
set_option maxHeartbeats 4000000 in
theorem sX9_isDigit (l : Launch) (X : m_X) (hX : m_inj X.1) : m_Sound l X 2 yX9_isDigit cX9_isDigit 1 (some .boolean) wX9_isDigit := m_sound_of hX (by decide) (fun p e s m args below meth c q C hr => m_bt_all (m_bt_all (m_bt_all (m_lf_all (o_aload_n C (i := 0) rfl dX9_isDigit_0 rfl)) (m_bt_all (m_lf_all (o_callV C (T := TX9) (N := 35) (sX9_sign l X hX) rfl (m_in_of [1053, 1055, 33, 81] (by decide +kernel) (by decide +kernel)) (m_tb_of 1056 (by decide +kernel) rfl) (by decide +kernel) rfl ⟨Nat.le_of_ble_eq_true rfl, Nat.le_of_ble_eq_true rfl⟩ dX9_isDigit_1 rfl)) (m_lf_all (o_bipush C (x := (48)) (m_rngd rfl) rfl dX9_isDigit_4 rfl)))) (m_bt_all (m_lf_all (o_icmp_lt C dX9_isDigit_6 rfl rfl)) (m_bt_all (m_lf_all (o_aload_n C (i := 0) rfl dX9_isDigit_9 rfl)) (m_lf_all (o_callV C (T := TX9) (N := 35) (sX9_sign l X hX) rfl (m_in_of [1053, 1055, 33, 81] (by decide +kernel) (by decide +kernel)) (m_tb_of 1056 (by decide +kernel) rfl) (by decide +kernel) rfl ⟨Nat.le_of_ble_eq_true rfl, Nat.le_of_ble_eq_true rfl⟩ dX9_isDigit_10 rfl))))) (m_bt_all (m_bt_all (m_lf_all (o_bipush C (x := (57)) (m_rngd rfl) rfl dX9_isDigit_13 rfl)) (m_bt_all (m_lf_all (o_icmp_gt C dX9_isDigit_15 rfl rfl)) (m_lf_all (o_iconst C (x := (1)) (m_rngd rfl) dX9_isDigit_18 rfl)))) (m_bt_all (m_lf_all (o_goto C dX9_isDigit_19 rfl)) (m_bt_all (m_lf_all (o_iconst C (x := (0)) (m_rngd rfl) dX9_isDigit_22 rfl)) (m_lf_all (o_zret C hr dX9_isDigit_23))))))
set_option maxRecDepth 20000 in
def kX9_takes : m_C := m_bt 11 (m_bt 5 (m_bt 1 (m_lf 0 (s_ald 1 0)) (m_bt 4 (m_lf 1 (s_callV 4 1 9 wX9_sign)) (m_lf 4 (s_ild 5 1)))) (m_bt 9 (m_bt 8 (m_lf 5 (s_icmp 8 10 (fun x y => x = y))) (m_lf 8 (s_push 9 (.inl (0))))) (m_bt 10 (m_lf 9 (s_retz)) (m_lf 10 (s_ald 11 0))))) (m_bt 16 (m_bt 12 (m_lf 11 (s_dup 12)) (m_bt 15 (m_lf 12 (s_get 15 9 9)) (m_lf 15 (s_push 16 (.inl (1)))))) (m_bt 20 (m_bt 17 (m_lf 16 (s_bin 17 (fun x y => m_wrap (x + y)))) (m_lf 17 (s_put 20 9 9))) (m_bt 21 (m_lf 20 (s_push 21 (.inl (1)))) (m_lf 21 (s_retz)))))
theorem kX9_takes_0 : kX9_takes 0 = some (s_ald 1 0) := rfl
theorem kX9_takes_1 : kX9_takes 1 = some (s_callV 4 1 9 wX9_sign) := rfl
theorem kX9_takes_4 : kX9_takes 4 = some (s_ild 5 1) := rfl
theorem kX9_takes_5 : kX9_takes 5 = some (s_icmp 8 10 (fun x y => x = y)) := rfl
theorem kX9_takes_8 : kX9_takes 8 = some (s_push 9 (.inl (0))) := rfl
theorem kX9_takes_9 : kX9_takes 9 = some (s_retz) := rfl
theorem kX9_takes_10 : kX9_takes 10 = some (s_ald 11 0) := rfl
theorem kX9_takes_11 : kX9_takes 11 = some (s_dup 12) := rfl
theorem kX9_takes_12 : kX9_takes 12 = some (s_get 15 9 9) := rfl
theorem kX9_takes_15 : kX9_takes 15 = some (s_push 16 (.inl (1))) := rfl
theorem kX9_takes_16 : kX9_takes 16 = some (s_bin 17 (fun x y => m_wrap (x + y))) := rfl
theorem kX9_takes_17 : kX9_takes 17 = some (s_put 20 9 9) := rfl
theorem kX9_takes_20 : kX9_takes 20 = some (s_push 21 (.inl (1))) := rfl
theorem kX9_takes_21 : kX9_takes 21 = some (s_retz) := rfl
def wX9_takes : m_GK := m_wp 2 kX9_takes
set_option maxRecDepth 100000 in
set_option maxHeartbeats 4000000 in
theorem sX9_takes (l : Launch) (X : m_X) (hX : m_inj X.1) : m_Sound l X 2 yX9_takes cX9_takes 2 (some .boolean) wX9_takes := m_sound_of hX (by decide) (fun p e s m args below meth c q C hr => m_bt_all (m_bt_all (m_bt_all (m_lf_all (o_aload_n C (i := 0) rfl dX9_takes_0 rfl)) (m_bt_all (m_lf_all (o_callV C (T := TX9) (N := 35) (sX9_sign l X hX) rfl (m_in_of [1053, 1055, 33, 81] (by decide +kernel) (by decide +kernel)) (m_tb_of 1056 (by decide +kernel) rfl) (by decide +kernel) rfl ⟨Nat.le_of_ble_eq_true rfl, Nat.le_of_ble_eq_true rfl⟩ dX9_takes_1 rfl)) (m_lf_all (o_iload_n C (i := 1) rfl dX9_takes_4 rfl)))) (m_bt_all (m_bt_all (m_lf_all (o_icmp_eq C dX9_takes_5 rfl rfl)) (m_lf_all (o_iconst C (x := (0)) (m_rngd rfl) dX9_takes_8 rfl))) (m_bt_all (m_lf_all (o_zret C hr dX9_takes_9)) (m_lf_all (o_aload_n C (i := 0) rfl dX9_takes_10 rfl))))) (m_bt_all (m_bt_all (m_lf_all (o_dup C dX9_takes_11 rfl)) (m_bt_all (m_lf_all (o_get C (ci := 9) (k := 9) (N := 35) (rf := RX9) (T := TX9) rfl ginX9 (Nat.le_of_ble_eq_true rfl) (m_tb_of 935 (by decide +kernel) rfl) dX9_takes_12 rfl)) (m_lf_all (o_iconst C (x := (1)) (m_rngd rfl) dX9_takes_15 rfl)))) (m_bt_all (m_bt_all (m_lf_all (o_iadd C dX9_takes_16 rfl)) (m_lf_all (o_put C (ci := 9) (k := 9) (N := 35) (rf := RX9) (T := TX9) rfl ginX9 (Nat.le_of_ble_eq_true rfl) (m_tb_of 935 (by decide +kernel) rfl) (ty0 := tyX9) tyX9_ok nmX9 rfl rfl dX9_takes_17 rfl))) (m_bt_all (m_lf_all (o_iconst C (x := (1)) (m_rngd rfl) dX9_takes_20 rfl)) (m_lf_all (o_zret C hr dX9_takes_21))))))
set_option maxRecDepth 20000 in
def kX9_readsNumber : m_C := m_bt 35 (m_bt 16 (m_bt 9 (m_bt 4 (m_bt 1 (m_lf 0 (s_ald 1 0)) (m_lf 1 (s_callV 4 1 9 wX9_isDigit))) (m_bt 7 (m_lf 4 (s_if 7 9 (fun x => ¬ x = 0))) (m_bt 8 (m_lf 7 (s_push 8 (.inl (0)))) (m_lf 8 (s_retz))))) (m_bt 13 (m_bt 10 (m_lf 9 (s_ald 10 0)) (m_lf 10 (s_get 13 9 7))) (m_bt 14 (m_lf 13 (s_ild 14 1)) (m_bt 15 (m_lf 14 (s_push 15 (.inl (0)))) (m_lf 15 (s_iast 16)))))) (m_bt 23 (m_bt 18 (m_bt 17 (m_lf 16 (s_push 17 (.inl (0)))) (m_lf 17 (s_ist 18 3))) (m_bt 19 (m_lf 18 (s_ild 19 3)) (m_bt 20 (m_lf 19 (s_ild 20 2)) (m_lf 20 (s_icmp 23 69 (fun x y => y ≤ x)))))) (m_bt 30 (m_bt 24 (m_lf 23 (s_ald 24 0)) (m_bt 27 (m_lf 24 (s_callV 27 1 9 wX9_isDigit)) (m_lf 27 (s_if 30 69 (fun x => x = 0))))) (m_bt 31 (m_lf 30 (s_ald 31 0)) (m_bt 34 (m_lf 31 (s_get 34 9 7)) (m_lf 34 (s_ild 35 1))))))) (m_bt 52 (m_bt 43 (m_bt 38 (m_bt 37 (m_lf 35 (s_push 37 (.inl (10)))) (m_lf 37 (s_ald 38 0))) (m_bt 41 (m_lf 38 (s_get 41 9 7)) (m_bt 42 (m_lf 41 (s_ild 42 1)) (m_lf 42 (s_iald 43))))) (m_bt 48 (m_bt 44 (m_lf 43 (s_bin 44 (fun x y => m_wrap (x * y)))) (m_bt 45 (m_lf 44 (s_ald 45 0)) (m_lf 45 (s_callV 48 1 9 wX9_sign)))) (m_bt 49 (m_lf 48 (s_bin 49 (fun x y => m_wrap (x + y)))) (m_bt 51 (m_lf 49 (s_push 51 (.inl (48)))) (m_lf 51 (s_bin 52 (fun x y => m_wrap (x - y)))))))) (m_bt 59 (m_bt 54 (m_bt 53 (m_lf 52 (s_iast 53)) (m_lf 53 (s_ald 54 0))) (m_bt 55 (m_lf 54 (s_dup 55)) (m_bt 58 (m_lf 55 (s_get 58 9 9)) (m_lf 58 (s_push 59 (.inl (1))))))) (m_bt 66 (m_bt 60 (m_lf 59 (s_bin 60 (fun x y => m_wrap (x + y)))) (m_bt 63 (m_lf 60 (s_put 63 9 9)) (m_lf 63 (s_inc 66 3 (1))))) (m_bt 69 (m_lf 66 (s_goto 18)) (m_bt 70 (m_lf 69 (s_push 70 (.inl (1)))) (m_lf 70 (s_retz)))))))
theorem kX9_readsNumber_0 : kX9_readsNumber 0 = some (s_ald 1 0) := rfl
theorem kX9_readsNumber_1 : kX9_readsNumber 1 = some (s_callV 4 1 9 wX9_isDigit) := rfl
theorem kX9_readsNumber_4 : kX9_readsNumber 4 = some (s_if 7 9 (fun x => ¬ x = 0)) := rfl
theorem kX9_readsNumber_7 : kX9_readsNumber 7 = some (s_push 8 (.inl (0))) := rfl
theorem kX9_readsNumber_8 : kX9_readsNumber 8 = some (s_retz) := rfl
theorem kX9_readsNumber_9 : kX9_readsNumber 9 = some (s_ald 10 0) := rfl
theorem kX9_readsNumber_10 : kX9_readsNumber 10 = some (s_get 13 9 7) := rfl
theorem kX9_readsNumber_13 : kX9_readsNumber 13 = some (s_ild 14 1) := rfl
theorem kX9_readsNumber_14 : kX9_readsNumber 14 = some (s_push 15 (.inl (0))) := rfl
theorem kX9_readsNumber_15 : kX9_readsNumber 15 = some (s_iast 16) := rfl
theorem kX9_readsNumber_16 : kX9_readsNumber 16 = some (s_push 17 (.inl (0))) := rfl
theorem kX9_readsNumber_17 : kX9_readsNumber 17 = some (s_ist 18 3) := rfl
theorem kX9_readsNumber_18 : kX9_readsNumber 18 = some (s_ild 19 3) := rfl
theorem kX9_readsNumber_19 : kX9_readsNumber 19 = some (s_ild 20 2) := rfl
theorem kX9_readsNumber_20 : kX9_readsNumber 20 = some (s_icmp 23 69 (fun x y => y ≤ x)) := rfl
theorem kX9_readsNumber_23 : kX9_readsNumber 23 = some (s_ald 24 0) := rfl
theorem kX9_readsNumber_24 : kX9_readsNumber 24 = some (s_callV 27 1 9 wX9_isDigit) := rfl
theorem kX9_readsNumber_27 : kX9_readsNumber 27 = some (s_if 30 69 (fun x => x = 0)) := rfl
theorem kX9_readsNumber_30 : kX9_readsNumber 30 = some (s_ald 31 0) := rfl
theorem kX9_readsNumber_31 : kX9_readsNumber 31 = some (s_get 34 9 7) := rfl
theorem kX9_readsNumber_34 : kX9_readsNumber 34 = some (s_ild 35 1) := rfl
theorem kX9_readsNumber_35 : kX9_readsNumber 35 = some (s_push 37 (.inl (10))) := rfl
theorem kX9_readsNumber_37 : kX9_readsNumber 37 = some (s_ald 38 0) := rfl
theorem kX9_readsNumber_38 : kX9_readsNumber 38 = some (s_get 41 9 7) := rfl
theorem kX9_readsNumber_41 : kX9_readsNumber 41 = some (s_ild 42 1) := rfl
theorem kX9_readsNumber_42 : kX9_readsNumber 42 = some (s_iald 43) := rfl
theorem kX9_readsNumber_43 : kX9_readsNumber 43 = some (s_bin 44 (fun x y => m_wrap (x * y))) := rfl
theorem kX9_readsNumber_44 : kX9_readsNumber 44 = some (s_ald 45 0) := rfl
theorem kX9_readsNumber_45 : kX9_readsNumber 45 = some (s_callV 48 1 9 wX9_sign) := rfl
theorem kX9_readsNumber_48 : kX9_readsNumber 48 = some (s_bin 49 (fun x y => m_wrap (x + y))) := rfl
theorem kX9_readsNumber_49 : kX9_readsNumber 49 = some (s_push 51 (.inl (48))) := rfl
theorem kX9_readsNumber_51 : kX9_readsNumber 51 = some (s_bin 52 (fun x y => m_wrap (x - y))) := rfl
theorem kX9_readsNumber_52 : kX9_readsNumber 52 = some (s_iast 53) := rfl
theorem kX9_readsNumber_53 : kX9_readsNumber 53 = some (s_ald 54 0) := rfl
theorem kX9_readsNumber_54 : kX9_readsNumber 54 = some (s_dup 55) := rfl
theorem kX9_readsNumber_55 : kX9_readsNumber 55 = some (s_get 58 9 9) := rfl
theorem kX9_readsNumber_58 : kX9_readsNumber 58 = some (s_push 59 (.inl (1))) := rfl
theorem kX9_readsNumber_59 : kX9_readsNumber 59 = some (s_bin 60 (fun x y => m_wrap (x + y))) := rfl
theorem kX9_readsNumber_60 : kX9_readsNumber 60 = some (s_put 63 9 9) := rfl
theorem kX9_readsNumber_63 : kX9_readsNumber 63 = some (s_inc 66 3 (1)) := rfl
theorem kX9_readsNumber_66 : kX9_readsNumber 66 = some (s_goto 18) := rfl
theorem kX9_readsNumber_69 : kX9_readsNumber 69 = some (s_push 70 (.inl (1))) := rfl
theorem kX9_readsNumber_70 : kX9_readsNumber 70 = some (s_retz) := rfl
def wX9_readsNumber : m_GK := m_wp 4 kX9_readsNumber
set_option maxRecDepth 100000 in
set_option maxHeartbeats 4000000 in
theorem sX9_readsNumber (l : Launch) (X : m_X) (hX : m_inj X.1) : m_Sound l X 3 yX9_readsNumber cX9_readsNumber 4 (some .boolean) wX9_readsNumber := m_sound_of hX (by decide) (fun p e s m args below meth c q C hr => m_bt_all (m_bt_all (m_bt_all (m_bt_all (m_bt_all (m_lf_all (o_aload_n C (i := 0) rfl dX9_readsNumber_0 rfl)) (m_lf_all (o_callV C (T := TX9) (N := 35) (sX9_isDigit l X hX) rfl (m_in_of [1061, 1063, 35, 81] (by decide +kernel) (by decide +kernel)) (m_tb_of 1064 (by decide +kernel) rfl) (by decide +kernel) rfl ⟨Nat.le_of_ble_eq_true rfl, Nat.le_of_ble_eq_true rfl⟩ dX9_readsNumber_1 rfl))) (m_bt_all (m_lf_all (o_if_ne C dX9_readsNumber_4 rfl rfl)) (m_bt_all (m_lf_all (o_iconst C (x := (0)) (m_rngd rfl) dX9_readsNumber_7 rfl)) (m_lf_all (o_zret C hr dX9_readsNumber_8))))) (m_bt_all (m_bt_all (m_lf_all (o_aload_n C (i := 0) rfl dX9_readsNumber_9 rfl)) (m_lf_all (o_get C (ci := 9) (k := 7) (N := 35) (rf := RX9) (T := TX9) rfl ginX9 (Nat.le_of_ble_eq_true rfl) (m_tb_of 933 (by decide +kernel) rfl) dX9_readsNumber_10 rfl))) (m_bt_all (m_lf_all (o_iload_n C (i := 1) rfl dX9_readsNumber_13 rfl)) (m_bt_all (m_lf_all (o_iconst C (x := (0)) (m_rngd rfl) dX9_readsNumber_14 rfl)) (m_lf_all (o_iast C dX9_readsNumber_15 rfl)))))) (m_bt_all (m_bt_all (m_bt_all (m_lf_all (o_iconst C (x := (0)) (m_rngd rfl) dX9_readsNumber_16 rfl)) (m_lf_all (o_istore_n C (i := 3) rfl dX9_readsNumber_17 rfl))) (m_bt_all (m_lf_all (o_iload_n C (i := 3) rfl dX9_readsNumber_18 rfl)) (m_bt_all (m_lf_all (o_iload_n C (i := 2) rfl dX9_readsNumber_19 rfl)) (m_lf_all (o_icmp_ge C dX9_readsNumber_20 rfl rfl))))) (m_bt_all (m_bt_all (m_lf_all (o_aload_n C (i := 0) rfl dX9_readsNumber_23 rfl)) (m_bt_all (m_lf_all (o_callV C (T := TX9) (N := 35) (sX9_isDigit l X hX) rfl (m_in_of [1061, 1063, 35, 81] (by decide +kernel) (by decide +kernel)) (m_tb_of 1064 (by decide +kernel) rfl) (by decide +kernel) rfl ⟨Nat.le_of_ble_eq_true rfl, Nat.le_of_ble_eq_true rfl⟩ dX9_readsNumber_24 rfl)) (m_lf_all (o_if_eq C dX9_readsNumber_27 rfl rfl)))) (m_bt_all (m_lf_all (o_aload_n C (i := 0) rfl dX9_readsNumber_30 rfl)) (m_bt_all (m_lf_all (o_get C (ci := 9) (k := 7) (N := 35) (rf := RX9) (T := TX9) rfl ginX9 (Nat.le_of_ble_eq_true rfl) (m_tb_of 933 (by decide +kernel) rfl) dX9_readsNumber_31 rfl)) (m_lf_all (o_iload_n C (i := 1) rfl dX9_readsNumber_34 rfl))))))) (m_bt_all (m_bt_all (m_bt_all (m_bt_all (m_lf_all (o_bipush C (x := (10)) (m_rngd rfl) rfl dX9_readsNumber_35 rfl)) (m_lf_all (o_aload_n C (i := 0) rfl dX9_readsNumber_37 rfl))) (m_bt_all (m_lf_all (o_get C (ci := 9) (k := 7) (N := 35) (rf := RX9) (T := TX9) rfl ginX9 (Nat.le_of_ble_eq_true rfl) (m_tb_of 933 (by decide +kernel) rfl) dX9_readsNumber_38 rfl)) (m_bt_all (m_lf_all (o_iload_n C (i := 1) rfl dX9_readsNumber_41 rfl)) (m_lf_all (o_iald C dX9_readsNumber_42 rfl))))) (m_bt_all (m_bt_all (m_lf_all (o_imul C dX9_readsNumber_43 rfl)) (m_bt_all (m_lf_all (o_aload_n C (i := 0) rfl dX9_readsNumber_44 rfl)) (m_lf_all (o_callV C (T := TX9) (N := 35) (sX9_sign l X hX) rfl (m_in_of [1053, 1055, 33, 81] (by decide +kernel) (by decide +kernel)) (m_tb_of 1056 (by decide +kernel) rfl) (by decide +kernel) rfl ⟨Nat.le_of_ble_eq_true rfl, Nat.le_of_ble_eq_true rfl⟩ dX9_readsNumber_45 rfl)))) (m_bt_all (m_lf_all (o_iadd C dX9_readsNumber_48 rfl)) (m_bt_all (m_lf_all (o_bipush C (x := (48)) (m_rngd rfl) rfl dX9_readsNumber_49 rfl)) (m_lf_all (o_isub C dX9_readsNumber_51 rfl)))))) (m_bt_all (m_bt_all (m_bt_all (m_lf_all (o_iast C dX9_readsNumber_52 rfl)) (m_lf_all (o_aload_n C (i := 0) rfl dX9_readsNumber_53 rfl))) (m_bt_all (m_lf_all (o_dup C dX9_readsNumber_54 rfl)) (m_bt_all (m_lf_all (o_get C (ci := 9) (k := 9) (N := 35) (rf := RX9) (T := TX9) rfl ginX9 (Nat.le_of_ble_eq_true rfl) (m_tb_of 935 (by decide +kernel) rfl) dX9_readsNumber_55 rfl)) (m_lf_all (o_iconst C (x := (1)) (m_rngd rfl) dX9_readsNumber_58 rfl))))) (m_bt_all (m_bt_all (m_lf_all (o_iadd C dX9_readsNumber_59 rfl)) (m_bt_all (m_lf_all (o_put C (ci := 9) (k := 9) (N := 35) (rf := RX9) (T := TX9) rfl ginX9 (Nat.le_of_ble_eq_true rfl) (m_tb_of 935 (by decide +kernel) rfl) (ty0 := tyX9) tyX9_ok nmX9 rfl rfl dX9_readsNumber_60 rfl)) (m_lf_all (o_iinc C dX9_readsNumber_63 rfl)))) (m_bt_all (m_lf_all (o_goto C dX9_readsNumber_66 rfl)) (m_bt_all (m_lf_all (o_iconst C (x := (1)) (m_rngd rfl) dX9_readsNumber_69 rfl)) (m_lf_all (o_zret C hr dX9_readsNumber_70))))))))
set_option maxRecDepth 20000 in
def kX9_readsStatement : m_C := m_bt 80 (m_bt 38 (m_bt 20 (m_bt 8 (m_bt 4 (m_bt 1 (m_lf 0 (s_ald 1 0)) (m_lf 1 (s_callV 4 1 9 wX9_sign))) (m_bt 5 (m_lf 4 (s_ist 5 1)) (m_bt 6 (m_lf 5 (s_ild 6 1)) (m_lf 6 (s_push 8 (.inl (115))))))) (m_bt 14 (m_bt 11 (m_lf 8 (s_icmp 11 31 (fun x y => x = y))) (m_bt 12 (m_lf 11 (s_ild 12 1)) (m_lf 12 (s_push 14 (.inl (108)))))) (m_bt 17 (m_lf 14 (s_icmp 17 31 (fun x y => x = y))) (m_bt 18 (m_lf 17 (s_ild 18 1)) (m_lf 18 (s_push 20 (.inl (97)))))))) (m_bt 30 (m_bt 24 (m_bt 23 (m_lf 20 (s_icmp 23 31 (fun x y => x = y))) (m_lf 23 (s_ild 24 1))) (m_bt 26 (m_lf 24 (s_push 26 (.inl (113)))) (m_bt 29 (m_lf 26 (s_icmp 29 31 (fun x y => x = y))) (m_lf 29 (s_push 30 (.inl (0))))))) (m_bt 33 (m_bt 31 (m_lf 30 (s_retz)) (m_bt 32 (m_lf 31 (s_ald 32 0)) (m_lf 32 (s_dup 33)))) (m_bt 36 (m_lf 33 (s_get 36 9 9)) (m_bt 37 (m_lf 36 (s_push 37 (.inl (1)))) (m_lf 37 (s_bin 38 (fun x y => m_wrap (x + y))))))))) (m_bt 59 (m_bt 48 (m_bt 42 (m_bt 41 (m_lf 38 (s_put 41 9 9)) (m_lf 41 (s_ild 42 1))) (m_bt 44 (m_lf 42 (s_push 44 (.inl (108)))) (m_bt 47 (m_lf 44 (s_icmp 47 71 (fun x y => ¬ x = y))) (m_lf 47 (s_ald 48 0))))) (m_bt 53 (m_bt 49 (m_lf 48 (s_push 49 (.inl (0)))) (m_bt 50 (m_lf 49 (s_push 50 (.inl (2)))) (m_lf 50 (s_callV 53 3 9 wX9_readsNumber)))) (m_bt 56 (m_lf 53 (s_if 56 69 (fun x => x = 0))) (m_bt 57 (m_lf 56 (s_ald 57 0)) (m_lf 57 (s_push 59 (.inl (59)))))))) (m_bt 71 (m_bt 66 (m_bt 62 (m_lf 59 (s_callV 62 2 9 wX9_takes)) (m_bt 65 (m_lf 62 (s_if 65 69 (fun x => x = 0))) (m_lf 65 (s_push 66 (.inl (1)))))) (m_bt 69 (m_lf 66 (s_goto 70)) (m_bt 70 (m_lf 69 (s_push 70 (.inl (0)))) (m_lf 70 (s_retz))))) (m_bt 77 (m_bt 72 (m_lf 71 (s_ild 72 1)) (m_bt 74 (m_lf 72 (s_push 74 (.inl (115)))) (m_lf 74 (s_icmp 77 119 (fun x y => ¬ x = y))))) (m_bt 78 (m_lf 77 (s_ald 78 0)) (m_bt 79 (m_lf 78 (s_push 79 (.inl (0)))) (m_lf 79 (s_push 80 (.inl (2)))))))))) (m_bt 125 (m_bt 104 (m_bt 92 (m_bt 86 (m_bt 83 (m_lf 80 (s_callV 83 3 9 wX9_readsNumber)) (m_lf 83 (s_if 86 117 (fun x => x = 0)))) (m_bt 87 (m_lf 86 (s_ald 87 0)) (m_bt 89 (m_lf 87 (s_push 89 (.inl (44)))) (m_lf 89 (s_callV 92 2 9 wX9_takes))))) (m_bt 97 (m_bt 95 (m_lf 92 (s_if 95 117 (fun x => x = 0))) (m_bt 96 (m_lf 95 (s_ald 96 0)) (m_lf 96 (s_push 97 (.inl (1)))))) (m_bt 98 (m_lf 97 (s_push 98 (.inl (2)))) (m_bt 101 (m_lf 98 (s_callV 101 3 9 wX9_readsNumber)) (m_lf 101 (s_if 104 117 (fun x => x = 0))))))) (m_bt 117 (m_bt 110 (m_bt 105 (m_lf 104 (s_ald 105 0)) (m_bt 107 (m_lf 105 (s_push 107 (.inl (59)))) (m_lf 107 (s_callV 110 2 9 wX9_takes)))) (m_bt 113 (m_lf 110 (s_if 113 117 (fun x => x = 0))) (m_bt 114 (m_lf 113 (s_push 114 (.inl (1)))) (m_lf 114 (s_goto 118))))) (m_bt 120 (m_bt 118 (m_lf 117 (s_push 118 (.inl (0)))) (m_bt 119 (m_lf 118 (s_retz)) (m_lf 119 (s_ald 120 0)))) (m_bt 121 (m_lf 120 (s_push 121 (.inl (0)))) (m_bt 122 (m_lf 121 (s_push 122 (.inl (1)))) (m_lf 122 (s_callV 125 3 9 wX9_readsNumber))))))) (m_bt 147 (m_bt 134 (m_bt 129 (m_bt 128 (m_lf 125 (s_if 128 168 (fun x => x = 0))) (m_lf 128 (s_ald 129 0))) (m_bt 130 (m_lf 129 (s_push 130 (.inl (1)))) (m_bt 131 (m_lf 130 (s_push 131 (.inl (1)))) (m_lf 131 (s_callV 134 3 9 wX9_readsNumber))))) (m_bt 140 (m_bt 137 (m_lf 134 (s_if 137 168 (fun x => x = 0))) (m_bt 138 (m_lf 137 (s_ald 138 0)) (m_lf 138 (s_push 140 (.inl (44)))))) (m_bt 143 (m_lf 140 (s_callV 143 2 9 wX9_takes)) (m_bt 146 (m_lf 143 (s_if 146 168 (fun x => x = 0))) (m_lf 146 (s_ald 147 0)))))) (m_bt 158 (m_bt 152 (m_bt 148 (m_lf 147 (s_push 148 (.inl (2)))) (m_bt 149 (m_lf 148 (s_push 149 (.inl (2)))) (m_lf 149 (s_callV 152 3 9 wX9_readsNumber)))) (m_bt 155 (m_lf 152 (s_if 155 168 (fun x => x = 0))) (m_bt 156 (m_lf 155 (s_ald 156 0)) (m_lf 156 (s_push 158 (.inl (59))))))) (m_bt 165 (m_bt 161 (m_lf 158 (s_callV 161 2 9 wX9_takes)) (m_bt 164 (m_lf 161 (s_if 164 168 (fun x => x = 0))) (m_lf 164 (s_push 165 (.inl (1)))))) (m_bt 168 (m_lf 165 (s_goto 169)) (m_bt 169 (m_lf 168 (s_push 169 (.inl (0)))) (m_lf 169 (s_retz))))))))
theorem kX9_readsStatement_0 : kX9_readsStatement 0 = some (s_ald 1 0) := rfl
theorem kX9_readsStatement_1 : kX9_readsStatement 1 = some (s_callV 4 1 9 wX9_sign) := rfl
theorem kX9_readsStatement_4 : kX9_readsStatement 4 = some (s_ist 5 1) := rfl
theorem kX9_readsStatement_5 : kX9_readsStatement 5 = some (s_ild 6 1) := rfl
theorem kX9_readsStatement_6 : kX9_readsStatement 6 = some (s_push 8 (.inl (115))) := rfl
theorem kX9_readsStatement_8 : kX9_readsStatement 8 = some (s_icmp 11 31 (fun x y => x = y)) := rfl
theorem kX9_readsStatement_11 : kX9_readsStatement 11 = some (s_ild 12 1) := rfl
theorem kX9_readsStatement_12 : kX9_readsStatement 12 = some (s_push 14 (.inl (108))) := rfl
theorem kX9_readsStatement_14 : kX9_readsStatement 14 = some (s_icmp 17 31 (fun x y => x = y)) := rfl
theorem kX9_readsStatement_17 : kX9_readsStatement 17 = some (s_ild 18 1) := rfl
theorem kX9_readsStatement_18 : kX9_readsStatement 18 = some (s_push 20 (.inl (97))) := rfl
theorem kX9_readsStatement_20 : kX9_readsStatement 20 = some (s_icmp 23 31 (fun x y => x = y)) := rfl
theorem kX9_readsStatement_23 : kX9_readsStatement 23 = some (s_ild 24 1) := rfl
theorem kX9_readsStatement_24 : kX9_readsStatement 24 = some (s_push 26 (.inl (113))) := rfl
theorem kX9_readsStatement_26 : kX9_readsStatement 26 = some (s_icmp 29 31 (fun x y => x = y)) := rfl
theorem kX9_readsStatement_29 : kX9_readsStatement 29 = some (s_push 30 (.inl (0))) := rfl
theorem kX9_readsStatement_30 : kX9_readsStatement 30 = some (s_retz) := rfl
theorem kX9_readsStatement_31 : kX9_readsStatement 31 = some (s_ald 32 0) := rfl
theorem kX9_readsStatement_32 : kX9_readsStatement 32 = some (s_dup 33) := rfl
theorem kX9_readsStatement_33 : kX9_readsStatement 33 = some (s_get 36 9 9) := rfl
theorem kX9_readsStatement_36 : kX9_readsStatement 36 = some (s_push 37 (.inl (1))) := rfl
theorem kX9_readsStatement_37 : kX9_readsStatement 37 = some (s_bin 38 (fun x y => m_wrap (x + y))) := rfl
theorem kX9_readsStatement_38 : kX9_readsStatement 38 = some (s_put 41 9 9) := rfl
theorem kX9_readsStatement_41 : kX9_readsStatement 41 = some (s_ild 42 1) := rfl
theorem kX9_readsStatement_42 : kX9_readsStatement 42 = some (s_push 44 (.inl (108))) := rfl
theorem kX9_readsStatement_44 : kX9_readsStatement 44 = some (s_icmp 47 71 (fun x y => ¬ x = y)) := rfl
theorem kX9_readsStatement_47 : kX9_readsStatement 47 = some (s_ald 48 0) := rfl
theorem kX9_readsStatement_48 : kX9_readsStatement 48 = some (s_push 49 (.inl (0))) := rfl
theorem kX9_readsStatement_49 : kX9_readsStatement 49 = some (s_push 50 (.inl (2))) := rfl
theorem kX9_readsStatement_50 : kX9_readsStatement 50 = some (s_callV 53 3 9 wX9_readsNumber) := rfl
theorem kX9_readsStatement_53 : kX9_readsStatement 53 = some (s_if 56 69 (fun x => x = 0)) := rfl
theorem kX9_readsStatement_56 : kX9_readsStatement 56 = some (s_ald 57 0) := rfl
theorem kX9_readsStatement_57 : kX9_readsStatement 57 = some (s_push 59 (.inl (59))) := rfl
theorem kX9_readsStatement_59 : kX9_readsStatement 59 = some (s_callV 62 2 9 wX9_takes) := rfl
theorem kX9_readsStatement_62 : kX9_readsStatement 62 = some (s_if 65 69 (fun x => x = 0)) := rfl
theorem kX9_readsStatement_65 : kX9_readsStatement 65 = some (s_push 66 (.inl (1))) := rfl
theorem kX9_readsStatement_66 : kX9_readsStatement 66 = some (s_goto 70) := rfl
theorem kX9_readsStatement_69 : kX9_readsStatement 69 = some (s_push 70 (.inl (0))) := rfl
theorem kX9_readsStatement_70 : kX9_readsStatement 70 = some (s_retz) := rfl
theorem kX9_readsStatement_71 : kX9_readsStatement 71 = some (s_ild 72 1) := rfl
theorem kX9_readsStatement_72 : kX9_readsStatement 72 = some (s_push 74 (.inl (115))) := rfl
theorem kX9_readsStatement_74 : kX9_readsStatement 74 = some (s_icmp 77 119 (fun x y => ¬ x = y)) := rfl
theorem kX9_readsStatement_77 : kX9_readsStatement 77 = some (s_ald 78 0) := rfl
theorem kX9_readsStatement_78 : kX9_readsStatement 78 = some (s_push 79 (.inl (0))) := rfl
theorem kX9_readsStatement_79 : kX9_readsStatement 79 = some (s_push 80 (.inl (2))) := rfl
theorem kX9_readsStatement_80 : kX9_readsStatement 80 = some (s_callV 83 3 9 wX9_readsNumber) := rfl
theorem kX9_readsStatement_83 : kX9_readsStatement 83 = some (s_if 86 117 (fun x => x = 0)) := rfl
theorem kX9_readsStatement_86 : kX9_readsStatement 86 = some (s_ald 87 0) := rfl
theorem kX9_readsStatement_87 : kX9_readsStatement 87 = some (s_push 89 (.inl (44))) := rfl
theorem kX9_readsStatement_89 : kX9_readsStatement 89 = some (s_callV 92 2 9 wX9_takes) := rfl
theorem kX9_readsStatement_92 : kX9_readsStatement 92 = some (s_if 95 117 (fun x => x = 0)) := rfl
theorem kX9_readsStatement_95 : kX9_readsStatement 95 = some (s_ald 96 0) := rfl
theorem kX9_readsStatement_96 : kX9_readsStatement 96 = some (s_push 97 (.inl (1))) := rfl
theorem kX9_readsStatement_97 : kX9_readsStatement 97 = some (s_push 98 (.inl (2))) := rfl
theorem kX9_readsStatement_98 : kX9_readsStatement 98 = some (s_callV 101 3 9 wX9_readsNumber) := rfl
theorem kX9_readsStatement_101 : kX9_readsStatement 101 = some (s_if 104 117 (fun x => x = 0)) := rfl
theorem kX9_readsStatement_104 : kX9_readsStatement 104 = some (s_ald 105 0) := rfl
theorem kX9_readsStatement_105 : kX9_readsStatement 105 = some (s_push 107 (.inl (59))) := rfl
theorem kX9_readsStatement_107 : kX9_readsStatement 107 = some (s_callV 110 2 9 wX9_takes) := rfl
theorem kX9_readsStatement_110 : kX9_readsStatement 110 = some (s_if 113 117 (fun x => x = 0)) := rfl
theorem kX9_readsStatement_113 : kX9_readsStatement 113 = some (s_push 114 (.inl (1))) := rfl
theorem kX9_readsStatement_114 : kX9_readsStatement 114 = some (s_goto 118) := rfl
theorem kX9_readsStatement_117 : kX9_readsStatement 117 = some (s_push 118 (.inl (0))) := rfl
theorem kX9_readsStatement_118 : kX9_readsStatement 118 = some (s_retz) := rfl
theorem kX9_readsStatement_119 : kX9_readsStatement 119 = some (s_ald 120 0) := rfl
theorem kX9_readsStatement_120 : kX9_readsStatement 120 = some (s_push 121 (.inl (0))) := rfl
theorem kX9_readsStatement_121 : kX9_readsStatement 121 = some (s_push 122 (.inl (1))) := rfl
theorem kX9_readsStatement_122 : kX9_readsStatement 122 = some (s_callV 125 3 9 wX9_readsNumber) := rfl
theorem kX9_readsStatement_125 : kX9_readsStatement 125 = some (s_if 128 168 (fun x => x = 0)) := rfl
theorem kX9_readsStatement_128 : kX9_readsStatement 128 = some (s_ald 129 0) := rfl
theorem kX9_readsStatement_129 : kX9_readsStatement 129 = some (s_push 130 (.inl (1))) := rfl
theorem kX9_readsStatement_130 : kX9_readsStatement 130 = some (s_push 131 (.inl (1))) := rfl
theorem kX9_readsStatement_131 : kX9_readsStatement 131 = some (s_callV 134 3 9 wX9_readsNumber) := rfl
theorem kX9_readsStatement_134 : kX9_readsStatement 134 = some (s_if 137 168 (fun x => x = 0)) := rfl
theorem kX9_readsStatement_137 : kX9_readsStatement 137 = some (s_ald 138 0) := rfl
theorem kX9_readsStatement_138 : kX9_readsStatement 138 = some (s_push 140 (.inl (44))) := rfl
theorem kX9_readsStatement_140 : kX9_readsStatement 140 = some (s_callV 143 2 9 wX9_takes) := rfl
theorem kX9_readsStatement_143 : kX9_readsStatement 143 = some (s_if 146 168 (fun x => x = 0)) := rfl
theorem kX9_readsStatement_146 : kX9_readsStatement 146 = some (s_ald 147 0) := rfl
theorem kX9_readsStatement_147 : kX9_readsStatement 147 = some (s_push 148 (.inl (2))) := rfl
theorem kX9_readsStatement_148 : kX9_readsStatement 148 = some (s_push 149 (.inl (2))) := rfl
theorem kX9_readsStatement_149 : kX9_readsStatement 149 = some (s_callV 152 3 9 wX9_readsNumber) := rfl
theorem kX9_readsStatement_152 : kX9_readsStatement 152 = some (s_if 155 168 (fun x => x = 0)) := rfl
theorem kX9_readsStatement_155 : kX9_readsStatement 155 = some (s_ald 156 0) := rfl
theorem kX9_readsStatement_156 : kX9_readsStatement 156 = some (s_push 158 (.inl (59))) := rfl
theorem kX9_readsStatement_158 : kX9_readsStatement 158 = some (s_callV 161 2 9 wX9_takes) := rfl
theorem kX9_readsStatement_161 : kX9_readsStatement 161 = some (s_if 164 168 (fun x => x = 0)) := rfl
theorem kX9_readsStatement_164 : kX9_readsStatement 164 = some (s_push 165 (.inl (1))) := rfl
theorem kX9_readsStatement_165 : kX9_readsStatement 165 = some (s_goto 169) := rfl
theorem kX9_readsStatement_168 : kX9_readsStatement 168 = some (s_push 169 (.inl (0))) := rfl
theorem kX9_readsStatement_169 : kX9_readsStatement 169 = some (s_retz) := rfl
def wX9_readsStatement : m_GK := m_wp 2 kX9_readsStatement
set_option maxRecDepth 100000 in
set_option maxHeartbeats 4000000 in
theorem sX9_readsStatement (l : Launch) (X : m_X) (hX : m_inj X.1) : m_Sound l X 4 yX9_readsStatement cX9_readsStatement 2 (some .boolean) wX9_readsStatement := m_sound_of hX (by decide) (fun p e s m args below meth c q C hr => m_bt_all (m_bt_all (m_bt_all (m_bt_all (m_bt_all (m_bt_all (m_lf_all (o_aload_n C (i := 0) rfl dX9_readsStatement_0 rfl)) (m_lf_all (o_callV C (T := TX9) (N := 35) (sX9_sign l X hX) rfl (m_in_of [1053, 1055, 33, 81] (by decide +kernel) (by decide +kernel)) (m_tb_of 1056 (by decide +kernel) rfl) (by decide +kernel) rfl ⟨Nat.le_of_ble_eq_true rfl, Nat.le_of_ble_eq_true rfl⟩ dX9_readsStatement_1 rfl))) (m_bt_all (m_lf_all (o_istore_n C (i := 1) rfl dX9_readsStatement_4 rfl)) (m_bt_all (m_lf_all (o_iload_n C (i := 1) rfl dX9_readsStatement_5 rfl)) (m_lf_all (o_bipush C (x := (115)) (m_rngd rfl) rfl dX9_readsStatement_6 rfl))))) (m_bt_all (m_bt_all (m_lf_all (o_icmp_eq C dX9_readsStatement_8 rfl rfl)) (m_bt_all (m_lf_all (o_iload_n C (i := 1) rfl dX9_readsStatement_11 rfl)) (m_lf_all (o_bipush C (x := (108)) (m_rngd rfl) rfl dX9_readsStatement_12 rfl)))) (m_bt_all (m_lf_all (o_icmp_eq C dX9_readsStatement_14 rfl rfl)) (m_bt_all (m_lf_all (o_iload_n C (i := 1) rfl dX9_readsStatement_17 rfl)) (m_lf_all (o_bipush C (x := (97)) (m_rngd rfl) rfl dX9_readsStatement_18 rfl)))))) (m_bt_all (m_bt_all (m_bt_all (m_lf_all (o_icmp_eq C dX9_readsStatement_20 rfl rfl)) (m_lf_all (o_iload_n C (i := 1) rfl dX9_readsStatement_23 rfl))) (m_bt_all (m_lf_all (o_bipush C (x := (113)) (m_rngd rfl) rfl dX9_readsStatement_24 rfl)) (m_bt_all (m_lf_all (o_icmp_eq C dX9_readsStatement_26 rfl rfl)) (m_lf_all (o_iconst C (x := (0)) (m_rngd rfl) dX9_readsStatement_29 rfl))))) (m_bt_all (m_bt_all (m_lf_all (o_zret C hr dX9_readsStatement_30)) (m_bt_all (m_lf_all (o_aload_n C (i := 0) rfl dX9_readsStatement_31 rfl)) (m_lf_all (o_dup C dX9_readsStatement_32 rfl)))) (m_bt_all (m_lf_all (o_get C (ci := 9) (k := 9) (N := 35) (rf := RX9) (T := TX9) rfl ginX9 (Nat.le_of_ble_eq_true rfl) (m_tb_of 935 (by decide +kernel) rfl) dX9_readsStatement_33 rfl)) (m_bt_all (m_lf_all (o_iconst C (x := (1)) (m_rngd rfl) dX9_readsStatement_36 rfl)) (m_lf_all (o_iadd C dX9_readsStatement_37 rfl))))))) (m_bt_all (m_bt_all (m_bt_all (m_bt_all (m_lf_all (o_put C (ci := 9) (k := 9) (N := 35) (rf := RX9) (T := TX9) rfl ginX9 (Nat.le_of_ble_eq_true rfl) (m_tb_of 935 (by decide +kernel) rfl) (ty0 := tyX9) tyX9_ok nmX9 rfl rfl dX9_readsStatement_38 rfl)) (m_lf_all (o_iload_n C (i := 1) rfl dX9_readsStatement_41 rfl))) (m_bt_all (m_lf_all (o_bipush C (x := (108)) (m_rngd rfl) rfl dX9_readsStatement_42 rfl)) (m_bt_all (m_lf_all (o_icmp_ne C dX9_readsStatement_44 rfl rfl)) (m_lf_all (o_aload_n C (i := 0) rfl dX9_readsStatement_47 rfl))))) (m_bt_all (m_bt_all (m_lf_all (o_iconst C (x := (0)) (m_rngd rfl) dX9_readsStatement_48 rfl)) (m_bt_all (m_lf_all (o_iconst C (x := (2)) (m_rngd rfl) dX9_readsStatement_49 rfl)) (m_lf_all (o_callV C (T := TX9) (N := 35) (sX9_readsNumber l X hX) rfl (m_in_of [1057, 1059, 34, 81] (by decide +kernel) (by decide +kernel)) (m_tb_of 1060 (by decide +kernel) rfl) (by decide +kernel) rfl ⟨Nat.le_of_ble_eq_true rfl, Nat.le_of_ble_eq_true rfl⟩ dX9_readsStatement_50 rfl)))) (m_bt_all (m_lf_all (o_if_eq C dX9_readsStatement_53 rfl rfl)) (m_bt_all (m_lf_all (o_aload_n C (i := 0) rfl dX9_readsStatement_56 rfl)) (m_lf_all (o_bipush C (x := (59)) (m_rngd rfl) rfl dX9_readsStatement_57 rfl)))))) (m_bt_all (m_bt_all (m_bt_all (m_lf_all (o_callV C (T := TX9) (N := 35) (sX9_takes l X hX) rfl (m_in_of [1065, 1067, 36, 81] (by decide +kernel) (by decide +kernel)) (m_tb_of 1068 (by decide +kernel) rfl) (by decide +kernel) rfl ⟨Nat.le_of_ble_eq_true rfl, Nat.le_of_ble_eq_true rfl⟩ dX9_readsStatement_59 rfl)) (m_bt_all (m_lf_all (o_if_eq C dX9_readsStatement_62 rfl rfl)) (m_lf_all (o_iconst C (x := (1)) (m_rngd rfl) dX9_readsStatement_65 rfl)))) (m_bt_all (m_lf_all (o_goto C dX9_readsStatement_66 rfl)) (m_bt_all (m_lf_all (o_iconst C (x := (0)) (m_rngd rfl) dX9_readsStatement_69 rfl)) (m_lf_all (o_zret C hr dX9_readsStatement_70))))) (m_bt_all (m_bt_all (m_lf_all (o_iload_n C (i := 1) rfl dX9_readsStatement_71 rfl)) (m_bt_all (m_lf_all (o_bipush C (x := (115)) (m_rngd rfl) rfl dX9_readsStatement_72 rfl)) (m_lf_all (o_icmp_ne C dX9_readsStatement_74 rfl rfl)))) (m_bt_all (m_lf_all (o_aload_n C (i := 0) rfl dX9_readsStatement_77 rfl)) (m_bt_all (m_lf_all (o_iconst C (x := (0)) (m_rngd rfl) dX9_readsStatement_78 rfl)) (m_lf_all (o_iconst C (x := (2)) (m_rngd rfl) dX9_readsStatement_79 rfl)))))))) (m_bt_all (m_bt_all (m_bt_all (m_bt_all (m_bt_all (m_lf_all (o_callV C (T := TX9) (N := 35) (sX9_readsNumber l X hX) rfl (m_in_of [1057, 1059, 34, 81] (by decide +kernel) (by decide +kernel)) (m_tb_of 1060 (by decide +kernel) rfl) (by decide +kernel) rfl ⟨Nat.le_of_ble_eq_true rfl, Nat.le_of_ble_eq_true rfl⟩ dX9_readsStatement_80 rfl)) (m_lf_all (o_if_eq C dX9_readsStatement_83 rfl rfl))) (m_bt_all (m_lf_all (o_aload_n C (i := 0) rfl dX9_readsStatement_86 rfl)) (m_bt_all (m_lf_all (o_bipush C (x := (44)) (m_rngd rfl) rfl dX9_readsStatement_87 rfl)) (m_lf_all (o_callV C (T := TX9) (N := 35) (sX9_takes l X hX) rfl (m_in_of [1065, 1067, 36, 81] (by decide +kernel) (by decide +kernel)) (m_tb_of 1068 (by decide +kernel) rfl) (by decide +kernel) rfl ⟨Nat.le_of_ble_eq_true rfl, Nat.le_of_ble_eq_true rfl⟩ dX9_readsStatement_89 rfl))))) (m_bt_all (m_bt_all (m_lf_all (o_if_eq C dX9_readsStatement_92 rfl rfl)) (m_bt_all (m_lf_all (o_aload_n C (i := 0) rfl dX9_readsStatement_95 rfl)) (m_lf_all (o_iconst C (x := (1)) (m_rngd rfl) dX9_readsStatement_96 rfl)))) (m_bt_all (m_lf_all (o_iconst C (x := (2)) (m_rngd rfl) dX9_readsStatement_97 rfl)) (m_bt_all (m_lf_all (o_callV C (T := TX9) (N := 35) (sX9_readsNumber l X hX) rfl (m_in_of [1057, 1059, 34, 81] (by decide +kernel) (by decide +kernel)) (m_tb_of 1060 (by decide +kernel) rfl) (by decide +kernel) rfl ⟨Nat.le_of_ble_eq_true rfl, Nat.le_of_ble_eq_true rfl⟩ dX9_readsStatement_98 rfl)) (m_lf_all (o_if_eq C dX9_readsStatement_101 rfl rfl)))))) (m_bt_all (m_bt_all (m_bt_all (m_lf_all (o_aload_n C (i := 0) rfl dX9_readsStatement_104 rfl)) (m_bt_all (m_lf_all (o_bipush C (x := (59)) (m_rngd rfl) rfl dX9_readsStatement_105 rfl)) (m_lf_all (o_callV C (T := TX9) (N := 35) (sX9_takes l X hX) rfl (m_in_of [1065, 1067, 36, 81] (by decide +kernel) (by decide +kernel)) (m_tb_of 1068 (by decide +kernel) rfl) (by decide +kernel) rfl ⟨Nat.le_of_ble_eq_true rfl, Nat.le_of_ble_eq_true rfl⟩ dX9_readsStatement_107 rfl)))) (m_bt_all (m_lf_all (o_if_eq C dX9_readsStatement_110 rfl rfl)) (m_bt_all (m_lf_all (o_iconst C (x := (1)) (m_rngd rfl) dX9_readsStatement_113 rfl)) (m_lf_all (o_goto C dX9_readsStatement_114 rfl))))) (m_bt_all (m_bt_all (m_lf_all (o_iconst C (x := (0)) (m_rngd rfl) dX9_readsStatement_117 rfl)) (m_bt_all (m_lf_all (o_zret C hr dX9_readsStatement_118)) (m_lf_all (o_aload_n C (i := 0) rfl dX9_readsStatement_119 rfl)))) (m_bt_all (m_lf_all (o_iconst C (x := (0)) (m_rngd rfl) dX9_readsStatement_120 rfl)) (m_bt_all (m_lf_all (o_iconst C (x := (1)) (m_rngd rfl) dX9_readsStatement_121 rfl)) (m_lf_all (o_callV C (T := TX9) (N := 35) (sX9_readsNumber l X hX) rfl (m_in_of [1057, 1059, 34, 81] (by decide +kernel) (by decide +kernel)) (m_tb_of 1060 (by decide +kernel) rfl) (by decide +kernel) rfl ⟨Nat.le_of_ble_eq_true rfl, Nat.le_of_ble_eq_true rfl⟩ dX9_readsStatement_122 rfl))))))) (m_bt_all (m_bt_all (m_bt_all (m_bt_all (m_lf_all (o_if_eq C dX9_readsStatement_125 rfl rfl)) (m_lf_all (o_aload_n C (i := 0) rfl dX9_readsStatement_128 rfl))) (m_bt_all (m_lf_all (o_iconst C (x := (1)) (m_rngd rfl) dX9_readsStatement_129 rfl)) (m_bt_all (m_lf_all (o_iconst C (x := (1)) (m_rngd rfl) dX9_readsStatement_130 rfl)) (m_lf_all (o_callV C (T := TX9) (N := 35) (sX9_readsNumber l X hX) rfl (m_in_of [1057, 1059, 34, 81] (by decide +kernel) (by decide +kernel)) (m_tb_of 1060 (by decide +kernel) rfl) (by decide +kernel) rfl ⟨Nat.le_of_ble_eq_true rfl, Nat.le_of_ble_eq_true rfl⟩ dX9_readsStatement_131 rfl))))) (m_bt_all (m_bt_all (m_lf_all (o_if_eq C dX9_readsStatement_134 rfl rfl)) (m_bt_all (m_lf_all (o_aload_n C (i := 0) rfl dX9_readsStatement_137 rfl)) (m_lf_all (o_bipush C (x := (44)) (m_rngd rfl) rfl dX9_readsStatement_138 rfl)))) (m_bt_all (m_lf_all (o_callV C (T := TX9) (N := 35) (sX9_takes l X hX) rfl (m_in_of [1065, 1067, 36, 81] (by decide +kernel) (by decide +kernel)) (m_tb_of 1068 (by decide +kernel) rfl) (by decide +kernel) rfl ⟨Nat.le_of_ble_eq_true rfl, Nat.le_of_ble_eq_true rfl⟩ dX9_readsStatement_140 rfl)) (m_bt_all (m_lf_all (o_if_eq C dX9_readsStatement_143 rfl rfl)) (m_lf_all (o_aload_n C (i := 0) rfl dX9_readsStatement_146 rfl)))))) (m_bt_all (m_bt_all (m_bt_all (m_lf_all (o_iconst C (x := (2)) (m_rngd rfl) dX9_readsStatement_147 rfl)) (m_bt_all (m_lf_all (o_iconst C (x := (2)) (m_rngd rfl) dX9_readsStatement_148 rfl)) (m_lf_all (o_callV C (T := TX9) (N := 35) (sX9_readsNumber l X hX) rfl (m_in_of [1057, 1059, 34, 81] (by decide +kernel) (by decide +kernel)) (m_tb_of 1060 (by decide +kernel) rfl) (by decide +kernel) rfl ⟨Nat.le_of_ble_eq_true rfl, Nat.le_of_ble_eq_true rfl⟩ dX9_readsStatement_149 rfl)))) (m_bt_all (m_lf_all (o_if_eq C dX9_readsStatement_152 rfl rfl)) (m_bt_all (m_lf_all (o_aload_n C (i := 0) rfl dX9_readsStatement_155 rfl)) (m_lf_all (o_bipush C (x := (59)) (m_rngd rfl) rfl dX9_readsStatement_156 rfl))))) (m_bt_all (m_bt_all (m_lf_all (o_callV C (T := TX9) (N := 35) (sX9_takes l X hX) rfl (m_in_of [1065, 1067, 36, 81] (by decide +kernel) (by decide +kernel)) (m_tb_of 1068 (by decide +kernel) rfl) (by decide +kernel) rfl ⟨Nat.le_of_ble_eq_true rfl, Nat.le_of_ble_eq_true rfl⟩ dX9_readsStatement_158 rfl)) (m_bt_all (m_lf_all (o_if_eq C dX9_readsStatement_161 rfl rfl)) (m_lf_all (o_iconst C (x := (1)) (m_rngd rfl) dX9_readsStatement_164 rfl)))) (m_bt_all (m_lf_all (o_goto C dX9_readsStatement_165 rfl)) (m_bt_all (m_lf_all (o_iconst C (x := (0)) (m_rngd rfl) dX9_readsStatement_168 rfl)) (m_lf_all (o_zret C hr dX9_readsStatement_169)))))))))
set_option maxRecDepth 20000 in
def kX9_comes : m_C := m_bt 186 (m_bt 108 (m_bt 68 (m_bt 15 (m_bt 7 (m_bt 4 (m_bt 1 (m_lf 0 (s_ald 1 0)) (m_lf 1 (s_get 4 9 7))) (m_bt 5 (m_lf 4 (s_push 5 (.inl (0)))) (m_bt 6 (m_lf 5 (s_iald 6)) (m_lf 6 (s_ist 7 2))))) (m_bt 12 (m_bt 8 (m_lf 7 (s_ald 8 0)) (m_bt 11 (m_lf 8 (s_get 11 9 7)) (m_lf 11 (s_push 12 (.inl (1)))))) (m_bt 13 (m_lf 12 (s_iald 13)) (m_bt 14 (m_lf 13 (s_ist 14 3)) (m_lf 14 (s_ild 15 1)))))) (m_bt 56 (m_bt 50 (m_bt 48 (m_lf 15 (s_sw [(97, 228), (108, 148), (115, 48)] 280)) (m_bt 49 (m_lf 48 (s_ild 49 2)) (m_lf 49 (s_push 50 (.inl (1)))))) (m_bt 53 (m_lf 50 (s_icmp 53 74 (fun x y => x < y))) (m_bt 54 (m_lf 53 (s_ild 54 2)) (m_lf 54 (s_push 56 (.inl (60))))))) (m_bt 61 (m_bt 59 (m_lf 56 (s_icmp 59 74 (fun x y => y < x))) (m_bt 60 (m_lf 59 (s_ild 60 3)) (m_lf 60 (s_push 61 (.inl (1)))))) (m_bt 64 (m_lf 61 (s_icmp 64 74 (fun x y => x < y))) (m_bt 65 (m_lf 64 (s_ald 65 0)) (m_lf 65 (s_get 68 9 3))))))) (m_bt 86 (m_bt 76 (m_bt 71 (m_bt 69 (m_lf 68 (s_push 69 (.inl (0)))) (m_bt 70 (m_lf 69 (s_iald 70)) (m_lf 70 (s_push 71 (.inl (5)))))) (m_bt 74 (m_lf 71 (s_icmp 74 76 (fun x y => ¬ x = y))) (m_bt 75 (m_lf 74 (s_push 75 (.inl (0)))) (m_lf 75 (s_retz))))) (m_bt 81 (m_bt 78 (m_lf 76 (s_push 78 (.inl (10)))) (m_bt 80 (m_lf 78 (s_push 80 (.inl (6)))) (m_lf 80 (s_ald 81 0)))) (m_bt 84 (m_lf 81 (s_get 84 9 3)) (m_bt 85 (m_lf 84 (s_push 85 (.inl (0)))) (m_lf 85 (s_iald 86)))))) (m_bt 95 (m_bt 90 (m_bt 87 (m_lf 86 (s_bin 87 (fun x y => m_wrap (x * y)))) (m_bt 88 (m_lf 87 (s_bin 88 (fun x y => m_wrap (x + y)))) (m_lf 88 (s_ist 90 4)))) (m_bt 91 (m_lf 90 (s_push 91 (.inl (0)))) (m_bt 93 (m_lf 91 (s_ist 93 5)) (m_lf 93 (s_ild 95 5))))) (m_bt 101 (m_bt 97 (m_lf 95 (s_push 97 (.inl (6)))) (m_bt 100 (m_lf 97 (s_icmp 100 136 (fun x y => y ≤ x))) (m_lf 100 (s_ald 101 0)))) (m_bt 104 (m_lf 101 (s_get 104 9 3)) (m_bt 106 (m_lf 104 (s_ild 106 4)) (m_lf 106 (s_ild 108 5)))))))) (m_bt 148 (m_bt 130 (m_bt 120 (m_bt 114 (m_bt 109 (m_lf 108 (s_bin 109 (fun x y => m_wrap (x + y)))) (m_bt 111 (m_lf 109 (s_ild 111 5)) (m_lf 111 (s_if 114 118 (fun x => ¬ x = 0))))) (m_bt 115 (m_lf 114 (s_ild 115 2)) (m_bt 118 (m_lf 115 (s_goto 129)) (m_lf 118 (s_ild 120 5))))) (m_bt 125 (m_bt 121 (m_lf 120 (s_push 121 (.inl (1)))) (m_bt 124 (m_lf 121 (s_icmp 124 128 (fun x y => ¬ x = y))) (m_lf 124 (s_ild 125 3)))) (m_bt 128 (m_lf 125 (s_goto 129)) (m_bt 129 (m_lf 128 (s_push 129 (.inl (0)))) (m_lf 129 (s_iast 130)))))) (m_bt 142 (m_bt 137 (m_bt 133 (m_lf 130 (s_inc 133 5 (1))) (m_bt 136 (m_lf 133 (s_goto 93)) (m_lf 136 (s_ald 137 0)))) (m_bt 140 (m_lf 137 (s_get 140 9 3)) (m_bt 141 (m_lf 140 (s_push 141 (.inl (0)))) (m_lf 141 (s_dup2 142))))) (m_bt 145 (m_bt 143 (m_lf 142 (s_iald 143)) (m_bt 144 (m_lf 143 (s_push 144 (.inl (1)))) (m_lf 144 (s_bin 145 (fun x y => m_wrap (x + y)))))) (m_bt 146 (m_lf 145 (s_iast 146)) (m_bt 147 (m_lf 146 (s_push 147 (.inl (1)))) (m_lf 147 (s_retz))))))) (m_bt 169 (m_bt 159 (m_bt 154 (m_bt 149 (m_lf 148 (s_ild 149 2)) (m_bt 151 (m_lf 149 (s_push 151 (.inl (31)))) (m_lf 151 (s_icmp 154 165 (fun x y => y < x))))) (m_bt 155 (m_lf 154 (s_ald 155 0)) (m_bt 158 (m_lf 155 (s_get 158 9 3)) (m_lf 158 (s_push 159 (.inl (1))))))) (m_bt 165 (m_bt 160 (m_lf 159 (s_iald 160)) (m_bt 162 (m_lf 160 (s_push 162 (.inl (6)))) (m_lf 162 (s_icmp 165 167 (fun x y => ¬ x = y))))) (m_bt 166 (m_lf 165 (s_push 166 (.inl (0)))) (m_bt 167 (m_lf 166 (s_retz)) (m_lf 167 (s_push 169 (.inl (40)))))))) (m_bt 177 (m_bt 174 (m_bt 170 (m_lf 169 (s_push 170 (.inl (4)))) (m_bt 171 (m_lf 170 (s_ald 171 0)) (m_lf 171 (s_get 174 9 3)))) (m_bt 175 (m_lf 174 (s_push 175 (.inl (1)))) (m_bt 176 (m_lf 175 (s_iald 176)) (m_lf 176 (s_bin 177 (fun x y => m_wrap (x * y))))))) (m_bt 181 (m_bt 178 (m_lf 177 (s_bin 178 (fun x y => m_wrap (x + y)))) (m_bt 180 (m_lf 178 (s_ist 180 4)) (m_lf 180 (s_push 181 (.inl (0)))))) (m_bt 183 (m_lf 181 (s_ist 183 5)) (m_bt 185 (m_lf 183 (s_ild 185 5)) (m_lf 185 (s_push 186 (.inl (4))))))))))) (m_bt 266 (m_bt 227 (m_bt 209 (m_bt 197 (m_bt 190 (m_bt 189 (m_lf 186 (s_icmp 189 216 (fun x y => y ≤ x))) (m_lf 189 (s_ald 190 0))) (m_bt 193 (m_lf 190 (s_get 193 9 3)) (m_bt 195 (m_lf 193 (s_ild 195 4)) (m_lf 195 (s_ild 197 5))))) (m_bt 203 (m_bt 198 (m_lf 197 (s_bin 198 (fun x y => m_wrap (x + y)))) (m_bt 200 (m_lf 198 (s_ild 200 5)) (m_lf 200 (s_if 203 207 (fun x => ¬ x = 0))))) (m_bt 204 (m_lf 203 (s_ild 204 2)) (m_bt 207 (m_lf 204 (s_goto 209)) (m_lf 207 (s_push 209 (.inl (-9)))))))) (m_bt 221 (m_bt 216 (m_bt 210 (m_lf 209 (s_iast 210)) (m_bt 213 (m_lf 210 (s_inc 213 5 (1))) (m_lf 213 (s_goto 183)))) (m_bt 217 (m_lf 216 (s_ald 217 0)) (m_bt 220 (m_lf 217 (s_get 220 9 3)) (m_lf 220 (s_push 221 (.inl (1))))))) (m_bt 224 (m_bt 222 (m_lf 221 (s_dup2 222)) (m_bt 223 (m_lf 222 (s_iald 223)) (m_lf 223 (s_push 224 (.inl (1)))))) (m_bt 225 (m_lf 224 (s_bin 225 (fun x y => m_wrap (x + y)))) (m_bt 226 (m_lf 225 (s_iast 226)) (m_lf 226 (s_push 227 (.inl (1))))))))) (m_bt 247 (m_bt 235 (m_bt 230 (m_bt 228 (m_lf 227 (s_retz)) (m_bt 229 (m_lf 228 (s_ild 229 2)) (m_lf 229 (s_push 230 (.inl (3)))))) (m_bt 233 (m_lf 230 (s_icmp 233 254 (fun x y => y < x))) (m_bt 234 (m_lf 233 (s_ild 234 3)) (m_lf 234 (s_ald 235 0))))) (m_bt 240 (m_bt 238 (m_lf 235 (s_get 238 9 3)) (m_bt 239 (m_lf 238 (s_push 239 (.inl (0)))) (m_lf 239 (s_iald 240)))) (m_bt 243 (m_lf 240 (s_icmp 243 254 (fun x y => y ≤ x))) (m_bt 244 (m_lf 243 (s_ald 244 0)) (m_lf 244 (s_get 247 9 7)))))) (m_bt 256 (m_bt 251 (m_bt 248 (m_lf 247 (s_push 248 (.inl (2)))) (m_bt 249 (m_lf 248 (s_iald 249)) (m_lf 249 (s_push 251 (.inl (25)))))) (m_bt 254 (m_lf 251 (s_icmp 254 256 (fun x y => x ≤ y))) (m_bt 255 (m_lf 254 (s_push 255 (.inl (0)))) (m_lf 255 (s_retz))))) (m_bt 262 (m_bt 257 (m_lf 256 (s_ald 257 0)) (m_bt 260 (m_lf 257 (s_get 260 9 3)) (m_lf 260 (s_push 262 (.inl (10)))))) (m_bt 264 (m_lf 262 (s_push 264 (.inl (6)))) (m_bt 265 (m_lf 264 (s_ild 265 3)) (m_lf 265 (s_bin 266 (fun x y => m_wrap (x * y)))))))))) (m_bt 300 (m_bt 280 (m_bt 272 (m_bt 269 (m_bt 267 (m_lf 266 (s_bin 267 (fun x y => m_wrap (x + y)))) (m_bt 268 (m_lf 267 (s_push 268 (.inl (2)))) (m_lf 268 (s_bin 269 (fun x y => m_wrap (x + y)))))) (m_bt 270 (m_lf 269 (s_ild 270 2)) (m_bt 271 (m_lf 270 (s_bin 271 (fun x y => m_wrap (x + y)))) (m_lf 271 (s_ald 272 0))))) (m_bt 277 (m_bt 275 (m_lf 272 (s_get 275 9 7)) (m_bt 276 (m_lf 275 (s_push 276 (.inl (2)))) (m_lf 276 (s_iald 277)))) (m_bt 278 (m_lf 277 (s_iast 278)) (m_bt 279 (m_lf 278 (s_push 279 (.inl (1)))) (m_lf 279 (s_retz)))))) (m_bt 290 (m_bt 285 (m_bt 281 (m_lf 280 (s_ild 281 2)) (m_bt 282 (m_lf 281 (s_push 282 (.inl (1)))) (m_lf 282 (s_icmp 285 311 (fun x y => x < y))))) (m_bt 286 (m_lf 285 (s_ild 286 2)) (m_bt 287 (m_lf 286 (s_push 287 (.inl (3)))) (m_lf 287 (s_icmp 290 311 (fun x y => y < x)))))) (m_bt 295 (m_bt 291 (m_lf 290 (s_ild 291 3)) (m_bt 292 (m_lf 291 (s_ald 292 0)) (m_lf 292 (s_get 295 9 3)))) (m_bt 296 (m_lf 295 (s_push 296 (.inl (1)))) (m_bt 297 (m_lf 296 (s_iald 297)) (m_lf 297 (s_icmp 300 311 (fun x y => y ≤ x)))))))) (m_bt 320 (m_bt 311 (m_bt 305 (m_bt 301 (m_lf 300 (s_ald 301 0)) (m_bt 304 (m_lf 301 (s_get 304 9 7)) (m_lf 304 (s_push 305 (.inl (2)))))) (m_bt 306 (m_lf 305 (s_iald 306)) (m_bt 308 (m_lf 306 (s_push 308 (.inl (31)))) (m_lf 308 (s_icmp 311 313 (fun x y => x ≤ y)))))) (m_bt 314 (m_bt 312 (m_lf 311 (s_push 312 (.inl (0)))) (m_bt 313 (m_lf 312 (s_retz)) (m_lf 313 (s_ald 314 0)))) (m_bt 317 (m_lf 314 (s_get 317 9 3)) (m_bt 319 (m_lf 317 (s_push 319 (.inl (40)))) (m_lf 319 (s_push 320 (.inl (4)))))))) (m_bt 326 (m_bt 323 (m_bt 321 (m_lf 320 (s_ild 321 3)) (m_bt 322 (m_lf 321 (s_bin 322 (fun x y => m_wrap (x * y)))) (m_lf 322 (s_bin 323 (fun x y => m_wrap (x + y)))))) (m_bt 324 (m_lf 323 (s_ild 324 2)) (m_bt 325 (m_lf 324 (s_bin 325 (fun x y => m_wrap (x + y)))) (m_lf 325 (s_ald 326 0))))) (m_bt 331 (m_bt 329 (m_lf 326 (s_get 329 9 7)) (m_bt 330 (m_lf 329 (s_push 330 (.inl (2)))) (m_lf 330 (s_iald 331)))) (m_bt 332 (m_lf 331 (s_iast 332)) (m_bt 333 (m_lf 332 (s_push 333 (.inl (1)))) (m_lf 333 (s_retz)))))))))
theorem kX9_comes_0 : kX9_comes 0 = some (s_ald 1 0) := rfl
theorem kX9_comes_1 : kX9_comes 1 = some (s_get 4 9 7) := rfl
theorem kX9_comes_4 : kX9_comes 4 = some (s_push 5 (.inl (0))) := rfl
theorem kX9_comes_5 : kX9_comes 5 = some (s_iald 6) := rfl
theorem kX9_comes_6 : kX9_comes 6 = some (s_ist 7 2) := rfl
theorem kX9_comes_7 : kX9_comes 7 = some (s_ald 8 0) := rfl
theorem kX9_comes_8 : kX9_comes 8 = some (s_get 11 9 7) := rfl
theorem kX9_comes_11 : kX9_comes 11 = some (s_push 12 (.inl (1))) := rfl
theorem kX9_comes_12 : kX9_comes 12 = some (s_iald 13) := rfl
theorem kX9_comes_13 : kX9_comes 13 = some (s_ist 14 3) := rfl
theorem kX9_comes_14 : kX9_comes 14 = some (s_ild 15 1) := rfl
theorem kX9_comes_15 : kX9_comes 15 = some (s_sw [(97, 228), (108, 148), (115, 48)] 280) := rfl
theorem kX9_comes_48 : kX9_comes 48 = some (s_ild 49 2) := rfl
theorem kX9_comes_49 : kX9_comes 49 = some (s_push 50 (.inl (1))) := rfl
theorem kX9_comes_50 : kX9_comes 50 = some (s_icmp 53 74 (fun x y => x < y)) := rfl
theorem kX9_comes_53 : kX9_comes 53 = some (s_ild 54 2) := rfl
theorem kX9_comes_54 : kX9_comes 54 = some (s_push 56 (.inl (60))) := rfl
theorem kX9_comes_56 : kX9_comes 56 = some (s_icmp 59 74 (fun x y => y < x)) := rfl
theorem kX9_comes_59 : kX9_comes 59 = some (s_ild 60 3) := rfl
theorem kX9_comes_60 : kX9_comes 60 = some (s_push 61 (.inl (1))) := rfl
theorem kX9_comes_61 : kX9_comes 61 = some (s_icmp 64 74 (fun x y => x < y)) := rfl
theorem kX9_comes_64 : kX9_comes 64 = some (s_ald 65 0) := rfl
theorem kX9_comes_65 : kX9_comes 65 = some (s_get 68 9 3) := rfl
theorem kX9_comes_68 : kX9_comes 68 = some (s_push 69 (.inl (0))) := rfl
theorem kX9_comes_69 : kX9_comes 69 = some (s_iald 70) := rfl
theorem kX9_comes_70 : kX9_comes 70 = some (s_push 71 (.inl (5))) := rfl
theorem kX9_comes_71 : kX9_comes 71 = some (s_icmp 74 76 (fun x y => ¬ x = y)) := rfl
theorem kX9_comes_74 : kX9_comes 74 = some (s_push 75 (.inl (0))) := rfl
theorem kX9_comes_75 : kX9_comes 75 = some (s_retz) := rfl
theorem kX9_comes_76 : kX9_comes 76 = some (s_push 78 (.inl (10))) := rfl
theorem kX9_comes_78 : kX9_comes 78 = some (s_push 80 (.inl (6))) := rfl
theorem kX9_comes_80 : kX9_comes 80 = some (s_ald 81 0) := rfl
theorem kX9_comes_81 : kX9_comes 81 = some (s_get 84 9 3) := rfl
theorem kX9_comes_84 : kX9_comes 84 = some (s_push 85 (.inl (0))) := rfl
theorem kX9_comes_85 : kX9_comes 85 = some (s_iald 86) := rfl
theorem kX9_comes_86 : kX9_comes 86 = some (s_bin 87 (fun x y => m_wrap (x * y))) := rfl
theorem kX9_comes_87 : kX9_comes 87 = some (s_bin 88 (fun x y => m_wrap (x + y))) := rfl
theorem kX9_comes_88 : kX9_comes 88 = some (s_ist 90 4) := rfl
theorem kX9_comes_90 : kX9_comes 90 = some (s_push 91 (.inl (0))) := rfl
theorem kX9_comes_91 : kX9_comes 91 = some (s_ist 93 5) := rfl
theorem kX9_comes_93 : kX9_comes 93 = some (s_ild 95 5) := rfl
theorem kX9_comes_95 : kX9_comes 95 = some (s_push 97 (.inl (6))) := rfl
theorem kX9_comes_97 : kX9_comes 97 = some (s_icmp 100 136 (fun x y => y ≤ x)) := rfl
theorem kX9_comes_100 : kX9_comes 100 = some (s_ald 101 0) := rfl
theorem kX9_comes_101 : kX9_comes 101 = some (s_get 104 9 3) := rfl
theorem kX9_comes_104 : kX9_comes 104 = some (s_ild 106 4) := rfl
theorem kX9_comes_106 : kX9_comes 106 = some (s_ild 108 5) := rfl
theorem kX9_comes_108 : kX9_comes 108 = some (s_bin 109 (fun x y => m_wrap (x + y))) := rfl
theorem kX9_comes_109 : kX9_comes 109 = some (s_ild 111 5) := rfl
theorem kX9_comes_111 : kX9_comes 111 = some (s_if 114 118 (fun x => ¬ x = 0)) := rfl
theorem kX9_comes_114 : kX9_comes 114 = some (s_ild 115 2) := rfl
theorem kX9_comes_115 : kX9_comes 115 = some (s_goto 129) := rfl
theorem kX9_comes_118 : kX9_comes 118 = some (s_ild 120 5) := rfl
theorem kX9_comes_120 : kX9_comes 120 = some (s_push 121 (.inl (1))) := rfl
theorem kX9_comes_121 : kX9_comes 121 = some (s_icmp 124 128 (fun x y => ¬ x = y)) := rfl
theorem kX9_comes_124 : kX9_comes 124 = some (s_ild 125 3) := rfl
theorem kX9_comes_125 : kX9_comes 125 = some (s_goto 129) := rfl
theorem kX9_comes_128 : kX9_comes 128 = some (s_push 129 (.inl (0))) := rfl
theorem kX9_comes_129 : kX9_comes 129 = some (s_iast 130) := rfl
theorem kX9_comes_130 : kX9_comes 130 = some (s_inc 133 5 (1)) := rfl
theorem kX9_comes_133 : kX9_comes 133 = some (s_goto 93) := rfl
theorem kX9_comes_136 : kX9_comes 136 = some (s_ald 137 0) := rfl
theorem kX9_comes_137 : kX9_comes 137 = some (s_get 140 9 3) := rfl
theorem kX9_comes_140 : kX9_comes 140 = some (s_push 141 (.inl (0))) := rfl
theorem kX9_comes_141 : kX9_comes 141 = some (s_dup2 142) := rfl
theorem kX9_comes_142 : kX9_comes 142 = some (s_iald 143) := rfl
theorem kX9_comes_143 : kX9_comes 143 = some (s_push 144 (.inl (1))) := rfl
theorem kX9_comes_144 : kX9_comes 144 = some (s_bin 145 (fun x y => m_wrap (x + y))) := rfl
theorem kX9_comes_145 : kX9_comes 145 = some (s_iast 146) := rfl
theorem kX9_comes_146 : kX9_comes 146 = some (s_push 147 (.inl (1))) := rfl
theorem kX9_comes_147 : kX9_comes 147 = some (s_retz) := rfl
theorem kX9_comes_148 : kX9_comes 148 = some (s_ild 149 2) := rfl
theorem kX9_comes_149 : kX9_comes 149 = some (s_push 151 (.inl (31))) := rfl
theorem kX9_comes_151 : kX9_comes 151 = some (s_icmp 154 165 (fun x y => y < x)) := rfl
theorem kX9_comes_154 : kX9_comes 154 = some (s_ald 155 0) := rfl
theorem kX9_comes_155 : kX9_comes 155 = some (s_get 158 9 3) := rfl
theorem kX9_comes_158 : kX9_comes 158 = some (s_push 159 (.inl (1))) := rfl
theorem kX9_comes_159 : kX9_comes 159 = some (s_iald 160) := rfl
theorem kX9_comes_160 : kX9_comes 160 = some (s_push 162 (.inl (6))) := rfl
theorem kX9_comes_162 : kX9_comes 162 = some (s_icmp 165 167 (fun x y => ¬ x = y)) := rfl
theorem kX9_comes_165 : kX9_comes 165 = some (s_push 166 (.inl (0))) := rfl
theorem kX9_comes_166 : kX9_comes 166 = some (s_retz) := rfl
theorem kX9_comes_167 : kX9_comes 167 = some (s_push 169 (.inl (40))) := rfl
theorem kX9_comes_169 : kX9_comes 169 = some (s_push 170 (.inl (4))) := rfl
theorem kX9_comes_170 : kX9_comes 170 = some (s_ald 171 0) := rfl
theorem kX9_comes_171 : kX9_comes 171 = some (s_get 174 9 3) := rfl
theorem kX9_comes_174 : kX9_comes 174 = some (s_push 175 (.inl (1))) := rfl
theorem kX9_comes_175 : kX9_comes 175 = some (s_iald 176) := rfl
theorem kX9_comes_176 : kX9_comes 176 = some (s_bin 177 (fun x y => m_wrap (x * y))) := rfl
theorem kX9_comes_177 : kX9_comes 177 = some (s_bin 178 (fun x y => m_wrap (x + y))) := rfl
theorem kX9_comes_178 : kX9_comes 178 = some (s_ist 180 4) := rfl
theorem kX9_comes_180 : kX9_comes 180 = some (s_push 181 (.inl (0))) := rfl
theorem kX9_comes_181 : kX9_comes 181 = some (s_ist 183 5) := rfl
theorem kX9_comes_183 : kX9_comes 183 = some (s_ild 185 5) := rfl
theorem kX9_comes_185 : kX9_comes 185 = some (s_push 186 (.inl (4))) := rfl
theorem kX9_comes_186 : kX9_comes 186 = some (s_icmp 189 216 (fun x y => y ≤ x)) := rfl
theorem kX9_comes_189 : kX9_comes 189 = some (s_ald 190 0) := rfl
theorem kX9_comes_190 : kX9_comes 190 = some (s_get 193 9 3) := rfl
theorem kX9_comes_193 : kX9_comes 193 = some (s_ild 195 4) := rfl
theorem kX9_comes_195 : kX9_comes 195 = some (s_ild 197 5) := rfl
theorem kX9_comes_197 : kX9_comes 197 = some (s_bin 198 (fun x y => m_wrap (x + y))) := rfl
theorem kX9_comes_198 : kX9_comes 198 = some (s_ild 200 5) := rfl
theorem kX9_comes_200 : kX9_comes 200 = some (s_if 203 207 (fun x => ¬ x = 0)) := rfl
theorem kX9_comes_203 : kX9_comes 203 = some (s_ild 204 2) := rfl
theorem kX9_comes_204 : kX9_comes 204 = some (s_goto 209) := rfl
theorem kX9_comes_207 : kX9_comes 207 = some (s_push 209 (.inl (-9))) := rfl
theorem kX9_comes_209 : kX9_comes 209 = some (s_iast 210) := rfl
theorem kX9_comes_210 : kX9_comes 210 = some (s_inc 213 5 (1)) := rfl
theorem kX9_comes_213 : kX9_comes 213 = some (s_goto 183) := rfl
theorem kX9_comes_216 : kX9_comes 216 = some (s_ald 217 0) := rfl
theorem kX9_comes_217 : kX9_comes 217 = some (s_get 220 9 3) := rfl
theorem kX9_comes_220 : kX9_comes 220 = some (s_push 221 (.inl (1))) := rfl
theorem kX9_comes_221 : kX9_comes 221 = some (s_dup2 222) := rfl
theorem kX9_comes_222 : kX9_comes 222 = some (s_iald 223) := rfl
theorem kX9_comes_223 : kX9_comes 223 = some (s_push 224 (.inl (1))) := rfl
theorem kX9_comes_224 : kX9_comes 224 = some (s_bin 225 (fun x y => m_wrap (x + y))) := rfl
theorem kX9_comes_225 : kX9_comes 225 = some (s_iast 226) := rfl
theorem kX9_comes_226 : kX9_comes 226 = some (s_push 227 (.inl (1))) := rfl
theorem kX9_comes_227 : kX9_comes 227 = some (s_retz) := rfl
theorem kX9_comes_228 : kX9_comes 228 = some (s_ild 229 2) := rfl
theorem kX9_comes_229 : kX9_comes 229 = some (s_push 230 (.inl (3))) := rfl
theorem kX9_comes_230 : kX9_comes 230 = some (s_icmp 233 254 (fun x y => y < x)) := rfl
theorem kX9_comes_233 : kX9_comes 233 = some (s_ild 234 3) := rfl
theorem kX9_comes_234 : kX9_comes 234 = some (s_ald 235 0) := rfl
theorem kX9_comes_235 : kX9_comes 235 = some (s_get 238 9 3) := rfl
theorem kX9_comes_238 : kX9_comes 238 = some (s_push 239 (.inl (0))) := rfl
theorem kX9_comes_239 : kX9_comes 239 = some (s_iald 240) := rfl
theorem kX9_comes_240 : kX9_comes 240 = some (s_icmp 243 254 (fun x y => y ≤ x)) := rfl
theorem kX9_comes_243 : kX9_comes 243 = some (s_ald 244 0) := rfl
theorem kX9_comes_244 : kX9_comes 244 = some (s_get 247 9 7) := rfl
theorem kX9_comes_247 : kX9_comes 247 = some (s_push 248 (.inl (2))) := rfl
theorem kX9_comes_248 : kX9_comes 248 = some (s_iald 249) := rfl
theorem kX9_comes_249 : kX9_comes 249 = some (s_push 251 (.inl (25))) := rfl
theorem kX9_comes_251 : kX9_comes 251 = some (s_icmp 254 256 (fun x y => x ≤ y)) := rfl
theorem kX9_comes_254 : kX9_comes 254 = some (s_push 255 (.inl (0))) := rfl
theorem kX9_comes_255 : kX9_comes 255 = some (s_retz) := rfl
theorem kX9_comes_256 : kX9_comes 256 = some (s_ald 257 0) := rfl
theorem kX9_comes_257 : kX9_comes 257 = some (s_get 260 9 3) := rfl
theorem kX9_comes_260 : kX9_comes 260 = some (s_push 262 (.inl (10))) := rfl
theorem kX9_comes_262 : kX9_comes 262 = some (s_push 264 (.inl (6))) := rfl
theorem kX9_comes_264 : kX9_comes 264 = some (s_ild 265 3) := rfl
theorem kX9_comes_265 : kX9_comes 265 = some (s_bin 266 (fun x y => m_wrap (x * y))) := rfl
theorem kX9_comes_266 : kX9_comes 266 = some (s_bin 267 (fun x y => m_wrap (x + y))) := rfl
theorem kX9_comes_267 : kX9_comes 267 = some (s_push 268 (.inl (2))) := rfl
theorem kX9_comes_268 : kX9_comes 268 = some (s_bin 269 (fun x y => m_wrap (x + y))) := rfl
theorem kX9_comes_269 : kX9_comes 269 = some (s_ild 270 2) := rfl
theorem kX9_comes_270 : kX9_comes 270 = some (s_bin 271 (fun x y => m_wrap (x + y))) := rfl
theorem kX9_comes_271 : kX9_comes 271 = some (s_ald 272 0) := rfl
theorem kX9_comes_272 : kX9_comes 272 = some (s_get 275 9 7) := rfl
theorem kX9_comes_275 : kX9_comes 275 = some (s_push 276 (.inl (2))) := rfl
theorem kX9_comes_276 : kX9_comes 276 = some (s_iald 277) := rfl
theorem kX9_comes_277 : kX9_comes 277 = some (s_iast 278) := rfl
theorem kX9_comes_278 : kX9_comes 278 = some (s_push 279 (.inl (1))) := rfl
theorem kX9_comes_279 : kX9_comes 279 = some (s_retz) := rfl
theorem kX9_comes_280 : kX9_comes 280 = some (s_ild 281 2) := rfl
theorem kX9_comes_281 : kX9_comes 281 = some (s_push 282 (.inl (1))) := rfl
theorem kX9_comes_282 : kX9_comes 282 = some (s_icmp 285 311 (fun x y => x < y)) := rfl
theorem kX9_comes_285 : kX9_comes 285 = some (s_ild 286 2) := rfl
theorem kX9_comes_286 : kX9_comes 286 = some (s_push 287 (.inl (3))) := rfl
theorem kX9_comes_287 : kX9_comes 287 = some (s_icmp 290 311 (fun x y => y < x)) := rfl
theorem kX9_comes_290 : kX9_comes 290 = some (s_ild 291 3) := rfl
theorem kX9_comes_291 : kX9_comes 291 = some (s_ald 292 0) := rfl
theorem kX9_comes_292 : kX9_comes 292 = some (s_get 295 9 3) := rfl
theorem kX9_comes_295 : kX9_comes 295 = some (s_push 296 (.inl (1))) := rfl
theorem kX9_comes_296 : kX9_comes 296 = some (s_iald 297) := rfl
theorem kX9_comes_297 : kX9_comes 297 = some (s_icmp 300 311 (fun x y => y ≤ x)) := rfl
theorem kX9_comes_300 : kX9_comes 300 = some (s_ald 301 0) := rfl
theorem kX9_comes_301 : kX9_comes 301 = some (s_get 304 9 7) := rfl
theorem kX9_comes_304 : kX9_comes 304 = some (s_push 305 (.inl (2))) := rfl
theorem kX9_comes_305 : kX9_comes 305 = some (s_iald 306) := rfl
theorem kX9_comes_306 : kX9_comes 306 = some (s_push 308 (.inl (31))) := rfl
theorem kX9_comes_308 : kX9_comes 308 = some (s_icmp 311 313 (fun x y => x ≤ y)) := rfl
theorem kX9_comes_311 : kX9_comes 311 = some (s_push 312 (.inl (0))) := rfl
theorem kX9_comes_312 : kX9_comes 312 = some (s_retz) := rfl
theorem kX9_comes_313 : kX9_comes 313 = some (s_ald 314 0) := rfl
theorem kX9_comes_314 : kX9_comes 314 = some (s_get 317 9 3) := rfl
theorem kX9_comes_317 : kX9_comes 317 = some (s_push 319 (.inl (40))) := rfl
theorem kX9_comes_319 : kX9_comes 319 = some (s_push 320 (.inl (4))) := rfl
theorem kX9_comes_320 : kX9_comes 320 = some (s_ild 321 3) := rfl
theorem kX9_comes_321 : kX9_comes 321 = some (s_bin 322 (fun x y => m_wrap (x * y))) := rfl
theorem kX9_comes_322 : kX9_comes 322 = some (s_bin 323 (fun x y => m_wrap (x + y))) := rfl
theorem kX9_comes_323 : kX9_comes 323 = some (s_ild 324 2) := rfl
theorem kX9_comes_324 : kX9_comes 324 = some (s_bin 325 (fun x y => m_wrap (x + y))) := rfl
theorem kX9_comes_325 : kX9_comes 325 = some (s_ald 326 0) := rfl
theorem kX9_comes_326 : kX9_comes 326 = some (s_get 329 9 7) := rfl
theorem kX9_comes_329 : kX9_comes 329 = some (s_push 330 (.inl (2))) := rfl
theorem kX9_comes_330 : kX9_comes 330 = some (s_iald 331) := rfl
theorem kX9_comes_331 : kX9_comes 331 = some (s_iast 332) := rfl
theorem kX9_comes_332 : kX9_comes 332 = some (s_push 333 (.inl (1))) := rfl
theorem kX9_comes_333 : kX9_comes 333 = some (s_retz) := rfl
def wX9_comes : m_GK := m_wp 6 kX9_comes
set_option maxRecDepth 100000 in
set_option maxHeartbeats 4000000 in
theorem sX9_comes (l : Launch) (X : m_X) (hX : m_inj X.1) : m_Sound l X 1 yX9_comes cX9_comes 6 (some .boolean) wX9_comes := m_sound_of hX (by decide) (fun p e s m args below meth c q C hr => m_bt_all (m_bt_all (m_bt_all (m_bt_all (m_bt_all (m_bt_all (m_bt_all (m_lf_all (o_aload_n C (i := 0) rfl dX9_comes_0 rfl)) (m_lf_all (o_get C (ci := 9) (k := 7) (N := 35) (rf := RX9) (T := TX9) rfl ginX9 (Nat.le_of_ble_eq_true rfl) (m_tb_of 933 (by decide +kernel) rfl) dX9_comes_1 rfl))) (m_bt_all (m_lf_all (o_iconst C (x := (0)) (m_rngd rfl) dX9_comes_4 rfl)) (m_bt_all (m_lf_all (o_iald C dX9_comes_5 rfl)) (m_lf_all (o_istore_n C (i := 2) rfl dX9_comes_6 rfl))))) (m_bt_all (m_bt_all (m_lf_all (o_aload_n C (i := 0) rfl dX9_comes_7 rfl)) (m_bt_all (m_lf_all (o_get C (ci := 9) (k := 7) (N := 35) (rf := RX9) (T := TX9) rfl ginX9 (Nat.le_of_ble_eq_true rfl) (m_tb_of 933 (by decide +kernel) rfl) dX9_comes_8 rfl)) (m_lf_all (o_iconst C (x := (1)) (m_rngd rfl) dX9_comes_11 rfl)))) (m_bt_all (m_lf_all (o_iald C dX9_comes_12 rfl)) (m_bt_all (m_lf_all (o_istore_n C (i := 3) rfl dX9_comes_13 rfl)) (m_lf_all (o_iload_n C (i := 1) rfl dX9_comes_14 rfl)))))) (m_bt_all (m_bt_all (m_bt_all (m_lf_all (o_lsw C dX9_comes_15 rfl (by decide) (by decide))) (m_bt_all (m_lf_all (o_iload_n C (i := 2) rfl dX9_comes_48 rfl)) (m_lf_all (o_iconst C (x := (1)) (m_rngd rfl) dX9_comes_49 rfl)))) (m_bt_all (m_lf_all (o_icmp_lt C dX9_comes_50 rfl rfl)) (m_bt_all (m_lf_all (o_iload_n C (i := 2) rfl dX9_comes_53 rfl)) (m_lf_all (o_bipush C (x := (60)) (m_rngd rfl) rfl dX9_comes_54 rfl))))) (m_bt_all (m_bt_all (m_lf_all (o_icmp_gt C dX9_comes_56 rfl rfl)) (m_bt_all (m_lf_all (o_iload_n C (i := 3) rfl dX9_comes_59 rfl)) (m_lf_all (o_iconst C (x := (1)) (m_rngd rfl) dX9_comes_60 rfl)))) (m_bt_all (m_lf_all (o_icmp_lt C dX9_comes_61 rfl rfl)) (m_bt_all (m_lf_all (o_aload_n C (i := 0) rfl dX9_comes_64 rfl)) (m_lf_all (o_get C (ci := 9) (k := 3) (N := 35) (rf := RX9) (T := TX9) rfl ginX9 (Nat.le_of_ble_eq_true rfl) (m_tb_of 929 (by decide +kernel) rfl) dX9_comes_65 rfl))))))) (m_bt_all (m_bt_all (m_bt_all (m_bt_all (m_lf_all (o_iconst C (x := (0)) (m_rngd rfl) dX9_comes_68 rfl)) (m_bt_all (m_lf_all (o_iald C dX9_comes_69 rfl)) (m_lf_all (o_iconst C (x := (5)) (m_rngd rfl) dX9_comes_70 rfl)))) (m_bt_all (m_lf_all (o_icmp_ne C dX9_comes_71 rfl rfl)) (m_bt_all (m_lf_all (o_iconst C (x := (0)) (m_rngd rfl) dX9_comes_74 rfl)) (m_lf_all (o_zret C hr dX9_comes_75))))) (m_bt_all (m_bt_all (m_lf_all (o_bipush C (x := (10)) (m_rngd rfl) rfl dX9_comes_76 rfl)) (m_bt_all (m_lf_all (o_bipush C (x := (6)) (m_rngd rfl) rfl dX9_comes_78 rfl)) (m_lf_all (o_aload_n C (i := 0) rfl dX9_comes_80 rfl)))) (m_bt_all (m_lf_all (o_get C (ci := 9) (k := 3) (N := 35) (rf := RX9) (T := TX9) rfl ginX9 (Nat.le_of_ble_eq_true rfl) (m_tb_of 929 (by decide +kernel) rfl) dX9_comes_81 rfl)) (m_bt_all (m_lf_all (o_iconst C (x := (0)) (m_rngd rfl) dX9_comes_84 rfl)) (m_lf_all (o_iald C dX9_comes_85 rfl)))))) (m_bt_all (m_bt_all (m_bt_all (m_lf_all (o_imul C dX9_comes_86 rfl)) (m_bt_all (m_lf_all (o_iadd C dX9_comes_87 rfl)) (m_lf_all (o_istore C dX9_comes_88 rfl)))) (m_bt_all (m_lf_all (o_iconst C (x := (0)) (m_rngd rfl) dX9_comes_90 rfl)) (m_bt_all (m_lf_all (o_istore C dX9_comes_91 rfl)) (m_lf_all (o_iload C dX9_comes_93 rfl))))) (m_bt_all (m_bt_all (m_lf_all (o_bipush C (x := (6)) (m_rngd rfl) rfl dX9_comes_95 rfl)) (m_bt_all (m_lf_all (o_icmp_ge C dX9_comes_97 rfl rfl)) (m_lf_all (o_aload_n C (i := 0) rfl dX9_comes_100 rfl)))) (m_bt_all (m_lf_all (o_get C (ci := 9) (k := 3) (N := 35) (rf := RX9) (T := TX9) rfl ginX9 (Nat.le_of_ble_eq_true rfl) (m_tb_of 929 (by decide +kernel) rfl) dX9_comes_101 rfl)) (m_bt_all (m_lf_all (o_iload C dX9_comes_104 rfl)) (m_lf_all (o_iload C dX9_comes_106 rfl)))))))) (m_bt_all (m_bt_all (m_bt_all (m_bt_all (m_bt_all (m_lf_all (o_iadd C dX9_comes_108 rfl)) (m_bt_all (m_lf_all (o_iload C dX9_comes_109 rfl)) (m_lf_all (o_if_ne C dX9_comes_111 rfl rfl)))) (m_bt_all (m_lf_all (o_iload_n C (i := 2) rfl dX9_comes_114 rfl)) (m_bt_all (m_lf_all (o_goto C dX9_comes_115 rfl)) (m_lf_all (o_iload C dX9_comes_118 rfl))))) (m_bt_all (m_bt_all (m_lf_all (o_iconst C (x := (1)) (m_rngd rfl) dX9_comes_120 rfl)) (m_bt_all (m_lf_all (o_icmp_ne C dX9_comes_121 rfl rfl)) (m_lf_all (o_iload_n C (i := 3) rfl dX9_comes_124 rfl)))) (m_bt_all (m_lf_all (o_goto C dX9_comes_125 rfl)) (m_bt_all (m_lf_all (o_iconst C (x := (0)) (m_rngd rfl) dX9_comes_128 rfl)) (m_lf_all (o_iast C dX9_comes_129 rfl)))))) (m_bt_all (m_bt_all (m_bt_all (m_lf_all (o_iinc C dX9_comes_130 rfl)) (m_bt_all (m_lf_all (o_goto C dX9_comes_133 rfl)) (m_lf_all (o_aload_n C (i := 0) rfl dX9_comes_136 rfl)))) (m_bt_all (m_lf_all (o_get C (ci := 9) (k := 3) (N := 35) (rf := RX9) (T := TX9) rfl ginX9 (Nat.le_of_ble_eq_true rfl) (m_tb_of 929 (by decide +kernel) rfl) dX9_comes_137 rfl)) (m_bt_all (m_lf_all (o_iconst C (x := (0)) (m_rngd rfl) dX9_comes_140 rfl)) (m_lf_all (o_dup2 C dX9_comes_141 rfl))))) (m_bt_all (m_bt_all (m_lf_all (o_iald C dX9_comes_142 rfl)) (m_bt_all (m_lf_all (o_iconst C (x := (1)) (m_rngd rfl) dX9_comes_143 rfl)) (m_lf_all (o_iadd C dX9_comes_144 rfl)))) (m_bt_all (m_lf_all (o_iast C dX9_comes_145 rfl)) (m_bt_all (m_lf_all (o_iconst C (x := (1)) (m_rngd rfl) dX9_comes_146 rfl)) (m_lf_all (o_zret C hr dX9_comes_147))))))) (m_bt_all (m_bt_all (m_bt_all (m_bt_all (m_lf_all (o_iload_n C (i := 2) rfl dX9_comes_148 rfl)) (m_bt_all (m_lf_all (o_bipush C (x := (31)) (m_rngd rfl) rfl dX9_comes_149 rfl)) (m_lf_all (o_icmp_gt C dX9_comes_151 rfl rfl)))) (m_bt_all (m_lf_all (o_aload_n C (i := 0) rfl dX9_comes_154 rfl)) (m_bt_all (m_lf_all (o_get C (ci := 9) (k := 3) (N := 35) (rf := RX9) (T := TX9) rfl ginX9 (Nat.le_of_ble_eq_true rfl) (m_tb_of 929 (by decide +kernel) rfl) dX9_comes_155 rfl)) (m_lf_all (o_iconst C (x := (1)) (m_rngd rfl) dX9_comes_158 rfl))))) (m_bt_all (m_bt_all (m_lf_all (o_iald C dX9_comes_159 rfl)) (m_bt_all (m_lf_all (o_bipush C (x := (6)) (m_rngd rfl) rfl dX9_comes_160 rfl)) (m_lf_all (o_icmp_ne C dX9_comes_162 rfl rfl)))) (m_bt_all (m_lf_all (o_iconst C (x := (0)) (m_rngd rfl) dX9_comes_165 rfl)) (m_bt_all (m_lf_all (o_zret C hr dX9_comes_166)) (m_lf_all (o_bipush C (x := (40)) (m_rngd rfl) rfl dX9_comes_167 rfl)))))) (m_bt_all (m_bt_all (m_bt_all (m_lf_all (o_iconst C (x := (4)) (m_rngd rfl) dX9_comes_169 rfl)) (m_bt_all (m_lf_all (o_aload_n C (i := 0) rfl dX9_comes_170 rfl)) (m_lf_all (o_get C (ci := 9) (k := 3) (N := 35) (rf := RX9) (T := TX9) rfl ginX9 (Nat.le_of_ble_eq_true rfl) (m_tb_of 929 (by decide +kernel) rfl) dX9_comes_171 rfl)))) (m_bt_all (m_lf_all (o_iconst C (x := (1)) (m_rngd rfl) dX9_comes_174 rfl)) (m_bt_all (m_lf_all (o_iald C dX9_comes_175 rfl)) (m_lf_all (o_imul C dX9_comes_176 rfl))))) (m_bt_all (m_bt_all (m_lf_all (o_iadd C dX9_comes_177 rfl)) (m_bt_all (m_lf_all (o_istore C dX9_comes_178 rfl)) (m_lf_all (o_iconst C (x := (0)) (m_rngd rfl) dX9_comes_180 rfl)))) (m_bt_all (m_lf_all (o_istore C dX9_comes_181 rfl)) (m_bt_all (m_lf_all (o_iload C dX9_comes_183 rfl)) (m_lf_all (o_iconst C (x := (4)) (m_rngd rfl) dX9_comes_185 rfl))))))))) (m_bt_all (m_bt_all (m_bt_all (m_bt_all (m_bt_all (m_bt_all (m_lf_all (o_icmp_ge C dX9_comes_186 rfl rfl)) (m_lf_all (o_aload_n C (i := 0) rfl dX9_comes_189 rfl))) (m_bt_all (m_lf_all (o_get C (ci := 9) (k := 3) (N := 35) (rf := RX9) (T := TX9) rfl ginX9 (Nat.le_of_ble_eq_true rfl) (m_tb_of 929 (by decide +kernel) rfl) dX9_comes_190 rfl)) (m_bt_all (m_lf_all (o_iload C dX9_comes_193 rfl)) (m_lf_all (o_iload C dX9_comes_195 rfl))))) (m_bt_all (m_bt_all (m_lf_all (o_iadd C dX9_comes_197 rfl)) (m_bt_all (m_lf_all (o_iload C dX9_comes_198 rfl)) (m_lf_all (o_if_ne C dX9_comes_200 rfl rfl)))) (m_bt_all (m_lf_all (o_iload_n C (i := 2) rfl dX9_comes_203 rfl)) (m_bt_all (m_lf_all (o_goto C dX9_comes_204 rfl)) (m_lf_all (o_bipush C (x := (-9)) (m_rngd rfl) rfl dX9_comes_207 rfl)))))) (m_bt_all (m_bt_all (m_bt_all (m_lf_all (o_iast C dX9_comes_209 rfl)) (m_bt_all (m_lf_all (o_iinc C dX9_comes_210 rfl)) (m_lf_all (o_goto C dX9_comes_213 rfl)))) (m_bt_all (m_lf_all (o_aload_n C (i := 0) rfl dX9_comes_216 rfl)) (m_bt_all (m_lf_all (o_get C (ci := 9) (k := 3) (N := 35) (rf := RX9) (T := TX9) rfl ginX9 (Nat.le_of_ble_eq_true rfl) (m_tb_of 929 (by decide +kernel) rfl) dX9_comes_217 rfl)) (m_lf_all (o_iconst C (x := (1)) (m_rngd rfl) dX9_comes_220 rfl))))) (m_bt_all (m_bt_all (m_lf_all (o_dup2 C dX9_comes_221 rfl)) (m_bt_all (m_lf_all (o_iald C dX9_comes_222 rfl)) (m_lf_all (o_iconst C (x := (1)) (m_rngd rfl) dX9_comes_223 rfl)))) (m_bt_all (m_lf_all (o_iadd C dX9_comes_224 rfl)) (m_bt_all (m_lf_all (o_iast C dX9_comes_225 rfl)) (m_lf_all (o_iconst C (x := (1)) (m_rngd rfl) dX9_comes_226 rfl))))))) (m_bt_all (m_bt_all (m_bt_all (m_bt_all (m_lf_all (o_zret C hr dX9_comes_227)) (m_bt_all (m_lf_all (o_iload_n C (i := 2) rfl dX9_comes_228 rfl)) (m_lf_all (o_iconst C (x := (3)) (m_rngd rfl) dX9_comes_229 rfl)))) (m_bt_all (m_lf_all (o_icmp_gt C dX9_comes_230 rfl rfl)) (m_bt_all (m_lf_all (o_iload_n C (i := 3) rfl dX9_comes_233 rfl)) (m_lf_all (o_aload_n C (i := 0) rfl dX9_comes_234 rfl))))) (m_bt_all (m_bt_all (m_lf_all (o_get C (ci := 9) (k := 3) (N := 35) (rf := RX9) (T := TX9) rfl ginX9 (Nat.le_of_ble_eq_true rfl) (m_tb_of 929 (by decide +kernel) rfl) dX9_comes_235 rfl)) (m_bt_all (m_lf_all (o_iconst C (x := (0)) (m_rngd rfl) dX9_comes_238 rfl)) (m_lf_all (o_iald C dX9_comes_239 rfl)))) (m_bt_all (m_lf_all (o_icmp_ge C dX9_comes_240 rfl rfl)) (m_bt_all (m_lf_all (o_aload_n C (i := 0) rfl dX9_comes_243 rfl)) (m_lf_all (o_get C (ci := 9) (k := 7) (N := 35) (rf := RX9) (T := TX9) rfl ginX9 (Nat.le_of_ble_eq_true rfl) (m_tb_of 933 (by decide +kernel) rfl) dX9_comes_244 rfl)))))) (m_bt_all (m_bt_all (m_bt_all (m_lf_all (o_iconst C (x := (2)) (m_rngd rfl) dX9_comes_247 rfl)) (m_bt_all (m_lf_all (o_iald C dX9_comes_248 rfl)) (m_lf_all (o_bipush C (x := (25)) (m_rngd rfl) rfl dX9_comes_249 rfl)))) (m_bt_all (m_lf_all (o_icmp_le C dX9_comes_251 rfl rfl)) (m_bt_all (m_lf_all (o_iconst C (x := (0)) (m_rngd rfl) dX9_comes_254 rfl)) (m_lf_all (o_zret C hr dX9_comes_255))))) (m_bt_all (m_bt_all (m_lf_all (o_aload_n C (i := 0) rfl dX9_comes_256 rfl)) (m_bt_all (m_lf_all (o_get C (ci := 9) (k := 3) (N := 35) (rf := RX9) (T := TX9) rfl ginX9 (Nat.le_of_ble_eq_true rfl) (m_tb_of 929 (by decide +kernel) rfl) dX9_comes_257 rfl)) (m_lf_all (o_bipush C (x := (10)) (m_rngd rfl) rfl dX9_comes_260 rfl)))) (m_bt_all (m_lf_all (o_bipush C (x := (6)) (m_rngd rfl) rfl dX9_comes_262 rfl)) (m_bt_all (m_lf_all (o_iload_n C (i := 3) rfl dX9_comes_264 rfl)) (m_lf_all (o_imul C dX9_comes_265 rfl)))))))) (m_bt_all (m_bt_all (m_bt_all (m_bt_all (m_bt_all (m_lf_all (o_iadd C dX9_comes_266 rfl)) (m_bt_all (m_lf_all (o_iconst C (x := (2)) (m_rngd rfl) dX9_comes_267 rfl)) (m_lf_all (o_iadd C dX9_comes_268 rfl)))) (m_bt_all (m_lf_all (o_iload_n C (i := 2) rfl dX9_comes_269 rfl)) (m_bt_all (m_lf_all (o_iadd C dX9_comes_270 rfl)) (m_lf_all (o_aload_n C (i := 0) rfl dX9_comes_271 rfl))))) (m_bt_all (m_bt_all (m_lf_all (o_get C (ci := 9) (k := 7) (N := 35) (rf := RX9) (T := TX9) rfl ginX9 (Nat.le_of_ble_eq_true rfl) (m_tb_of 933 (by decide +kernel) rfl) dX9_comes_272 rfl)) (m_bt_all (m_lf_all (o_iconst C (x := (2)) (m_rngd rfl) dX9_comes_275 rfl)) (m_lf_all (o_iald C dX9_comes_276 rfl)))) (m_bt_all (m_lf_all (o_iast C dX9_comes_277 rfl)) (m_bt_all (m_lf_all (o_iconst C (x := (1)) (m_rngd rfl) dX9_comes_278 rfl)) (m_lf_all (o_zret C hr dX9_comes_279)))))) (m_bt_all (m_bt_all (m_bt_all (m_lf_all (o_iload_n C (i := 2) rfl dX9_comes_280 rfl)) (m_bt_all (m_lf_all (o_iconst C (x := (1)) (m_rngd rfl) dX9_comes_281 rfl)) (m_lf_all (o_icmp_lt C dX9_comes_282 rfl rfl)))) (m_bt_all (m_lf_all (o_iload_n C (i := 2) rfl dX9_comes_285 rfl)) (m_bt_all (m_lf_all (o_iconst C (x := (3)) (m_rngd rfl) dX9_comes_286 rfl)) (m_lf_all (o_icmp_gt C dX9_comes_287 rfl rfl))))) (m_bt_all (m_bt_all (m_lf_all (o_iload_n C (i := 3) rfl dX9_comes_290 rfl)) (m_bt_all (m_lf_all (o_aload_n C (i := 0) rfl dX9_comes_291 rfl)) (m_lf_all (o_get C (ci := 9) (k := 3) (N := 35) (rf := RX9) (T := TX9) rfl ginX9 (Nat.le_of_ble_eq_true rfl) (m_tb_of 929 (by decide +kernel) rfl) dX9_comes_292 rfl)))) (m_bt_all (m_lf_all (o_iconst C (x := (1)) (m_rngd rfl) dX9_comes_295 rfl)) (m_bt_all (m_lf_all (o_iald C dX9_comes_296 rfl)) (m_lf_all (o_icmp_ge C dX9_comes_297 rfl rfl))))))) (m_bt_all (m_bt_all (m_bt_all (m_bt_all (m_lf_all (o_aload_n C (i := 0) rfl dX9_comes_300 rfl)) (m_bt_all (m_lf_all (o_get C (ci := 9) (k := 7) (N := 35) (rf := RX9) (T := TX9) rfl ginX9 (Nat.le_of_ble_eq_true rfl) (m_tb_of 933 (by decide +kernel) rfl) dX9_comes_301 rfl)) (m_lf_all (o_iconst C (x := (2)) (m_rngd rfl) dX9_comes_304 rfl)))) (m_bt_all (m_lf_all (o_iald C dX9_comes_305 rfl)) (m_bt_all (m_lf_all (o_bipush C (x := (31)) (m_rngd rfl) rfl dX9_comes_306 rfl)) (m_lf_all (o_icmp_le C dX9_comes_308 rfl rfl))))) (m_bt_all (m_bt_all (m_lf_all (o_iconst C (x := (0)) (m_rngd rfl) dX9_comes_311 rfl)) (m_bt_all (m_lf_all (o_zret C hr dX9_comes_312)) (m_lf_all (o_aload_n C (i := 0) rfl dX9_comes_313 rfl)))) (m_bt_all (m_lf_all (o_get C (ci := 9) (k := 3) (N := 35) (rf := RX9) (T := TX9) rfl ginX9 (Nat.le_of_ble_eq_true rfl) (m_tb_of 929 (by decide +kernel) rfl) dX9_comes_314 rfl)) (m_bt_all (m_lf_all (o_bipush C (x := (40)) (m_rngd rfl) rfl dX9_comes_317 rfl)) (m_lf_all (o_iconst C (x := (4)) (m_rngd rfl) dX9_comes_319 rfl)))))) (m_bt_all (m_bt_all (m_bt_all (m_lf_all (o_iload_n C (i := 3) rfl dX9_comes_320 rfl)) (m_bt_all (m_lf_all (o_imul C dX9_comes_321 rfl)) (m_lf_all (o_iadd C dX9_comes_322 rfl)))) (m_bt_all (m_lf_all (o_iload_n C (i := 2) rfl dX9_comes_323 rfl)) (m_bt_all (m_lf_all (o_iadd C dX9_comes_324 rfl)) (m_lf_all (o_aload_n C (i := 0) rfl dX9_comes_325 rfl))))) (m_bt_all (m_bt_all (m_lf_all (o_get C (ci := 9) (k := 7) (N := 35) (rf := RX9) (T := TX9) rfl ginX9 (Nat.le_of_ble_eq_true rfl) (m_tb_of 933 (by decide +kernel) rfl) dX9_comes_326 rfl)) (m_bt_all (m_lf_all (o_iconst C (x := (2)) (m_rngd rfl) dX9_comes_329 rfl)) (m_lf_all (o_iald C dX9_comes_330 rfl)))) (m_bt_all (m_lf_all (o_iast C dX9_comes_331 rfl)) (m_bt_all (m_lf_all (o_iconst C (x := (1)) (m_rngd rfl) dX9_comes_332 rfl)) (m_lf_all (o_zret C hr dX9_comes_333))))))))))
set_option maxRecDepth 20000 in
def kX9_reads : m_C := m_bt 69 (m_bt 37 (m_bt 17 (m_bt 6 (m_bt 2 (m_bt 1 (m_lf 0 (s_ald 1 0)) (m_lf 1 (s_push 2 (.inl (0))))) (m_bt 5 (m_lf 2 (s_put 5 9 9)) (m_lf 5 (s_push 6 (.inl (0)))))) (m_bt 8 (m_bt 7 (m_lf 6 (s_ist 7 1)) (m_lf 7 (s_ald 8 0))) (m_bt 11 (m_lf 8 (s_callV 11 1 9 wX9_readsStatement)) (m_bt 14 (m_lf 11 (s_if 14 23 (fun x => ¬ x = 0))) (m_lf 14 (s_push 17 (.inl (-1000)))))))) (m_bt 26 (m_bt 21 (m_bt 18 (m_lf 17 (s_ald 18 0)) (m_lf 18 (s_get 21 9 9))) (m_bt 22 (m_lf 21 (s_bin 22 (fun x y => m_wrap (x - y)))) (m_bt 23 (m_lf 22 (s_ret)) (m_lf 23 (s_inc 26 1 (1)))))) (m_bt 30 (m_bt 27 (m_lf 26 (s_ald 27 0)) (m_lf 27 (s_get 30 9 9))) (m_bt 31 (m_lf 30 (s_ald 31 0)) (m_bt 34 (m_lf 31 (s_get 34 9 8)) (m_lf 34 (s_icmp 37 7 (fun x y => x < y)))))))) (m_bt 51 (m_bt 42 (m_bt 39 (m_bt 38 (m_lf 37 (s_push 38 (.inl (0)))) (m_lf 38 (s_ist 39 2))) (m_bt 40 (m_lf 39 (s_ild 40 2)) (m_lf 40 (s_push 42 (.inl (64)))))) (m_bt 46 (m_bt 45 (m_lf 42 (s_icmp 45 63 (fun x y => y ≤ x))) (m_lf 45 (s_ald 46 0))) (m_bt 49 (m_lf 46 (s_get 49 9 3)) (m_bt 50 (m_lf 49 (s_ild 50 2)) (m_lf 50 (s_ald 51 0)))))) (m_bt 60 (m_bt 55 (m_bt 54 (m_lf 51 (s_get 54 9 1)) (m_lf 54 (s_ild 55 2))) (m_bt 56 (m_lf 55 (s_iald 56)) (m_bt 57 (m_lf 56 (s_iast 57)) (m_lf 57 (s_inc 60 2 (1)))))) (m_bt 64 (m_bt 63 (m_lf 60 (s_goto 39)) (m_lf 63 (s_ald 64 0))) (m_bt 65 (m_lf 64 (s_push 65 (.inl (0)))) (m_bt 68 (m_lf 65 (s_put 68 9 9)) (m_lf 68 (s_ald 69 0)))))))) (m_bt 107 (m_bt 88 (m_bt 79 (m_bt 73 (m_bt 72 (m_lf 69 (s_get 72 9 9)) (m_lf 72 (s_ald 73 0))) (m_bt 76 (m_lf 73 (s_get 76 9 8)) (m_lf 76 (s_icmp 79 112 (fun x y => y ≤ x))))) (m_bt 83 (m_bt 80 (m_lf 79 (s_ald 80 0)) (m_lf 80 (s_get 83 9 9))) (m_bt 84 (m_lf 83 (s_ist 84 2)) (m_bt 85 (m_lf 84 (s_ald 85 0)) (m_lf 85 (s_callV 88 1 9 wX9_sign)))))) (m_bt 96 (m_bt 90 (m_bt 89 (m_lf 88 (s_ist 89 3)) (m_lf 89 (s_ald 90 0))) (m_bt 93 (m_lf 90 (s_callV 93 1 9 wX9_readsStatement)) (m_bt 95 (m_lf 93 (s_ist 95 4)) (m_lf 95 (s_ald 96 0))))) (m_bt 100 (m_bt 97 (m_lf 96 (s_ild 97 3)) (m_lf 97 (s_callV 100 2 9 wX9_comes))) (m_bt 103 (m_lf 100 (s_if 103 109 (fun x => ¬ x = 0))) (m_bt 106 (m_lf 103 (s_push 106 (.inl (-2000)))) (m_lf 106 (s_ild 107 2))))))) (m_bt 124 (m_bt 114 (m_bt 109 (m_bt 108 (m_lf 107 (s_bin 108 (fun x y => m_wrap (x - y)))) (m_lf 108 (s_ret))) (m_bt 112 (m_lf 109 (s_goto 68)) (m_bt 113 (m_lf 112 (s_push 113 (.inl (0)))) (m_lf 113 (s_ist 114 2))))) (m_bt 117 (m_bt 115 (m_lf 114 (s_ild 115 2)) (m_lf 115 (s_push 117 (.inl (64))))) (m_bt 120 (m_lf 117 (s_icmp 120 138 (fun x y => y ≤ x))) (m_bt 121 (m_lf 120 (s_ald 121 0)) (m_lf 121 (s_get 124 9 1)))))) (m_bt 131 (m_bt 126 (m_bt 125 (m_lf 124 (s_ild 125 2)) (m_lf 125 (s_ald 126 0))) (m_bt 129 (m_lf 126 (s_get 129 9 3)) (m_bt 130 (m_lf 129 (s_ild 130 2)) (m_lf 130 (s_iald 131))))) (m_bt 135 (m_bt 132 (m_lf 131 (s_iast 132)) (m_lf 132 (s_inc 135 2 (1)))) (m_bt 138 (m_lf 135 (s_goto 114)) (m_bt 139 (m_lf 138 (s_ild 139 1)) (m_lf 139 (s_ret))))))))
theorem kX9_reads_0 : kX9_reads 0 = some (s_ald 1 0) := rfl
theorem kX9_reads_1 : kX9_reads 1 = some (s_push 2 (.inl (0))) := rfl
theorem kX9_reads_2 : kX9_reads 2 = some (s_put 5 9 9) := rfl
theorem kX9_reads_5 : kX9_reads 5 = some (s_push 6 (.inl (0))) := rfl
theorem kX9_reads_6 : kX9_reads 6 = some (s_ist 7 1) := rfl
theorem kX9_reads_7 : kX9_reads 7 = some (s_ald 8 0) := rfl
theorem kX9_reads_8 : kX9_reads 8 = some (s_callV 11 1 9 wX9_readsStatement) := rfl
theorem kX9_reads_11 : kX9_reads 11 = some (s_if 14 23 (fun x => ¬ x = 0)) := rfl
theorem kX9_reads_14 : kX9_reads 14 = some (s_push 17 (.inl (-1000))) := rfl
theorem kX9_reads_17 : kX9_reads 17 = some (s_ald 18 0) := rfl
theorem kX9_reads_18 : kX9_reads 18 = some (s_get 21 9 9) := rfl
theorem kX9_reads_21 : kX9_reads 21 = some (s_bin 22 (fun x y => m_wrap (x - y))) := rfl
theorem kX9_reads_22 : kX9_reads 22 = some (s_ret) := rfl
theorem kX9_reads_23 : kX9_reads 23 = some (s_inc 26 1 (1)) := rfl
theorem kX9_reads_26 : kX9_reads 26 = some (s_ald 27 0) := rfl
theorem kX9_reads_27 : kX9_reads 27 = some (s_get 30 9 9) := rfl
theorem kX9_reads_30 : kX9_reads 30 = some (s_ald 31 0) := rfl
theorem kX9_reads_31 : kX9_reads 31 = some (s_get 34 9 8) := rfl
theorem kX9_reads_34 : kX9_reads 34 = some (s_icmp 37 7 (fun x y => x < y)) := rfl
theorem kX9_reads_37 : kX9_reads 37 = some (s_push 38 (.inl (0))) := rfl
theorem kX9_reads_38 : kX9_reads 38 = some (s_ist 39 2) := rfl
theorem kX9_reads_39 : kX9_reads 39 = some (s_ild 40 2) := rfl
theorem kX9_reads_40 : kX9_reads 40 = some (s_push 42 (.inl (64))) := rfl
theorem kX9_reads_42 : kX9_reads 42 = some (s_icmp 45 63 (fun x y => y ≤ x)) := rfl
theorem kX9_reads_45 : kX9_reads 45 = some (s_ald 46 0) := rfl
theorem kX9_reads_46 : kX9_reads 46 = some (s_get 49 9 3) := rfl
theorem kX9_reads_49 : kX9_reads 49 = some (s_ild 50 2) := rfl
theorem kX9_reads_50 : kX9_reads 50 = some (s_ald 51 0) := rfl
theorem kX9_reads_51 : kX9_reads 51 = some (s_get 54 9 1) := rfl
theorem kX9_reads_54 : kX9_reads 54 = some (s_ild 55 2) := rfl
theorem kX9_reads_55 : kX9_reads 55 = some (s_iald 56) := rfl
theorem kX9_reads_56 : kX9_reads 56 = some (s_iast 57) := rfl
theorem kX9_reads_57 : kX9_reads 57 = some (s_inc 60 2 (1)) := rfl
theorem kX9_reads_60 : kX9_reads 60 = some (s_goto 39) := rfl
theorem kX9_reads_63 : kX9_reads 63 = some (s_ald 64 0) := rfl
theorem kX9_reads_64 : kX9_reads 64 = some (s_push 65 (.inl (0))) := rfl
theorem kX9_reads_65 : kX9_reads 65 = some (s_put 68 9 9) := rfl
theorem kX9_reads_68 : kX9_reads 68 = some (s_ald 69 0) := rfl
theorem kX9_reads_69 : kX9_reads 69 = some (s_get 72 9 9) := rfl
theorem kX9_reads_72 : kX9_reads 72 = some (s_ald 73 0) := rfl
theorem kX9_reads_73 : kX9_reads 73 = some (s_get 76 9 8) := rfl
theorem kX9_reads_76 : kX9_reads 76 = some (s_icmp 79 112 (fun x y => y ≤ x)) := rfl
theorem kX9_reads_79 : kX9_reads 79 = some (s_ald 80 0) := rfl
theorem kX9_reads_80 : kX9_reads 80 = some (s_get 83 9 9) := rfl
theorem kX9_reads_83 : kX9_reads 83 = some (s_ist 84 2) := rfl
theorem kX9_reads_84 : kX9_reads 84 = some (s_ald 85 0) := rfl
theorem kX9_reads_85 : kX9_reads 85 = some (s_callV 88 1 9 wX9_sign) := rfl
theorem kX9_reads_88 : kX9_reads 88 = some (s_ist 89 3) := rfl
theorem kX9_reads_89 : kX9_reads 89 = some (s_ald 90 0) := rfl
theorem kX9_reads_90 : kX9_reads 90 = some (s_callV 93 1 9 wX9_readsStatement) := rfl
theorem kX9_reads_93 : kX9_reads 93 = some (s_ist 95 4) := rfl
theorem kX9_reads_95 : kX9_reads 95 = some (s_ald 96 0) := rfl
theorem kX9_reads_96 : kX9_reads 96 = some (s_ild 97 3) := rfl
theorem kX9_reads_97 : kX9_reads 97 = some (s_callV 100 2 9 wX9_comes) := rfl
theorem kX9_reads_100 : kX9_reads 100 = some (s_if 103 109 (fun x => ¬ x = 0)) := rfl
theorem kX9_reads_103 : kX9_reads 103 = some (s_push 106 (.inl (-2000))) := rfl
theorem kX9_reads_106 : kX9_reads 106 = some (s_ild 107 2) := rfl
theorem kX9_reads_107 : kX9_reads 107 = some (s_bin 108 (fun x y => m_wrap (x - y))) := rfl
theorem kX9_reads_108 : kX9_reads 108 = some (s_ret) := rfl
theorem kX9_reads_109 : kX9_reads 109 = some (s_goto 68) := rfl
theorem kX9_reads_112 : kX9_reads 112 = some (s_push 113 (.inl (0))) := rfl
theorem kX9_reads_113 : kX9_reads 113 = some (s_ist 114 2) := rfl
theorem kX9_reads_114 : kX9_reads 114 = some (s_ild 115 2) := rfl
theorem kX9_reads_115 : kX9_reads 115 = some (s_push 117 (.inl (64))) := rfl
theorem kX9_reads_117 : kX9_reads 117 = some (s_icmp 120 138 (fun x y => y ≤ x)) := rfl
theorem kX9_reads_120 : kX9_reads 120 = some (s_ald 121 0) := rfl
theorem kX9_reads_121 : kX9_reads 121 = some (s_get 124 9 1) := rfl
theorem kX9_reads_124 : kX9_reads 124 = some (s_ild 125 2) := rfl
theorem kX9_reads_125 : kX9_reads 125 = some (s_ald 126 0) := rfl
theorem kX9_reads_126 : kX9_reads 126 = some (s_get 129 9 3) := rfl
theorem kX9_reads_129 : kX9_reads 129 = some (s_ild 130 2) := rfl
theorem kX9_reads_130 : kX9_reads 130 = some (s_iald 131) := rfl
theorem kX9_reads_131 : kX9_reads 131 = some (s_iast 132) := rfl
theorem kX9_reads_132 : kX9_reads 132 = some (s_inc 135 2 (1)) := rfl
theorem kX9_reads_135 : kX9_reads 135 = some (s_goto 114) := rfl
theorem kX9_reads_138 : kX9_reads 138 = some (s_ild 139 1) := rfl
theorem kX9_reads_139 : kX9_reads 139 = some (s_ret) := rfl
def wX9_reads : m_GK := m_wp 5 kX9_reads
set_option maxRecDepth 100000 in
set_option maxHeartbeats 4000000 in
theorem sX9_reads (l : Launch) (X : m_X) (hX : m_inj X.1) : m_Sound l X 5 yX9_reads cX9_reads 5 (some .int) wX9_reads := m_sound_of hX (by decide) (fun p e s m args below meth c q C hr => m_bt_all (m_bt_all (m_bt_all (m_bt_all (m_bt_all (m_bt_all (m_lf_all (o_aload_n C (i := 0) rfl dX9_reads_0 rfl)) (m_lf_all (o_iconst C (x := (0)) (m_rngd rfl) dX9_reads_1 rfl))) (m_bt_all (m_lf_all (o_put C (ci := 9) (k := 9) (N := 35) (rf := RX9) (T := TX9) rfl ginX9 (Nat.le_of_ble_eq_true rfl) (m_tb_of 935 (by decide +kernel) rfl) (ty0 := tyX9) tyX9_ok nmX9 rfl rfl dX9_reads_2 rfl)) (m_lf_all (o_iconst C (x := (0)) (m_rngd rfl) dX9_reads_5 rfl)))) (m_bt_all (m_bt_all (m_lf_all (o_istore_n C (i := 1) rfl dX9_reads_6 rfl)) (m_lf_all (o_aload_n C (i := 0) rfl dX9_reads_7 rfl))) (m_bt_all (m_lf_all (o_callV C (T := TX9) (N := 35) (sX9_readsStatement l X hX) rfl (m_in_of [1049, 1051, 32, 81] (by decide +kernel) (by decide +kernel)) (m_tb_of 1052 (by decide +kernel) rfl) (by decide +kernel) rfl ⟨Nat.le_of_ble_eq_true rfl, Nat.le_of_ble_eq_true rfl⟩ dX9_reads_8 rfl)) (m_bt_all (m_lf_all (o_if_ne C dX9_reads_11 rfl rfl)) (m_lf_all (o_sipush C (x := (-1000)) (m_rngd rfl) rfl dX9_reads_14 rfl)))))) (m_bt_all (m_bt_all (m_bt_all (m_lf_all (o_aload_n C (i := 0) rfl dX9_reads_17 rfl)) (m_lf_all (o_get C (ci := 9) (k := 9) (N := 35) (rf := RX9) (T := TX9) rfl ginX9 (Nat.le_of_ble_eq_true rfl) (m_tb_of 935 (by decide +kernel) rfl) dX9_reads_18 rfl))) (m_bt_all (m_lf_all (o_isub C dX9_reads_21 rfl)) (m_bt_all (m_lf_all (o_iret C hr dX9_reads_22)) (m_lf_all (o_iinc C dX9_reads_23 rfl))))) (m_bt_all (m_bt_all (m_lf_all (o_aload_n C (i := 0) rfl dX9_reads_26 rfl)) (m_lf_all (o_get C (ci := 9) (k := 9) (N := 35) (rf := RX9) (T := TX9) rfl ginX9 (Nat.le_of_ble_eq_true rfl) (m_tb_of 935 (by decide +kernel) rfl) dX9_reads_27 rfl))) (m_bt_all (m_lf_all (o_aload_n C (i := 0) rfl dX9_reads_30 rfl)) (m_bt_all (m_lf_all (o_get C (ci := 9) (k := 8) (N := 35) (rf := RX9) (T := TX9) rfl ginX9 (Nat.le_of_ble_eq_true rfl) (m_tb_of 934 (by decide +kernel) rfl) dX9_reads_31 rfl)) (m_lf_all (o_icmp_lt C dX9_reads_34 rfl rfl))))))) (m_bt_all (m_bt_all (m_bt_all (m_bt_all (m_lf_all (o_iconst C (x := (0)) (m_rngd rfl) dX9_reads_37 rfl)) (m_lf_all (o_istore_n C (i := 2) rfl dX9_reads_38 rfl))) (m_bt_all (m_lf_all (o_iload_n C (i := 2) rfl dX9_reads_39 rfl)) (m_lf_all (o_bipush C (x := (64)) (m_rngd rfl) rfl dX9_reads_40 rfl)))) (m_bt_all (m_bt_all (m_lf_all (o_icmp_ge C dX9_reads_42 rfl rfl)) (m_lf_all (o_aload_n C (i := 0) rfl dX9_reads_45 rfl))) (m_bt_all (m_lf_all (o_get C (ci := 9) (k := 3) (N := 35) (rf := RX9) (T := TX9) rfl ginX9 (Nat.le_of_ble_eq_true rfl) (m_tb_of 929 (by decide +kernel) rfl) dX9_reads_46 rfl)) (m_bt_all (m_lf_all (o_iload_n C (i := 2) rfl dX9_reads_49 rfl)) (m_lf_all (o_aload_n C (i := 0) rfl dX9_reads_50 rfl)))))) (m_bt_all (m_bt_all (m_bt_all (m_lf_all (o_get C (ci := 9) (k := 1) (N := 35) (rf := RX9) (T := TX9) rfl ginX9 (Nat.le_of_ble_eq_true rfl) (m_tb_of 927 (by decide +kernel) rfl) dX9_reads_51 rfl)) (m_lf_all (o_iload_n C (i := 2) rfl dX9_reads_54 rfl))) (m_bt_all (m_lf_all (o_iald C dX9_reads_55 rfl)) (m_bt_all (m_lf_all (o_iast C dX9_reads_56 rfl)) (m_lf_all (o_iinc C dX9_reads_57 rfl))))) (m_bt_all (m_bt_all (m_lf_all (o_goto C dX9_reads_60 rfl)) (m_lf_all (o_aload_n C (i := 0) rfl dX9_reads_63 rfl))) (m_bt_all (m_lf_all (o_iconst C (x := (0)) (m_rngd rfl) dX9_reads_64 rfl)) (m_bt_all (m_lf_all (o_put C (ci := 9) (k := 9) (N := 35) (rf := RX9) (T := TX9) rfl ginX9 (Nat.le_of_ble_eq_true rfl) (m_tb_of 935 (by decide +kernel) rfl) (ty0 := tyX9) tyX9_ok nmX9 rfl rfl dX9_reads_65 rfl)) (m_lf_all (o_aload_n C (i := 0) rfl dX9_reads_68 rfl)))))))) (m_bt_all (m_bt_all (m_bt_all (m_bt_all (m_bt_all (m_lf_all (o_get C (ci := 9) (k := 9) (N := 35) (rf := RX9) (T := TX9) rfl ginX9 (Nat.le_of_ble_eq_true rfl) (m_tb_of 935 (by decide +kernel) rfl) dX9_reads_69 rfl)) (m_lf_all (o_aload_n C (i := 0) rfl dX9_reads_72 rfl))) (m_bt_all (m_lf_all (o_get C (ci := 9) (k := 8) (N := 35) (rf := RX9) (T := TX9) rfl ginX9 (Nat.le_of_ble_eq_true rfl) (m_tb_of 934 (by decide +kernel) rfl) dX9_reads_73 rfl)) (m_lf_all (o_icmp_ge C dX9_reads_76 rfl rfl)))) (m_bt_all (m_bt_all (m_lf_all (o_aload_n C (i := 0) rfl dX9_reads_79 rfl)) (m_lf_all (o_get C (ci := 9) (k := 9) (N := 35) (rf := RX9) (T := TX9) rfl ginX9 (Nat.le_of_ble_eq_true rfl) (m_tb_of 935 (by decide +kernel) rfl) dX9_reads_80 rfl))) (m_bt_all (m_lf_all (o_istore_n C (i := 2) rfl dX9_reads_83 rfl)) (m_bt_all (m_lf_all (o_aload_n C (i := 0) rfl dX9_reads_84 rfl)) (m_lf_all (o_callV C (T := TX9) (N := 35) (sX9_sign l X hX) rfl (m_in_of [1053, 1055, 33, 81] (by decide +kernel) (by decide +kernel)) (m_tb_of 1056 (by decide +kernel) rfl) (by decide +kernel) rfl ⟨Nat.le_of_ble_eq_true rfl, Nat.le_of_ble_eq_true rfl⟩ dX9_reads_85 rfl)))))) (m_bt_all (m_bt_all (m_bt_all (m_lf_all (o_istore_n C (i := 3) rfl dX9_reads_88 rfl)) (m_lf_all (o_aload_n C (i := 0) rfl dX9_reads_89 rfl))) (m_bt_all (m_lf_all (o_callV C (T := TX9) (N := 35) (sX9_readsStatement l X hX) rfl (m_in_of [1049, 1051, 32, 81] (by decide +kernel) (by decide +kernel)) (m_tb_of 1052 (by decide +kernel) rfl) (by decide +kernel) rfl ⟨Nat.le_of_ble_eq_true rfl, Nat.le_of_ble_eq_true rfl⟩ dX9_reads_90 rfl)) (m_bt_all (m_lf_all (o_istore C dX9_reads_93 rfl)) (m_lf_all (o_aload_n C (i := 0) rfl dX9_reads_95 rfl))))) (m_bt_all (m_bt_all (m_lf_all (o_iload_n C (i := 3) rfl dX9_reads_96 rfl)) (m_lf_all (o_callV C (T := TX9) (N := 35) (sX9_comes l X hX) rfl (m_in_of [1069, 1071, 37, 81] (by decide +kernel) (by decide +kernel)) (m_tb_of 1072 (by decide +kernel) rfl) (by decide +kernel) rfl ⟨Nat.le_of_ble_eq_true rfl, Nat.le_of_ble_eq_true rfl⟩ dX9_reads_97 rfl))) (m_bt_all (m_lf_all (o_if_ne C dX9_reads_100 rfl rfl)) (m_bt_all (m_lf_all (o_sipush C (x := (-2000)) (m_rngd rfl) rfl dX9_reads_103 rfl)) (m_lf_all (o_iload_n C (i := 2) rfl dX9_reads_106 rfl))))))) (m_bt_all (m_bt_all (m_bt_all (m_bt_all (m_lf_all (o_isub C dX9_reads_107 rfl)) (m_lf_all (o_iret C hr dX9_reads_108))) (m_bt_all (m_lf_all (o_goto C dX9_reads_109 rfl)) (m_bt_all (m_lf_all (o_iconst C (x := (0)) (m_rngd rfl) dX9_reads_112 rfl)) (m_lf_all (o_istore_n C (i := 2) rfl dX9_reads_113 rfl))))) (m_bt_all (m_bt_all (m_lf_all (o_iload_n C (i := 2) rfl dX9_reads_114 rfl)) (m_lf_all (o_bipush C (x := (64)) (m_rngd rfl) rfl dX9_reads_115 rfl))) (m_bt_all (m_lf_all (o_icmp_ge C dX9_reads_117 rfl rfl)) (m_bt_all (m_lf_all (o_aload_n C (i := 0) rfl dX9_reads_120 rfl)) (m_lf_all (o_get C (ci := 9) (k := 1) (N := 35) (rf := RX9) (T := TX9) rfl ginX9 (Nat.le_of_ble_eq_true rfl) (m_tb_of 927 (by decide +kernel) rfl) dX9_reads_121 rfl)))))) (m_bt_all (m_bt_all (m_bt_all (m_lf_all (o_iload_n C (i := 2) rfl dX9_reads_124 rfl)) (m_lf_all (o_aload_n C (i := 0) rfl dX9_reads_125 rfl))) (m_bt_all (m_lf_all (o_get C (ci := 9) (k := 3) (N := 35) (rf := RX9) (T := TX9) rfl ginX9 (Nat.le_of_ble_eq_true rfl) (m_tb_of 929 (by decide +kernel) rfl) dX9_reads_126 rfl)) (m_bt_all (m_lf_all (o_iload_n C (i := 2) rfl dX9_reads_129 rfl)) (m_lf_all (o_iald C dX9_reads_130 rfl))))) (m_bt_all (m_bt_all (m_lf_all (o_iast C dX9_reads_131 rfl)) (m_lf_all (o_iinc C dX9_reads_132 rfl))) (m_bt_all (m_lf_all (o_goto C dX9_reads_135 rfl)) (m_bt_all (m_lf_all (o_iload_n C (i := 1) rfl dX9_reads_138 rfl)) (m_lf_all (o_iret C hr dX9_reads_139)))))))))
set_option maxRecDepth 20000 in
def kX9_house : m_C := m_bt 6 (m_bt 4 (m_bt 1 (m_lf 0 (s_ald 1 0)) (m_lf 1 (s_callV 4 1 9 wX9_reads))) (m_bt 5 (m_lf 4 (s_ist 5 1)) (m_lf 5 (s_ald 6 0)))) (m_bt 10 (m_bt 7 (m_lf 6 (s_push 7 (.inl (0)))) (m_lf 7 (s_put 10 9 8))) (m_bt 11 (m_lf 10 (s_ild 11 1)) (m_lf 11 (s_ret))))
theorem kX9_house_0 : kX9_house 0 = some (s_ald 1 0) := rfl
theorem kX9_house_1 : kX9_house 1 = some (s_callV 4 1 9 wX9_reads) := rfl
theorem kX9_house_4 : kX9_house 4 = some (s_ist 5 1) := rfl
theorem kX9_house_5 : kX9_house 5 = some (s_ald 6 0) := rfl
theorem kX9_house_6 : kX9_house 6 = some (s_push 7 (.inl (0))) := rfl
theorem kX9_house_7 : kX9_house 7 = some (s_put 10 9 8) := rfl
theorem kX9_house_10 : kX9_house 10 = some (s_ild 11 1) := rfl
theorem kX9_house_11 : kX9_house 11 = some (s_ret) := rfl
def wX9_house : m_GK := m_wp 2 kX9_house
set_option maxRecDepth 100000 in
set_option maxHeartbeats 4000000 in
theorem sX9_house (l : Launch) (X : m_X) (hX : m_inj X.1) : m_Sound l X 6 yX9_house cX9_house 2 (some .int) wX9_house := m_sound_of hX (by decide) (fun p e s m args below meth c q C hr => m_bt_all (m_bt_all (m_bt_all (m_lf_all (o_aload_n C (i := 0) rfl dX9_house_0 rfl)) (m_lf_all (o_callV C (T := TX9) (N := 35) (sX9_reads l X hX) rfl (m_in_of [1045, 1047, 31, 81] (by decide +kernel) (by decide +kernel)) (m_tb_of 1048 (by decide +kernel) rfl) (by decide +kernel) rfl ⟨Nat.le_of_ble_eq_true rfl, Nat.le_of_ble_eq_true rfl⟩ dX9_house_1 rfl))) (m_bt_all (m_lf_all (o_istore_n C (i := 1) rfl dX9_house_4 rfl)) (m_lf_all (o_aload_n C (i := 0) rfl dX9_house_5 rfl)))) (m_bt_all (m_bt_all (m_lf_all (o_iconst C (x := (0)) (m_rngd rfl) dX9_house_6 rfl)) (m_lf_all (o_put C (ci := 9) (k := 8) (N := 35) (rf := RX9) (T := TX9) rfl ginX9 (Nat.le_of_ble_eq_true rfl) (m_tb_of 934 (by decide +kernel) rfl) (ty0 := tyX9) tyX9_ok nmX9 rfl rfl dX9_house_7 rfl))) (m_bt_all (m_lf_all (o_iload_n C (i := 1) rfl dX9_house_10 rfl)) (m_lf_all (o_iret C hr dX9_house_11)))))
set_option maxRecDepth 20000 in
def kX9_sort : m_C := m_bt 26 (m_bt 10 (m_bt 5 (m_bt 1 (m_lf 0 (s_ald 1 0)) (m_bt 2 (m_lf 1 (s_ild 2 1)) (m_lf 2 (s_callV 5 2 9 wX9_isSort)))) (m_bt 8 (m_lf 5 (s_if 8 16 (fun x => ¬ x = 0))) (m_bt 9 (m_lf 8 (s_ald 9 0)) (m_lf 9 (s_push 10 (.inl (-1))))))) (m_bt 17 (m_bt 13 (m_lf 10 (s_callV 13 2 9 wX9_refuse)) (m_bt 16 (m_lf 13 (s_goto 48)) (m_lf 16 (s_ild 17 2)))) (m_bt 22 (m_bt 19 (m_lf 17 (s_push 19 (.inl (6)))) (m_lf 19 (s_callS 22 2 wX9_isIn))) (m_bt 25 (m_lf 22 (s_if 25 42 (fun x => x = 0))) (m_lf 25 (s_ald 26 0)))))) (m_bt 37 (m_bt 33 (m_bt 29 (m_lf 26 (s_get 29 9 1)) (m_bt 31 (m_lf 29 (s_push 31 (.inl (10)))) (m_lf 31 (s_push 33 (.inl (6)))))) (m_bt 35 (m_bt 34 (m_lf 33 (s_ild 34 1)) (m_lf 34 (s_bin 35 (fun x y => m_wrap (x * y))))) (m_bt 36 (m_lf 35 (s_bin 36 (fun x y => m_wrap (x + y)))) (m_lf 36 (s_ild 37 2))))) (m_bt 42 (m_bt 38 (m_lf 37 (s_bin 38 (fun x y => m_wrap (x + y)))) (m_bt 39 (m_lf 38 (s_iald 39)) (m_lf 39 (s_goto 48)))) (m_bt 45 (m_bt 43 (m_lf 42 (s_ald 43 0)) (m_lf 43 (s_push 45 (.inl (-2))))) (m_bt 48 (m_lf 45 (s_callV 48 2 9 wX9_refuse)) (m_lf 48 (s_ret))))))
theorem kX9_sort_0 : kX9_sort 0 = some (s_ald 1 0) := rfl
theorem kX9_sort_1 : kX9_sort 1 = some (s_ild 2 1) := rfl
theorem kX9_sort_2 : kX9_sort 2 = some (s_callV 5 2 9 wX9_isSort) := rfl
theorem kX9_sort_5 : kX9_sort 5 = some (s_if 8 16 (fun x => ¬ x = 0)) := rfl
theorem kX9_sort_8 : kX9_sort 8 = some (s_ald 9 0) := rfl
theorem kX9_sort_9 : kX9_sort 9 = some (s_push 10 (.inl (-1))) := rfl
theorem kX9_sort_10 : kX9_sort 10 = some (s_callV 13 2 9 wX9_refuse) := rfl
theorem kX9_sort_13 : kX9_sort 13 = some (s_goto 48) := rfl
theorem kX9_sort_16 : kX9_sort 16 = some (s_ild 17 2) := rfl
theorem kX9_sort_17 : kX9_sort 17 = some (s_push 19 (.inl (6))) := rfl
theorem kX9_sort_19 : kX9_sort 19 = some (s_callS 22 2 wX9_isIn) := rfl
theorem kX9_sort_22 : kX9_sort 22 = some (s_if 25 42 (fun x => x = 0)) := rfl
theorem kX9_sort_25 : kX9_sort 25 = some (s_ald 26 0) := rfl
theorem kX9_sort_26 : kX9_sort 26 = some (s_get 29 9 1) := rfl
theorem kX9_sort_29 : kX9_sort 29 = some (s_push 31 (.inl (10))) := rfl
theorem kX9_sort_31 : kX9_sort 31 = some (s_push 33 (.inl (6))) := rfl
theorem kX9_sort_33 : kX9_sort 33 = some (s_ild 34 1) := rfl
theorem kX9_sort_34 : kX9_sort 34 = some (s_bin 35 (fun x y => m_wrap (x * y))) := rfl
theorem kX9_sort_35 : kX9_sort 35 = some (s_bin 36 (fun x y => m_wrap (x + y))) := rfl
theorem kX9_sort_36 : kX9_sort 36 = some (s_ild 37 2) := rfl
theorem kX9_sort_37 : kX9_sort 37 = some (s_bin 38 (fun x y => m_wrap (x + y))) := rfl
theorem kX9_sort_38 : kX9_sort 38 = some (s_iald 39) := rfl
theorem kX9_sort_39 : kX9_sort 39 = some (s_goto 48) := rfl
theorem kX9_sort_42 : kX9_sort 42 = some (s_ald 43 0) := rfl
theorem kX9_sort_43 : kX9_sort 43 = some (s_push 45 (.inl (-2))) := rfl
theorem kX9_sort_45 : kX9_sort 45 = some (s_callV 48 2 9 wX9_refuse) := rfl
theorem kX9_sort_48 : kX9_sort 48 = some (s_ret) := rfl
def wX9_sort : m_GK := m_wp 3 kX9_sort
set_option maxRecDepth 100000 in
set_option maxHeartbeats 4000000 in
theorem sX9_sort (l : Launch) (X : m_X) (hX : m_inj X.1) : m_Sound l X 3 yX9_sort cX9_sort 3 (some .int) wX9_sort := m_sound_of hX (by decide) (fun p e s m args below meth c q C hr => m_bt_all (m_bt_all (m_bt_all (m_bt_all (m_lf_all (o_aload_n C (i := 0) rfl dX9_sort_0 rfl)) (m_bt_all (m_lf_all (o_iload_n C (i := 1) rfl dX9_sort_1 rfl)) (m_lf_all (o_callV C (T := TX9) (N := 35) (sX9_isSort l X hX) rfl (m_in_of [1077, 1079, 38, 81] (by decide +kernel) (by decide +kernel)) (m_tb_of 1080 (by decide +kernel) rfl) (by decide +kernel) rfl ⟨Nat.le_of_ble_eq_true rfl, Nat.le_of_ble_eq_true rfl⟩ dX9_sort_2 rfl)))) (m_bt_all (m_lf_all (o_if_ne C dX9_sort_5 rfl rfl)) (m_bt_all (m_lf_all (o_aload_n C (i := 0) rfl dX9_sort_8 rfl)) (m_lf_all (o_iconst C (x := (-1)) (m_rngd rfl) dX9_sort_9 rfl))))) (m_bt_all (m_bt_all (m_lf_all (o_callV C (T := TX9) (N := 35) (sX9_refuse l X hX) rfl (m_in_of [1036, 1038, 30, 81] (by decide +kernel) (by decide +kernel)) (m_tb_of 1039 (by decide +kernel) rfl) (by decide +kernel) rfl ⟨Nat.le_of_ble_eq_true rfl, Nat.le_of_ble_eq_true rfl⟩ dX9_sort_10 rfl)) (m_bt_all (m_lf_all (o_goto C dX9_sort_13 rfl)) (m_lf_all (o_iload_n C (i := 2) rfl dX9_sort_16 rfl)))) (m_bt_all (m_bt_all (m_lf_all (o_bipush C (x := (6)) (m_rngd rfl) rfl dX9_sort_17 rfl)) (m_lf_all (o_callS C (sX9_isIn l X hX) (m_in_of [1081, 1082, 81] (by decide +kernel) (by decide +kernel)) (m_tb_of 1083 (by decide +kernel) rfl) (by decide +kernel) ⟨Nat.le_of_ble_eq_true rfl, Nat.le_of_ble_eq_true rfl⟩ dX9_sort_19 rfl))) (m_bt_all (m_lf_all (o_if_eq C dX9_sort_22 rfl rfl)) (m_lf_all (o_aload_n C (i := 0) rfl dX9_sort_25 rfl)))))) (m_bt_all (m_bt_all (m_bt_all (m_lf_all (o_get C (ci := 9) (k := 1) (N := 35) (rf := RX9) (T := TX9) rfl ginX9 (Nat.le_of_ble_eq_true rfl) (m_tb_of 927 (by decide +kernel) rfl) dX9_sort_26 rfl)) (m_bt_all (m_lf_all (o_bipush C (x := (10)) (m_rngd rfl) rfl dX9_sort_29 rfl)) (m_lf_all (o_bipush C (x := (6)) (m_rngd rfl) rfl dX9_sort_31 rfl)))) (m_bt_all (m_bt_all (m_lf_all (o_iload_n C (i := 1) rfl dX9_sort_33 rfl)) (m_lf_all (o_imul C dX9_sort_34 rfl))) (m_bt_all (m_lf_all (o_iadd C dX9_sort_35 rfl)) (m_lf_all (o_iload_n C (i := 2) rfl dX9_sort_36 rfl))))) (m_bt_all (m_bt_all (m_lf_all (o_iadd C dX9_sort_37 rfl)) (m_bt_all (m_lf_all (o_iald C dX9_sort_38 rfl)) (m_lf_all (o_goto C dX9_sort_39 rfl)))) (m_bt_all (m_bt_all (m_lf_all (o_aload_n C (i := 0) rfl dX9_sort_42 rfl)) (m_lf_all (o_bipush C (x := (-2)) (m_rngd rfl) rfl dX9_sort_43 rfl))) (m_bt_all (m_lf_all (o_callV C (T := TX9) (N := 35) (sX9_refuse l X hX) rfl (m_in_of [1036, 1038, 30, 81] (by decide +kernel) (by decide +kernel)) (m_tb_of 1039 (by decide +kernel) rfl) (by decide +kernel) rfl ⟨Nat.le_of_ble_eq_true rfl, Nat.le_of_ble_eq_true rfl⟩ dX9_sort_45 rfl)) (m_lf_all (o_iret C hr dX9_sort_48)))))))
set_option maxRecDepth 20000 in
def kX9_wordOf : m_C := m_bt 19 (m_bt 12 (m_bt 3 (m_bt 1 (m_lf 0 (s_ild 1 2)) (m_bt 2 (m_lf 1 (s_ist 2 3)) (m_lf 2 (s_ild 3 3)))) (m_bt 7 (m_bt 6 (m_lf 3 (s_if 6 28 (fun x => x ≤ 0))) (m_lf 6 (s_ald 7 0))) (m_bt 10 (m_lf 7 (s_get 10 9 1)) (m_lf 10 (s_push 12 (.inl (40))))))) (m_bt 15 (m_bt 13 (m_lf 12 (s_push 13 (.inl (4)))) (m_bt 14 (m_lf 13 (s_ild 14 1)) (m_lf 14 (s_bin 15 (fun x y => m_wrap (x * y)))))) (m_bt 17 (m_bt 16 (m_lf 15 (s_bin 16 (fun x y => m_wrap (x + y)))) (m_lf 16 (s_ild 17 3))) (m_bt 18 (m_lf 17 (s_bin 18 (fun x y => m_wrap (x + y)))) (m_lf 18 (s_iald 19)))))) (m_bt 35 (m_bt 28 (m_bt 22 (m_lf 19 (s_if 22 28 (fun x => 0 ≤ x))) (m_bt 25 (m_lf 22 (s_inc 25 3 (-1))) (m_lf 25 (s_goto 2)))) (m_bt 32 (m_bt 29 (m_lf 28 (s_ald 29 0)) (m_lf 29 (s_get 32 9 1))) (m_bt 34 (m_lf 32 (s_push 34 (.inl (40)))) (m_lf 34 (s_push 35 (.inl (4))))))) (m_bt 38 (m_bt 36 (m_lf 35 (s_ild 36 1)) (m_bt 37 (m_lf 36 (s_bin 37 (fun x y => m_wrap (x * y)))) (m_lf 37 (s_bin 38 (fun x y => m_wrap (x + y)))))) (m_bt 40 (m_bt 39 (m_lf 38 (s_ild 39 3)) (m_lf 39 (s_bin 40 (fun x y => m_wrap (x + y))))) (m_bt 41 (m_lf 40 (s_iald 41)) (m_lf 41 (s_ret))))))
theorem kX9_wordOf_0 : kX9_wordOf 0 = some (s_ild 1 2) := rfl
theorem kX9_wordOf_1 : kX9_wordOf 1 = some (s_ist 2 3) := rfl
theorem kX9_wordOf_2 : kX9_wordOf 2 = some (s_ild 3 3) := rfl
theorem kX9_wordOf_3 : kX9_wordOf 3 = some (s_if 6 28 (fun x => x ≤ 0)) := rfl
theorem kX9_wordOf_6 : kX9_wordOf 6 = some (s_ald 7 0) := rfl
theorem kX9_wordOf_7 : kX9_wordOf 7 = some (s_get 10 9 1) := rfl
theorem kX9_wordOf_10 : kX9_wordOf 10 = some (s_push 12 (.inl (40))) := rfl
theorem kX9_wordOf_12 : kX9_wordOf 12 = some (s_push 13 (.inl (4))) := rfl
theorem kX9_wordOf_13 : kX9_wordOf 13 = some (s_ild 14 1) := rfl
theorem kX9_wordOf_14 : kX9_wordOf 14 = some (s_bin 15 (fun x y => m_wrap (x * y))) := rfl
theorem kX9_wordOf_15 : kX9_wordOf 15 = some (s_bin 16 (fun x y => m_wrap (x + y))) := rfl
theorem kX9_wordOf_16 : kX9_wordOf 16 = some (s_ild 17 3) := rfl
theorem kX9_wordOf_17 : kX9_wordOf 17 = some (s_bin 18 (fun x y => m_wrap (x + y))) := rfl
theorem kX9_wordOf_18 : kX9_wordOf 18 = some (s_iald 19) := rfl
theorem kX9_wordOf_19 : kX9_wordOf 19 = some (s_if 22 28 (fun x => 0 ≤ x)) := rfl
theorem kX9_wordOf_22 : kX9_wordOf 22 = some (s_inc 25 3 (-1)) := rfl
theorem kX9_wordOf_25 : kX9_wordOf 25 = some (s_goto 2) := rfl
theorem kX9_wordOf_28 : kX9_wordOf 28 = some (s_ald 29 0) := rfl
theorem kX9_wordOf_29 : kX9_wordOf 29 = some (s_get 32 9 1) := rfl
theorem kX9_wordOf_32 : kX9_wordOf 32 = some (s_push 34 (.inl (40))) := rfl
theorem kX9_wordOf_34 : kX9_wordOf 34 = some (s_push 35 (.inl (4))) := rfl
theorem kX9_wordOf_35 : kX9_wordOf 35 = some (s_ild 36 1) := rfl
theorem kX9_wordOf_36 : kX9_wordOf 36 = some (s_bin 37 (fun x y => m_wrap (x * y))) := rfl
theorem kX9_wordOf_37 : kX9_wordOf 37 = some (s_bin 38 (fun x y => m_wrap (x + y))) := rfl
theorem kX9_wordOf_38 : kX9_wordOf 38 = some (s_ild 39 3) := rfl
theorem kX9_wordOf_39 : kX9_wordOf 39 = some (s_bin 40 (fun x y => m_wrap (x + y))) := rfl
theorem kX9_wordOf_40 : kX9_wordOf 40 = some (s_iald 41) := rfl
theorem kX9_wordOf_41 : kX9_wordOf 41 = some (s_ret) := rfl
def wX9_wordOf : m_GK := m_wp 4 kX9_wordOf
set_option maxRecDepth 100000 in
set_option maxHeartbeats 4000000 in
theorem sX9_wordOf (l : Launch) (X : m_X) (hX : m_inj X.1) : m_Sound l X 1 yX9_wordOf cX9_wordOf 4 (some .int) wX9_wordOf := m_sound_of hX (by decide) (fun p e s m args below meth c q C hr => m_bt_all (m_bt_all (m_bt_all (m_bt_all (m_lf_all (o_iload_n C (i := 2) rfl dX9_wordOf_0 rfl)) (m_bt_all (m_lf_all (o_istore_n C (i := 3) rfl dX9_wordOf_1 rfl)) (m_lf_all (o_iload_n C (i := 3) rfl dX9_wordOf_2 rfl)))) (m_bt_all (m_bt_all (m_lf_all (o_if_le C dX9_wordOf_3 rfl rfl)) (m_lf_all (o_aload_n C (i := 0) rfl dX9_wordOf_6 rfl))) (m_bt_all (m_lf_all (o_get C (ci := 9) (k := 1) (N := 35) (rf := RX9) (T := TX9) rfl ginX9 (Nat.le_of_ble_eq_true rfl) (m_tb_of 927 (by decide +kernel) rfl) dX9_wordOf_7 rfl)) (m_lf_all (o_bipush C (x := (40)) (m_rngd rfl) rfl dX9_wordOf_10 rfl))))) (m_bt_all (m_bt_all (m_lf_all (o_iconst C (x := (4)) (m_rngd rfl) dX9_wordOf_12 rfl)) (m_bt_all (m_lf_all (o_iload_n C (i := 1) rfl dX9_wordOf_13 rfl)) (m_lf_all (o_imul C dX9_wordOf_14 rfl)))) (m_bt_all (m_bt_all (m_lf_all (o_iadd C dX9_wordOf_15 rfl)) (m_lf_all (o_iload_n C (i := 3) rfl dX9_wordOf_16 rfl))) (m_bt_all (m_lf_all (o_iadd C dX9_wordOf_17 rfl)) (m_lf_all (o_iald C dX9_wordOf_18 rfl)))))) (m_bt_all (m_bt_all (m_bt_all (m_lf_all (o_if_ge C dX9_wordOf_19 rfl rfl)) (m_bt_all (m_lf_all (o_iinc C dX9_wordOf_22 rfl)) (m_lf_all (o_goto C dX9_wordOf_25 rfl)))) (m_bt_all (m_bt_all (m_lf_all (o_aload_n C (i := 0) rfl dX9_wordOf_28 rfl)) (m_lf_all (o_get C (ci := 9) (k := 1) (N := 35) (rf := RX9) (T := TX9) rfl ginX9 (Nat.le_of_ble_eq_true rfl) (m_tb_of 927 (by decide +kernel) rfl) dX9_wordOf_29 rfl))) (m_bt_all (m_lf_all (o_bipush C (x := (40)) (m_rngd rfl) rfl dX9_wordOf_32 rfl)) (m_lf_all (o_iconst C (x := (4)) (m_rngd rfl) dX9_wordOf_34 rfl))))) (m_bt_all (m_bt_all (m_lf_all (o_iload_n C (i := 1) rfl dX9_wordOf_35 rfl)) (m_bt_all (m_lf_all (o_imul C dX9_wordOf_36 rfl)) (m_lf_all (o_iadd C dX9_wordOf_37 rfl)))) (m_bt_all (m_bt_all (m_lf_all (o_iload_n C (i := 3) rfl dX9_wordOf_38 rfl)) (m_lf_all (o_iadd C dX9_wordOf_39 rfl))) (m_bt_all (m_lf_all (o_iald C dX9_wordOf_40 rfl)) (m_lf_all (o_iret C hr dX9_wordOf_41)))))))
set_option maxRecDepth 20000 in
def kX9_lane : m_C := m_bt 16 (m_bt 8 (m_bt 2 (m_bt 1 (m_lf 0 (s_ald 1 0)) (m_lf 1 (s_ild 2 1))) (m_bt 5 (m_lf 2 (s_callV 5 2 9 wX9_isLane)) (m_lf 5 (s_if 8 25 (fun x => x = 0))))) (m_bt 10 (m_bt 9 (m_lf 8 (s_ild 9 2)) (m_lf 9 (s_push 10 (.inl (4))))) (m_bt 13 (m_lf 10 (s_callS 13 2 wX9_isIn)) (m_lf 13 (s_if 16 25 (fun x => x = 0)))))) (m_bt 22 (m_bt 18 (m_bt 17 (m_lf 16 (s_ald 17 0)) (m_lf 17 (s_ild 18 1))) (m_bt 19 (m_lf 18 (s_ild 19 2)) (m_lf 19 (s_callV 22 3 9 wX9_wordOf)))) (m_bt 26 (m_bt 25 (m_lf 22 (s_goto 30)) (m_lf 25 (s_ald 26 0))) (m_bt 27 (m_lf 26 (s_push 27 (.inl (-1)))) (m_bt 30 (m_lf 27 (s_callV 30 2 9 wX9_refuse)) (m_lf 30 (s_ret))))))
theorem kX9_lane_0 : kX9_lane 0 = some (s_ald 1 0) := rfl
theorem kX9_lane_1 : kX9_lane 1 = some (s_ild 2 1) := rfl
theorem kX9_lane_2 : kX9_lane 2 = some (s_callV 5 2 9 wX9_isLane) := rfl
theorem kX9_lane_5 : kX9_lane 5 = some (s_if 8 25 (fun x => x = 0)) := rfl
theorem kX9_lane_8 : kX9_lane 8 = some (s_ild 9 2) := rfl
theorem kX9_lane_9 : kX9_lane 9 = some (s_push 10 (.inl (4))) := rfl
theorem kX9_lane_10 : kX9_lane 10 = some (s_callS 13 2 wX9_isIn) := rfl
theorem kX9_lane_13 : kX9_lane 13 = some (s_if 16 25 (fun x => x = 0)) := rfl
theorem kX9_lane_16 : kX9_lane 16 = some (s_ald 17 0) := rfl
theorem kX9_lane_17 : kX9_lane 17 = some (s_ild 18 1) := rfl
theorem kX9_lane_18 : kX9_lane 18 = some (s_ild 19 2) := rfl
theorem kX9_lane_19 : kX9_lane 19 = some (s_callV 22 3 9 wX9_wordOf) := rfl
theorem kX9_lane_22 : kX9_lane 22 = some (s_goto 30) := rfl
theorem kX9_lane_25 : kX9_lane 25 = some (s_ald 26 0) := rfl
theorem kX9_lane_26 : kX9_lane 26 = some (s_push 27 (.inl (-1))) := rfl
theorem kX9_lane_27 : kX9_lane 27 = some (s_callV 30 2 9 wX9_refuse) := rfl
theorem kX9_lane_30 : kX9_lane 30 = some (s_ret) := rfl
def wX9_lane : m_GK := m_wp 3 kX9_lane
set_option maxRecDepth 100000 in
set_option maxHeartbeats 4000000 in
theorem sX9_lane (l : Launch) (X : m_X) (hX : m_inj X.1) : m_Sound l X 3 yX9_lane cX9_lane 3 (some .int) wX9_lane := m_sound_of hX (by decide) (fun p e s m args below meth c q C hr => m_bt_all (m_bt_all (m_bt_all (m_bt_all (m_lf_all (o_aload_n C (i := 0) rfl dX9_lane_0 rfl)) (m_lf_all (o_iload_n C (i := 1) rfl dX9_lane_1 rfl))) (m_bt_all (m_lf_all (o_callV C (T := TX9) (N := 35) (sX9_isLane l X hX) rfl (m_in_of [1088, 1090, 39, 81] (by decide +kernel) (by decide +kernel)) (m_tb_of 1091 (by decide +kernel) rfl) (by decide +kernel) rfl ⟨Nat.le_of_ble_eq_true rfl, Nat.le_of_ble_eq_true rfl⟩ dX9_lane_2 rfl)) (m_lf_all (o_if_eq C dX9_lane_5 rfl rfl)))) (m_bt_all (m_bt_all (m_lf_all (o_iload_n C (i := 2) rfl dX9_lane_8 rfl)) (m_lf_all (o_iconst C (x := (4)) (m_rngd rfl) dX9_lane_9 rfl))) (m_bt_all (m_lf_all (o_callS C (sX9_isIn l X hX) (m_in_of [1081, 1082, 81] (by decide +kernel) (by decide +kernel)) (m_tb_of 1083 (by decide +kernel) rfl) (by decide +kernel) ⟨Nat.le_of_ble_eq_true rfl, Nat.le_of_ble_eq_true rfl⟩ dX9_lane_10 rfl)) (m_lf_all (o_if_eq C dX9_lane_13 rfl rfl))))) (m_bt_all (m_bt_all (m_bt_all (m_lf_all (o_aload_n C (i := 0) rfl dX9_lane_16 rfl)) (m_lf_all (o_iload_n C (i := 1) rfl dX9_lane_17 rfl))) (m_bt_all (m_lf_all (o_iload_n C (i := 2) rfl dX9_lane_18 rfl)) (m_lf_all (o_callV C (T := TX9) (N := 35) (sX9_wordOf l X hX) rfl (m_in_of [1092, 1094, 40, 81] (by decide +kernel) (by decide +kernel)) (m_tb_of 1095 (by decide +kernel) rfl) (by decide +kernel) rfl ⟨Nat.le_of_ble_eq_true rfl, Nat.le_of_ble_eq_true rfl⟩ dX9_lane_19 rfl)))) (m_bt_all (m_bt_all (m_lf_all (o_goto C dX9_lane_22 rfl)) (m_lf_all (o_aload_n C (i := 0) rfl dX9_lane_25 rfl))) (m_bt_all (m_lf_all (o_iconst C (x := (-1)) (m_rngd rfl) dX9_lane_26 rfl)) (m_bt_all (m_lf_all (o_callV C (T := TX9) (N := 35) (sX9_refuse l X hX) rfl (m_in_of [1036, 1038, 30, 81] (by decide +kernel) (by decide +kernel)) (m_tb_of 1039 (by decide +kernel) rfl) (by decide +kernel) rfl ⟨Nat.le_of_ble_eq_true rfl, Nat.le_of_ble_eq_true rfl⟩ dX9_lane_27 rfl)) (m_lf_all (o_iret C hr dX9_lane_30)))))))
set_option maxRecDepth 20000 in
def kX9_word : m_C := m_bt 24 (m_bt 10 (m_bt 5 (m_bt 1 (m_lf 0 (s_ald 1 0)) (m_bt 2 (m_lf 1 (s_ild 2 1)) (m_lf 2 (s_callV 5 2 9 wX9_isLane)))) (m_bt 8 (m_lf 5 (s_if 8 18 (fun x => x = 0))) (m_bt 9 (m_lf 8 (s_ild 9 2)) (m_lf 9 (s_push 10 (.inl (0))))))) (m_bt 18 (m_bt 12 (m_lf 10 (s_push 12 (.inl (31)))) (m_bt 15 (m_lf 12 (s_callS 15 3 wX9_within)) (m_lf 15 (s_goto 19)))) (m_bt 20 (m_bt 19 (m_lf 18 (s_push 19 (.inl (-1)))) (m_lf 19 (s_ist 20 3))) (m_bt 21 (m_lf 20 (s_ild 21 3)) (m_lf 21 (s_if 24 32 (fun x => x = 0))))))) (m_bt 35 (m_bt 29 (m_bt 25 (m_lf 24 (s_ald 25 0)) (m_bt 26 (m_lf 25 (s_ild 26 3)) (m_lf 26 (s_callV 29 2 9 wX9_refuse)))) (m_bt 32 (m_lf 29 (s_goto 43)) (m_bt 33 (m_lf 32 (s_ald 33 0)) (m_lf 33 (s_push 35 (.inl (40))))))) (m_bt 38 (m_bt 36 (m_lf 35 (s_push 36 (.inl (4)))) (m_bt 37 (m_lf 36 (s_ild 37 1)) (m_lf 37 (s_bin 38 (fun x y => m_wrap (x * y)))))) (m_bt 40 (m_bt 39 (m_lf 38 (s_bin 39 (fun x y => m_wrap (x + y)))) (m_lf 39 (s_ild 40 2))) (m_bt 43 (m_lf 40 (s_callV 43 3 9 wX9_becomes)) (m_lf 43 (s_ret))))))
theorem kX9_word_0 : kX9_word 0 = some (s_ald 1 0) := rfl
theorem kX9_word_1 : kX9_word 1 = some (s_ild 2 1) := rfl
theorem kX9_word_2 : kX9_word 2 = some (s_callV 5 2 9 wX9_isLane) := rfl
theorem kX9_word_5 : kX9_word 5 = some (s_if 8 18 (fun x => x = 0)) := rfl
theorem kX9_word_8 : kX9_word 8 = some (s_ild 9 2) := rfl
theorem kX9_word_9 : kX9_word 9 = some (s_push 10 (.inl (0))) := rfl
theorem kX9_word_10 : kX9_word 10 = some (s_push 12 (.inl (31))) := rfl
theorem kX9_word_12 : kX9_word 12 = some (s_callS 15 3 wX9_within) := rfl
theorem kX9_word_15 : kX9_word 15 = some (s_goto 19) := rfl
theorem kX9_word_18 : kX9_word 18 = some (s_push 19 (.inl (-1))) := rfl
theorem kX9_word_19 : kX9_word 19 = some (s_ist 20 3) := rfl
theorem kX9_word_20 : kX9_word 20 = some (s_ild 21 3) := rfl
theorem kX9_word_21 : kX9_word 21 = some (s_if 24 32 (fun x => x = 0)) := rfl
theorem kX9_word_24 : kX9_word 24 = some (s_ald 25 0) := rfl
theorem kX9_word_25 : kX9_word 25 = some (s_ild 26 3) := rfl
theorem kX9_word_26 : kX9_word 26 = some (s_callV 29 2 9 wX9_refuse) := rfl
theorem kX9_word_29 : kX9_word 29 = some (s_goto 43) := rfl
theorem kX9_word_32 : kX9_word 32 = some (s_ald 33 0) := rfl
theorem kX9_word_33 : kX9_word 33 = some (s_push 35 (.inl (40))) := rfl
theorem kX9_word_35 : kX9_word 35 = some (s_push 36 (.inl (4))) := rfl
theorem kX9_word_36 : kX9_word 36 = some (s_ild 37 1) := rfl
theorem kX9_word_37 : kX9_word 37 = some (s_bin 38 (fun x y => m_wrap (x * y))) := rfl
theorem kX9_word_38 : kX9_word 38 = some (s_bin 39 (fun x y => m_wrap (x + y))) := rfl
theorem kX9_word_39 : kX9_word 39 = some (s_ild 40 2) := rfl
theorem kX9_word_40 : kX9_word 40 = some (s_callV 43 3 9 wX9_becomes) := rfl
theorem kX9_word_43 : kX9_word 43 = some (s_ret) := rfl
def wX9_word : m_GK := m_wp 4 kX9_word
set_option maxRecDepth 100000 in
set_option maxHeartbeats 4000000 in
theorem sX9_word (l : Launch) (X : m_X) (hX : m_inj X.1) : m_Sound l X 3 yX9_word cX9_word 4 (some .int) wX9_word := m_sound_of hX (by decide) (fun p e s m args below meth c q C hr => m_bt_all (m_bt_all (m_bt_all (m_bt_all (m_lf_all (o_aload_n C (i := 0) rfl dX9_word_0 rfl)) (m_bt_all (m_lf_all (o_iload_n C (i := 1) rfl dX9_word_1 rfl)) (m_lf_all (o_callV C (T := TX9) (N := 35) (sX9_isLane l X hX) rfl (m_in_of [1088, 1090, 39, 81] (by decide +kernel) (by decide +kernel)) (m_tb_of 1091 (by decide +kernel) rfl) (by decide +kernel) rfl ⟨Nat.le_of_ble_eq_true rfl, Nat.le_of_ble_eq_true rfl⟩ dX9_word_2 rfl)))) (m_bt_all (m_lf_all (o_if_eq C dX9_word_5 rfl rfl)) (m_bt_all (m_lf_all (o_iload_n C (i := 2) rfl dX9_word_8 rfl)) (m_lf_all (o_iconst C (x := (0)) (m_rngd rfl) dX9_word_9 rfl))))) (m_bt_all (m_bt_all (m_lf_all (o_bipush C (x := (31)) (m_rngd rfl) rfl dX9_word_10 rfl)) (m_bt_all (m_lf_all (o_callS C (sX9_within l X hX) (m_in_of [1100, 1101, 81] (by decide +kernel) (by decide +kernel)) (m_tb_of 1102 (by decide +kernel) rfl) (by decide +kernel) ⟨Nat.le_of_ble_eq_true rfl, Nat.le_of_ble_eq_true rfl⟩ dX9_word_12 rfl)) (m_lf_all (o_goto C dX9_word_15 rfl)))) (m_bt_all (m_bt_all (m_lf_all (o_iconst C (x := (-1)) (m_rngd rfl) dX9_word_18 rfl)) (m_lf_all (o_istore_n C (i := 3) rfl dX9_word_19 rfl))) (m_bt_all (m_lf_all (o_iload_n C (i := 3) rfl dX9_word_20 rfl)) (m_lf_all (o_if_eq C dX9_word_21 rfl rfl)))))) (m_bt_all (m_bt_all (m_bt_all (m_lf_all (o_aload_n C (i := 0) rfl dX9_word_24 rfl)) (m_bt_all (m_lf_all (o_iload_n C (i := 3) rfl dX9_word_25 rfl)) (m_lf_all (o_callV C (T := TX9) (N := 35) (sX9_refuse l X hX) rfl (m_in_of [1036, 1038, 30, 81] (by decide +kernel) (by decide +kernel)) (m_tb_of 1039 (by decide +kernel) rfl) (by decide +kernel) rfl ⟨Nat.le_of_ble_eq_true rfl, Nat.le_of_ble_eq_true rfl⟩ dX9_word_26 rfl)))) (m_bt_all (m_lf_all (o_goto C dX9_word_29 rfl)) (m_bt_all (m_lf_all (o_aload_n C (i := 0) rfl dX9_word_32 rfl)) (m_lf_all (o_bipush C (x := (40)) (m_rngd rfl) rfl dX9_word_33 rfl))))) (m_bt_all (m_bt_all (m_lf_all (o_iconst C (x := (4)) (m_rngd rfl) dX9_word_35 rfl)) (m_bt_all (m_lf_all (o_iload_n C (i := 1) rfl dX9_word_36 rfl)) (m_lf_all (o_imul C dX9_word_37 rfl)))) (m_bt_all (m_bt_all (m_lf_all (o_iadd C dX9_word_38 rfl)) (m_lf_all (o_iload_n C (i := 2) rfl dX9_word_39 rfl))) (m_bt_all (m_lf_all (o_callV C (T := TX9) (N := 35) (sX9_becomes l X hX) rfl (m_in_of [1103, 1105, 41, 81] (by decide +kernel) (by decide +kernel)) (m_tb_of 1106 (by decide +kernel) rfl) (by decide +kernel) rfl ⟨Nat.le_of_ble_eq_true rfl, Nat.le_of_ble_eq_true rfl⟩ dX9_word_40 rfl)) (m_lf_all (o_iret C hr dX9_word_43)))))))
set_option maxRecDepth 20000 in
def kX9_most : m_C := m_bt 56 (m_bt 50 (m_bt 1 (m_lf 0 (s_ild 1 0)) (m_bt 48 (m_lf 1 (s_sw [(0, 48), (1, 51), (2, 54), (3, 62), (4, 57), (5, 48), (6, 62), (7, 59)] 62)) (m_lf 48 (s_push 50 (.inl (60)))))) (m_bt 53 (m_bt 51 (m_lf 50 (s_ret)) (m_lf 51 (s_push 53 (.inl (20))))) (m_bt 54 (m_lf 53 (s_ret)) (m_lf 54 (s_push 56 (.inl (100))))))) (m_bt 59 (m_bt 57 (m_lf 56 (s_ret)) (m_bt 58 (m_lf 57 (s_push 58 (.inl (4)))) (m_lf 58 (s_ret)))) (m_bt 62 (m_bt 61 (m_lf 59 (s_push 61 (.inl (9)))) (m_lf 61 (s_ret))) (m_bt 64 (m_lf 62 (s_push 64 (.inl (99)))) (m_lf 64 (s_ret)))))
theorem kX9_most_0 : kX9_most 0 = some (s_ild 1 0) := rfl
theorem kX9_most_1 : kX9_most 1 = some (s_sw [(0, 48), (1, 51), (2, 54), (3, 62), (4, 57), (5, 48), (6, 62), (7, 59)] 62) := rfl
theorem kX9_most_48 : kX9_most 48 = some (s_push 50 (.inl (60))) := rfl
theorem kX9_most_50 : kX9_most 50 = some (s_ret) := rfl
theorem kX9_most_51 : kX9_most 51 = some (s_push 53 (.inl (20))) := rfl
theorem kX9_most_53 : kX9_most 53 = some (s_ret) := rfl
theorem kX9_most_54 : kX9_most 54 = some (s_push 56 (.inl (100))) := rfl
theorem kX9_most_56 : kX9_most 56 = some (s_ret) := rfl
theorem kX9_most_57 : kX9_most 57 = some (s_push 58 (.inl (4))) := rfl
theorem kX9_most_58 : kX9_most 58 = some (s_ret) := rfl
theorem kX9_most_59 : kX9_most 59 = some (s_push 61 (.inl (9))) := rfl
theorem kX9_most_61 : kX9_most 61 = some (s_ret) := rfl
theorem kX9_most_62 : kX9_most 62 = some (s_push 64 (.inl (99))) := rfl
theorem kX9_most_64 : kX9_most 64 = some (s_ret) := rfl
def wX9_most : m_GK := m_wp 1 kX9_most
set_option maxRecDepth 100000 in
set_option maxHeartbeats 4000000 in
theorem sX9_most (l : Launch) (X : m_X) (hX : m_inj X.1) : m_Sound l X 1 yX9_most cX9_most 1 (some .int) wX9_most := m_sound_of hX (by decide) (fun p e s m args below meth c q C hr => m_bt_all (m_bt_all (m_bt_all (m_lf_all (o_iload_n C (i := 0) rfl dX9_most_0 rfl)) (m_bt_all (m_lf_all (o_tsw C dX9_most_1 rfl (by decide) (by decide +kernel))) (m_lf_all (o_bipush C (x := (60)) (m_rngd rfl) rfl dX9_most_48 rfl)))) (m_bt_all (m_bt_all (m_lf_all (o_iret C hr dX9_most_50)) (m_lf_all (o_bipush C (x := (20)) (m_rngd rfl) rfl dX9_most_51 rfl))) (m_bt_all (m_lf_all (o_iret C hr dX9_most_53)) (m_lf_all (o_bipush C (x := (100)) (m_rngd rfl) rfl dX9_most_54 rfl))))) (m_bt_all (m_bt_all (m_lf_all (o_iret C hr dX9_most_56)) (m_bt_all (m_lf_all (o_iconst C (x := (4)) (m_rngd rfl) dX9_most_57 rfl)) (m_lf_all (o_iret C hr dX9_most_58)))) (m_bt_all (m_bt_all (m_lf_all (o_bipush C (x := (9)) (m_rngd rfl) rfl dX9_most_59 rfl)) (m_lf_all (o_iret C hr dX9_most_61))) (m_bt_all (m_lf_all (o_bipush C (x := (99)) (m_rngd rfl) rfl dX9_most_62 rfl)) (m_lf_all (o_iret C hr dX9_most_64))))))
set_option maxRecDepth 20000 in
def kX9_set : m_C := m_bt 28 (m_bt 16 (m_bt 9 (m_bt 3 (m_bt 1 (m_lf 0 (s_ild 1 1)) (m_lf 1 (s_push 3 (.inl (8))))) (m_bt 6 (m_lf 3 (s_callS 6 2 wX9_isIn)) (m_lf 6 (s_if 9 16 (fun x => ¬ x = 0))))) (m_bt 12 (m_bt 10 (m_lf 9 (s_ald 10 0)) (m_lf 10 (s_push 12 (.inl (-2))))) (m_bt 15 (m_lf 12 (s_callV 15 2 9 wX9_refuse)) (m_lf 15 (s_ret))))) (m_bt 22 (m_bt 18 (m_bt 17 (m_lf 16 (s_ild 17 2)) (m_lf 17 (s_ild 18 1))) (m_bt 19 (m_lf 18 (s_push 19 (.inl (5)))) (m_lf 19 (s_icmp 22 26 (fun x y => ¬ x = y))))) (m_bt 26 (m_bt 23 (m_lf 22 (s_push 23 (.inl (1)))) (m_lf 23 (s_goto 27))) (m_bt 27 (m_lf 26 (s_push 27 (.inl (0)))) (m_lf 27 (s_ild 28 1)))))) (m_bt 44 (m_bt 36 (m_bt 34 (m_bt 31 (m_lf 28 (s_callS 31 1 wX9_most)) (m_lf 31 (s_callS 34 3 wX9_within))) (m_bt 35 (m_lf 34 (s_ist 35 3)) (m_lf 35 (s_ild 36 3)))) (m_bt 40 (m_bt 39 (m_lf 36 (s_if 39 47 (fun x => x = 0))) (m_lf 39 (s_ald 40 0))) (m_bt 41 (m_lf 40 (s_ild 41 3)) (m_lf 41 (s_callV 44 2 9 wX9_refuse))))) (m_bt 50 (m_bt 48 (m_bt 47 (m_lf 44 (s_goto 55)) (m_lf 47 (s_ald 48 0))) (m_bt 49 (m_lf 48 (s_push 49 (.inl (2)))) (m_lf 49 (s_ild 50 1)))) (m_bt 52 (m_bt 51 (m_lf 50 (s_bin 51 (fun x y => m_wrap (x + y)))) (m_lf 51 (s_ild 52 2))) (m_bt 55 (m_lf 52 (s_callV 55 3 9 wX9_becomes)) (m_lf 55 (s_ret))))))
theorem kX9_set_0 : kX9_set 0 = some (s_ild 1 1) := rfl
theorem kX9_set_1 : kX9_set 1 = some (s_push 3 (.inl (8))) := rfl
theorem kX9_set_3 : kX9_set 3 = some (s_callS 6 2 wX9_isIn) := rfl
theorem kX9_set_6 : kX9_set 6 = some (s_if 9 16 (fun x => ¬ x = 0)) := rfl
theorem kX9_set_9 : kX9_set 9 = some (s_ald 10 0) := rfl
theorem kX9_set_10 : kX9_set 10 = some (s_push 12 (.inl (-2))) := rfl
theorem kX9_set_12 : kX9_set 12 = some (s_callV 15 2 9 wX9_refuse) := rfl
theorem kX9_set_15 : kX9_set 15 = some (s_ret) := rfl
theorem kX9_set_16 : kX9_set 16 = some (s_ild 17 2) := rfl
theorem kX9_set_17 : kX9_set 17 = some (s_ild 18 1) := rfl
theorem kX9_set_18 : kX9_set 18 = some (s_push 19 (.inl (5))) := rfl
theorem kX9_set_19 : kX9_set 19 = some (s_icmp 22 26 (fun x y => ¬ x = y)) := rfl
theorem kX9_set_22 : kX9_set 22 = some (s_push 23 (.inl (1))) := rfl
theorem kX9_set_23 : kX9_set 23 = some (s_goto 27) := rfl
theorem kX9_set_26 : kX9_set 26 = some (s_push 27 (.inl (0))) := rfl
theorem kX9_set_27 : kX9_set 27 = some (s_ild 28 1) := rfl
theorem kX9_set_28 : kX9_set 28 = some (s_callS 31 1 wX9_most) := rfl
theorem kX9_set_31 : kX9_set 31 = some (s_callS 34 3 wX9_within) := rfl
theorem kX9_set_34 : kX9_set 34 = some (s_ist 35 3) := rfl
theorem kX9_set_35 : kX9_set 35 = some (s_ild 36 3) := rfl
theorem kX9_set_36 : kX9_set 36 = some (s_if 39 47 (fun x => x = 0)) := rfl
theorem kX9_set_39 : kX9_set 39 = some (s_ald 40 0) := rfl
theorem kX9_set_40 : kX9_set 40 = some (s_ild 41 3) := rfl
theorem kX9_set_41 : kX9_set 41 = some (s_callV 44 2 9 wX9_refuse) := rfl
theorem kX9_set_44 : kX9_set 44 = some (s_goto 55) := rfl
theorem kX9_set_47 : kX9_set 47 = some (s_ald 48 0) := rfl
theorem kX9_set_48 : kX9_set 48 = some (s_push 49 (.inl (2))) := rfl
theorem kX9_set_49 : kX9_set 49 = some (s_ild 50 1) := rfl
theorem kX9_set_50 : kX9_set 50 = some (s_bin 51 (fun x y => m_wrap (x + y))) := rfl
theorem kX9_set_51 : kX9_set 51 = some (s_ild 52 2) := rfl
theorem kX9_set_52 : kX9_set 52 = some (s_callV 55 3 9 wX9_becomes) := rfl
theorem kX9_set_55 : kX9_set 55 = some (s_ret) := rfl
def wX9_set : m_GK := m_wp 4 kX9_set
set_option maxRecDepth 100000 in
set_option maxHeartbeats 4000000 in
theorem sX9_set (l : Launch) (X : m_X) (hX : m_inj X.1) : m_Sound l X 2 yX9_set cX9_set 4 (some .int) wX9_set := m_sound_of hX (by decide) (fun p e s m args below meth c q C hr => m_bt_all (m_bt_all (m_bt_all (m_bt_all (m_bt_all (m_lf_all (o_iload_n C (i := 1) rfl dX9_set_0 rfl)) (m_lf_all (o_bipush C (x := (8)) (m_rngd rfl) rfl dX9_set_1 rfl))) (m_bt_all (m_lf_all (o_callS C (sX9_isIn l X hX) (m_in_of [1081, 1082, 81] (by decide +kernel) (by decide +kernel)) (m_tb_of 1083 (by decide +kernel) rfl) (by decide +kernel) ⟨Nat.le_of_ble_eq_true rfl, Nat.le_of_ble_eq_true rfl⟩ dX9_set_3 rfl)) (m_lf_all (o_if_ne C dX9_set_6 rfl rfl)))) (m_bt_all (m_bt_all (m_lf_all (o_aload_n C (i := 0) rfl dX9_set_9 rfl)) (m_lf_all (o_bipush C (x := (-2)) (m_rngd rfl) rfl dX9_set_10 rfl))) (m_bt_all (m_lf_all (o_callV C (T := TX9) (N := 35) (sX9_refuse l X hX) rfl (m_in_of [1036, 1038, 30, 81] (by decide +kernel) (by decide +kernel)) (m_tb_of 1039 (by decide +kernel) rfl) (by decide +kernel) rfl ⟨Nat.le_of_ble_eq_true rfl, Nat.le_of_ble_eq_true rfl⟩ dX9_set_12 rfl)) (m_lf_all (o_iret C hr dX9_set_15))))) (m_bt_all (m_bt_all (m_bt_all (m_lf_all (o_iload_n C (i := 2) rfl dX9_set_16 rfl)) (m_lf_all (o_iload_n C (i := 1) rfl dX9_set_17 rfl))) (m_bt_all (m_lf_all (o_iconst C (x := (5)) (m_rngd rfl) dX9_set_18 rfl)) (m_lf_all (o_icmp_ne C dX9_set_19 rfl rfl)))) (m_bt_all (m_bt_all (m_lf_all (o_iconst C (x := (1)) (m_rngd rfl) dX9_set_22 rfl)) (m_lf_all (o_goto C dX9_set_23 rfl))) (m_bt_all (m_lf_all (o_iconst C (x := (0)) (m_rngd rfl) dX9_set_26 rfl)) (m_lf_all (o_iload_n C (i := 1) rfl dX9_set_27 rfl)))))) (m_bt_all (m_bt_all (m_bt_all (m_bt_all (m_lf_all (o_callS C (sX9_most l X hX) (m_in_of [1111, 1112, 81] (by decide +kernel) (by decide +kernel)) (m_tb_of 1113 (by decide +kernel) rfl) (by decide +kernel) ⟨Nat.le_of_ble_eq_true rfl, Nat.le_of_ble_eq_true rfl⟩ dX9_set_28 rfl)) (m_lf_all (o_callS C (sX9_within l X hX) (m_in_of [1100, 1101, 81] (by decide +kernel) (by decide +kernel)) (m_tb_of 1102 (by decide +kernel) rfl) (by decide +kernel) ⟨Nat.le_of_ble_eq_true rfl, Nat.le_of_ble_eq_true rfl⟩ dX9_set_31 rfl))) (m_bt_all (m_lf_all (o_istore_n C (i := 3) rfl dX9_set_34 rfl)) (m_lf_all (o_iload_n C (i := 3) rfl dX9_set_35 rfl)))) (m_bt_all (m_bt_all (m_lf_all (o_if_eq C dX9_set_36 rfl rfl)) (m_lf_all (o_aload_n C (i := 0) rfl dX9_set_39 rfl))) (m_bt_all (m_lf_all (o_iload_n C (i := 3) rfl dX9_set_40 rfl)) (m_lf_all (o_callV C (T := TX9) (N := 35) (sX9_refuse l X hX) rfl (m_in_of [1036, 1038, 30, 81] (by decide +kernel) (by decide +kernel)) (m_tb_of 1039 (by decide +kernel) rfl) (by decide +kernel) rfl ⟨Nat.le_of_ble_eq_true rfl, Nat.le_of_ble_eq_true rfl⟩ dX9_set_41 rfl))))) (m_bt_all (m_bt_all (m_bt_all (m_lf_all (o_goto C dX9_set_44 rfl)) (m_lf_all (o_aload_n C (i := 0) rfl dX9_set_47 rfl))) (m_bt_all (m_lf_all (o_iconst C (x := (2)) (m_rngd rfl) dX9_set_48 rfl)) (m_lf_all (o_iload_n C (i := 1) rfl dX9_set_49 rfl)))) (m_bt_all (m_bt_all (m_lf_all (o_iadd C dX9_set_50 rfl)) (m_lf_all (o_iload_n C (i := 2) rfl dX9_set_51 rfl))) (m_bt_all (m_lf_all (o_callV C (T := TX9) (N := 35) (sX9_becomes l X hX) rfl (m_in_of [1103, 1105, 41, 81] (by decide +kernel) (by decide +kernel)) (m_tb_of 1106 (by decide +kernel) rfl) (by decide +kernel) rfl ⟨Nat.le_of_ble_eq_true rfl, Nat.le_of_ble_eq_true rfl⟩ dX9_set_52 rfl)) (m_lf_all (o_iret C hr dX9_set_55)))))))
set_option maxRecDepth 20000 in
def kX9_come : m_C := m_bt 34 (m_bt 16 (m_bt 8 (m_bt 2 (m_bt 1 (m_lf 0 (s_ild 1 1)) (m_lf 1 (s_push 2 (.inl (4))))) (m_bt 5 (m_lf 2 (s_callS 5 2 wX9_isIn)) (m_lf 5 (s_if 8 26 (fun x => x = 0))))) (m_bt 10 (m_bt 9 (m_lf 8 (s_ald 9 0)) (m_lf 9 (s_ild 10 2))) (m_bt 13 (m_lf 10 (s_callV 13 2 9 wX9_isSort)) (m_lf 13 (s_if 16 26 (fun x => x = 0)))))) (m_bt 23 (m_bt 18 (m_bt 17 (m_lf 16 (s_ild 17 3)) (m_lf 17 (s_push 18 (.inl (0))))) (m_bt 20 (m_lf 18 (s_push 20 (.inl (25)))) (m_lf 20 (s_callS 23 3 wX9_within)))) (m_bt 27 (m_bt 26 (m_lf 23 (s_goto 27)) (m_lf 26 (s_push 27 (.inl (-1))))) (m_bt 29 (m_lf 27 (s_ist 29 4)) (m_bt 31 (m_lf 29 (s_ild 31 4)) (m_lf 31 (s_if 34 43 (fun x => x = 0)))))))) (m_bt 49 (m_bt 43 (m_bt 37 (m_bt 35 (m_lf 34 (s_ald 35 0)) (m_lf 35 (s_ild 37 4))) (m_bt 40 (m_lf 37 (s_callV 40 2 9 wX9_refuse)) (m_lf 40 (s_goto 59)))) (m_bt 46 (m_bt 44 (m_lf 43 (s_ald 44 0)) (m_lf 44 (s_push 46 (.inl (10))))) (m_bt 48 (m_lf 46 (s_push 48 (.inl (6)))) (m_lf 48 (s_ild 49 2))))) (m_bt 53 (m_bt 51 (m_bt 50 (m_lf 49 (s_bin 50 (fun x y => m_wrap (x * y)))) (m_lf 50 (s_bin 51 (fun x y => m_wrap (x + y))))) (m_bt 52 (m_lf 51 (s_push 52 (.inl (2)))) (m_lf 52 (s_bin 53 (fun x y => m_wrap (x + y)))))) (m_bt 55 (m_bt 54 (m_lf 53 (s_ild 54 1)) (m_lf 54 (s_bin 55 (fun x y => m_wrap (x + y))))) (m_bt 56 (m_lf 55 (s_ild 56 3)) (m_bt 59 (m_lf 56 (s_callV 59 3 9 wX9_becomes)) (m_lf 59 (s_ret)))))))
theorem kX9_come_0 : kX9_come 0 = some (s_ild 1 1) := rfl
theorem kX9_come_1 : kX9_come 1 = some (s_push 2 (.inl (4))) := rfl
theorem kX9_come_2 : kX9_come 2 = some (s_callS 5 2 wX9_isIn) := rfl
theorem kX9_come_5 : kX9_come 5 = some (s_if 8 26 (fun x => x = 0)) := rfl
theorem kX9_come_8 : kX9_come 8 = some (s_ald 9 0) := rfl
theorem kX9_come_9 : kX9_come 9 = some (s_ild 10 2) := rfl
theorem kX9_come_10 : kX9_come 10 = some (s_callV 13 2 9 wX9_isSort) := rfl
theorem kX9_come_13 : kX9_come 13 = some (s_if 16 26 (fun x => x = 0)) := rfl
theorem kX9_come_16 : kX9_come 16 = some (s_ild 17 3) := rfl
theorem kX9_come_17 : kX9_come 17 = some (s_push 18 (.inl (0))) := rfl
theorem kX9_come_18 : kX9_come 18 = some (s_push 20 (.inl (25))) := rfl
theorem kX9_come_20 : kX9_come 20 = some (s_callS 23 3 wX9_within) := rfl
theorem kX9_come_23 : kX9_come 23 = some (s_goto 27) := rfl
theorem kX9_come_26 : kX9_come 26 = some (s_push 27 (.inl (-1))) := rfl
theorem kX9_come_27 : kX9_come 27 = some (s_ist 29 4) := rfl
theorem kX9_come_29 : kX9_come 29 = some (s_ild 31 4) := rfl
theorem kX9_come_31 : kX9_come 31 = some (s_if 34 43 (fun x => x = 0)) := rfl
theorem kX9_come_34 : kX9_come 34 = some (s_ald 35 0) := rfl
theorem kX9_come_35 : kX9_come 35 = some (s_ild 37 4) := rfl
theorem kX9_come_37 : kX9_come 37 = some (s_callV 40 2 9 wX9_refuse) := rfl
theorem kX9_come_40 : kX9_come 40 = some (s_goto 59) := rfl
theorem kX9_come_43 : kX9_come 43 = some (s_ald 44 0) := rfl
theorem kX9_come_44 : kX9_come 44 = some (s_push 46 (.inl (10))) := rfl
theorem kX9_come_46 : kX9_come 46 = some (s_push 48 (.inl (6))) := rfl
theorem kX9_come_48 : kX9_come 48 = some (s_ild 49 2) := rfl
theorem kX9_come_49 : kX9_come 49 = some (s_bin 50 (fun x y => m_wrap (x * y))) := rfl
theorem kX9_come_50 : kX9_come 50 = some (s_bin 51 (fun x y => m_wrap (x + y))) := rfl
theorem kX9_come_51 : kX9_come 51 = some (s_push 52 (.inl (2))) := rfl
theorem kX9_come_52 : kX9_come 52 = some (s_bin 53 (fun x y => m_wrap (x + y))) := rfl
theorem kX9_come_53 : kX9_come 53 = some (s_ild 54 1) := rfl
theorem kX9_come_54 : kX9_come 54 = some (s_bin 55 (fun x y => m_wrap (x + y))) := rfl
theorem kX9_come_55 : kX9_come 55 = some (s_ild 56 3) := rfl
theorem kX9_come_56 : kX9_come 56 = some (s_callV 59 3 9 wX9_becomes) := rfl
theorem kX9_come_59 : kX9_come 59 = some (s_ret) := rfl
def wX9_come : m_GK := m_wp 5 kX9_come
set_option maxRecDepth 100000 in
set_option maxHeartbeats 4000000 in
theorem sX9_come (l : Launch) (X : m_X) (hX : m_inj X.1) : m_Sound l X 3 yX9_come cX9_come 5 (some .int) wX9_come := m_sound_of hX (by decide) (fun p e s m args below meth c q C hr => m_bt_all (m_bt_all (m_bt_all (m_bt_all (m_bt_all (m_lf_all (o_iload_n C (i := 1) rfl dX9_come_0 rfl)) (m_lf_all (o_iconst C (x := (4)) (m_rngd rfl) dX9_come_1 rfl))) (m_bt_all (m_lf_all (o_callS C (sX9_isIn l X hX) (m_in_of [1081, 1082, 81] (by decide +kernel) (by decide +kernel)) (m_tb_of 1083 (by decide +kernel) rfl) (by decide +kernel) ⟨Nat.le_of_ble_eq_true rfl, Nat.le_of_ble_eq_true rfl⟩ dX9_come_2 rfl)) (m_lf_all (o_if_eq C dX9_come_5 rfl rfl)))) (m_bt_all (m_bt_all (m_lf_all (o_aload_n C (i := 0) rfl dX9_come_8 rfl)) (m_lf_all (o_iload_n C (i := 2) rfl dX9_come_9 rfl))) (m_bt_all (m_lf_all (o_callV C (T := TX9) (N := 35) (sX9_isSort l X hX) rfl (m_in_of [1077, 1079, 38, 81] (by decide +kernel) (by decide +kernel)) (m_tb_of 1080 (by decide +kernel) rfl) (by decide +kernel) rfl ⟨Nat.le_of_ble_eq_true rfl, Nat.le_of_ble_eq_true rfl⟩ dX9_come_10 rfl)) (m_lf_all (o_if_eq C dX9_come_13 rfl rfl))))) (m_bt_all (m_bt_all (m_bt_all (m_lf_all (o_iload_n C (i := 3) rfl dX9_come_16 rfl)) (m_lf_all (o_iconst C (x := (0)) (m_rngd rfl) dX9_come_17 rfl))) (m_bt_all (m_lf_all (o_bipush C (x := (25)) (m_rngd rfl) rfl dX9_come_18 rfl)) (m_lf_all (o_callS C (sX9_within l X hX) (m_in_of [1100, 1101, 81] (by decide +kernel) (by decide +kernel)) (m_tb_of 1102 (by decide +kernel) rfl) (by decide +kernel) ⟨Nat.le_of_ble_eq_true rfl, Nat.le_of_ble_eq_true rfl⟩ dX9_come_20 rfl)))) (m_bt_all (m_bt_all (m_lf_all (o_goto C dX9_come_23 rfl)) (m_lf_all (o_iconst C (x := (-1)) (m_rngd rfl) dX9_come_26 rfl))) (m_bt_all (m_lf_all (o_istore C dX9_come_27 rfl)) (m_bt_all (m_lf_all (o_iload C dX9_come_29 rfl)) (m_lf_all (o_if_eq C dX9_come_31 rfl rfl))))))) (m_bt_all (m_bt_all (m_bt_all (m_bt_all (m_lf_all (o_aload_n C (i := 0) rfl dX9_come_34 rfl)) (m_lf_all (o_iload C dX9_come_35 rfl))) (m_bt_all (m_lf_all (o_callV C (T := TX9) (N := 35) (sX9_refuse l X hX) rfl (m_in_of [1036, 1038, 30, 81] (by decide +kernel) (by decide +kernel)) (m_tb_of 1039 (by decide +kernel) rfl) (by decide +kernel) rfl ⟨Nat.le_of_ble_eq_true rfl, Nat.le_of_ble_eq_true rfl⟩ dX9_come_37 rfl)) (m_lf_all (o_goto C dX9_come_40 rfl)))) (m_bt_all (m_bt_all (m_lf_all (o_aload_n C (i := 0) rfl dX9_come_43 rfl)) (m_lf_all (o_bipush C (x := (10)) (m_rngd rfl) rfl dX9_come_44 rfl))) (m_bt_all (m_lf_all (o_bipush C (x := (6)) (m_rngd rfl) rfl dX9_come_46 rfl)) (m_lf_all (o_iload_n C (i := 2) rfl dX9_come_48 rfl))))) (m_bt_all (m_bt_all (m_bt_all (m_lf_all (o_imul C dX9_come_49 rfl)) (m_lf_all (o_iadd C dX9_come_50 rfl))) (m_bt_all (m_lf_all (o_iconst C (x := (2)) (m_rngd rfl) dX9_come_51 rfl)) (m_lf_all (o_iadd C dX9_come_52 rfl)))) (m_bt_all (m_bt_all (m_lf_all (o_iload_n C (i := 1) rfl dX9_come_53 rfl)) (m_lf_all (o_iadd C dX9_come_54 rfl))) (m_bt_all (m_lf_all (o_iload_n C (i := 3) rfl dX9_come_55 rfl)) (m_bt_all (m_lf_all (o_callV C (T := TX9) (N := 35) (sX9_becomes l X hX) rfl (m_in_of [1103, 1105, 41, 81] (by decide +kernel) (by decide +kernel)) (m_tb_of 1106 (by decide +kernel) rfl) (by decide +kernel) rfl ⟨Nat.le_of_ble_eq_true rfl, Nat.le_of_ble_eq_true rfl⟩ dX9_come_56 rfl)) (m_lf_all (o_iret C hr dX9_come_59))))))))
set_option maxRecDepth 20000 in
def kX9_setOf : m_C := m_bt 5 (m_bt 1 (m_lf 0 (s_ald 1 0)) (m_bt 4 (m_lf 1 (s_get 4 9 1)) (m_lf 4 (s_push 5 (.inl (2)))))) (m_bt 7 (m_bt 6 (m_lf 5 (s_ild 6 1)) (m_lf 6 (s_bin 7 (fun x y => m_wrap (x + y))))) (m_bt 8 (m_lf 7 (s_iald 8)) (m_lf 8 (s_ret))))
theorem kX9_setOf_0 : kX9_setOf 0 = some (s_ald 1 0) := rfl
theorem kX9_setOf_1 : kX9_setOf 1 = some (s_get 4 9 1) := rfl
theorem kX9_setOf_4 : kX9_setOf 4 = some (s_push 5 (.inl (2))) := rfl
theorem kX9_setOf_5 : kX9_setOf 5 = some (s_ild 6 1) := rfl
theorem kX9_setOf_6 : kX9_setOf 6 = some (s_bin 7 (fun x y => m_wrap (x + y))) := rfl
theorem kX9_setOf_7 : kX9_setOf 7 = some (s_iald 8) := rfl
theorem kX9_setOf_8 : kX9_setOf 8 = some (s_ret) := rfl
def wX9_setOf : m_GK := m_wp 2 kX9_setOf
set_option maxRecDepth 100000 in
set_option maxHeartbeats 4000000 in
theorem sX9_setOf (l : Launch) (X : m_X) (hX : m_inj X.1) : m_Sound l X 1 yX9_setOf cX9_setOf 2 (some .int) wX9_setOf := m_sound_of hX (by decide) (fun p e s m args below meth c q C hr => m_bt_all (m_bt_all (m_lf_all (o_aload_n C (i := 0) rfl dX9_setOf_0 rfl)) (m_bt_all (m_lf_all (o_get C (ci := 9) (k := 1) (N := 35) (rf := RX9) (T := TX9) rfl ginX9 (Nat.le_of_ble_eq_true rfl) (m_tb_of 927 (by decide +kernel) rfl) dX9_setOf_1 rfl)) (m_lf_all (o_iconst C (x := (2)) (m_rngd rfl) dX9_setOf_4 rfl)))) (m_bt_all (m_bt_all (m_lf_all (o_iload_n C (i := 1) rfl dX9_setOf_5 rfl)) (m_lf_all (o_iadd C dX9_setOf_6 rfl))) (m_bt_all (m_lf_all (o_iald C dX9_setOf_7 rfl)) (m_lf_all (o_iret C hr dX9_setOf_8)))))
set_option maxRecDepth 20000 in
def kX9_isShut : m_C := m_bt 26 (m_bt 11 (m_bt 5 (m_bt 1 (m_lf 0 (s_ild 1 2)) (m_bt 4 (m_lf 1 (s_push 4 (.inl (900)))) (m_lf 4 (s_div 5)))) (m_bt 7 (m_bt 6 (m_lf 5 (s_ist 6 3)) (m_lf 6 (s_ild 7 3))) (m_bt 10 (m_lf 7 (s_if 10 50 (fun x => x ≤ 0))) (m_lf 10 (s_ild 11 3))))) (m_bt 19 (m_bt 15 (m_bt 12 (m_lf 11 (s_push 12 (.inl (4)))) (m_lf 12 (s_icmp 15 50 (fun x y => y ≤ x)))) (m_bt 16 (m_lf 15 (s_ild 16 2)) (m_lf 16 (s_push 19 (.inl (900)))))) (m_bt 21 (m_bt 20 (m_lf 19 (s_rem 20)) (m_lf 20 (s_ald 21 0))) (m_bt 23 (m_lf 21 (s_push 23 (.inl (6)))) (m_lf 23 (s_callV 26 2 9 wX9_setOf)))))) (m_bt 38 (m_bt 32 (m_bt 30 (m_bt 29 (m_lf 26 (s_icmp 29 50 (fun x y => y ≤ x))) (m_lf 29 (s_ald 30 0))) (m_bt 31 (m_lf 30 (s_ild 31 1)) (m_lf 31 (s_ild 32 3)))) (m_bt 36 (m_bt 35 (m_lf 32 (s_callV 35 3 9 wX9_wordOf)) (m_lf 35 (s_ald 36 0))) (m_bt 37 (m_lf 36 (s_ild 37 1)) (m_lf 37 (s_ild 38 3))))) (m_bt 46 (m_bt 40 (m_bt 39 (m_lf 38 (s_push 39 (.inl (1)))) (m_lf 39 (s_bin 40 (fun x y => m_wrap (x - y))))) (m_bt 43 (m_lf 40 (s_callV 43 3 9 wX9_wordOf)) (m_lf 43 (s_icmp 46 50 (fun x y => x = y))))) (m_bt 50 (m_bt 47 (m_lf 46 (s_push 47 (.inl (1)))) (m_lf 47 (s_goto 51))) (m_bt 51 (m_lf 50 (s_push 51 (.inl (0)))) (m_lf 51 (s_retz))))))
theorem kX9_isShut_0 : kX9_isShut 0 = some (s_ild 1 2) := rfl
theorem kX9_isShut_1 : kX9_isShut 1 = some (s_push 4 (.inl (900))) := rfl
theorem kX9_isShut_4 : kX9_isShut 4 = some (s_div 5) := rfl
theorem kX9_isShut_5 : kX9_isShut 5 = some (s_ist 6 3) := rfl
theorem kX9_isShut_6 : kX9_isShut 6 = some (s_ild 7 3) := rfl
theorem kX9_isShut_7 : kX9_isShut 7 = some (s_if 10 50 (fun x => x ≤ 0)) := rfl
theorem kX9_isShut_10 : kX9_isShut 10 = some (s_ild 11 3) := rfl
theorem kX9_isShut_11 : kX9_isShut 11 = some (s_push 12 (.inl (4))) := rfl
theorem kX9_isShut_12 : kX9_isShut 12 = some (s_icmp 15 50 (fun x y => y ≤ x)) := rfl
theorem kX9_isShut_15 : kX9_isShut 15 = some (s_ild 16 2) := rfl
theorem kX9_isShut_16 : kX9_isShut 16 = some (s_push 19 (.inl (900))) := rfl
theorem kX9_isShut_19 : kX9_isShut 19 = some (s_rem 20) := rfl
theorem kX9_isShut_20 : kX9_isShut 20 = some (s_ald 21 0) := rfl
theorem kX9_isShut_21 : kX9_isShut 21 = some (s_push 23 (.inl (6))) := rfl
theorem kX9_isShut_23 : kX9_isShut 23 = some (s_callV 26 2 9 wX9_setOf) := rfl
theorem kX9_isShut_26 : kX9_isShut 26 = some (s_icmp 29 50 (fun x y => y ≤ x)) := rfl
theorem kX9_isShut_29 : kX9_isShut 29 = some (s_ald 30 0) := rfl
theorem kX9_isShut_30 : kX9_isShut 30 = some (s_ild 31 1) := rfl
theorem kX9_isShut_31 : kX9_isShut 31 = some (s_ild 32 3) := rfl
theorem kX9_isShut_32 : kX9_isShut 32 = some (s_callV 35 3 9 wX9_wordOf) := rfl
theorem kX9_isShut_35 : kX9_isShut 35 = some (s_ald 36 0) := rfl
theorem kX9_isShut_36 : kX9_isShut 36 = some (s_ild 37 1) := rfl
theorem kX9_isShut_37 : kX9_isShut 37 = some (s_ild 38 3) := rfl
theorem kX9_isShut_38 : kX9_isShut 38 = some (s_push 39 (.inl (1))) := rfl
theorem kX9_isShut_39 : kX9_isShut 39 = some (s_bin 40 (fun x y => m_wrap (x - y))) := rfl
theorem kX9_isShut_40 : kX9_isShut 40 = some (s_callV 43 3 9 wX9_wordOf) := rfl
theorem kX9_isShut_43 : kX9_isShut 43 = some (s_icmp 46 50 (fun x y => x = y)) := rfl
theorem kX9_isShut_46 : kX9_isShut 46 = some (s_push 47 (.inl (1))) := rfl
theorem kX9_isShut_47 : kX9_isShut 47 = some (s_goto 51) := rfl
theorem kX9_isShut_50 : kX9_isShut 50 = some (s_push 51 (.inl (0))) := rfl
theorem kX9_isShut_51 : kX9_isShut 51 = some (s_retz) := rfl
def wX9_isShut : m_GK := m_wp 4 kX9_isShut
set_option maxRecDepth 100000 in
set_option maxHeartbeats 4000000 in
theorem sX9_isShut (l : Launch) (X : m_X) (hX : m_inj X.1) : m_Sound l X 2 yX9_isShut cX9_isShut 4 (some .boolean) wX9_isShut := m_sound_of hX (by decide) (fun p e s m args below meth c q C hr => m_bt_all (m_bt_all (m_bt_all (m_bt_all (m_lf_all (o_iload_n C (i := 2) rfl dX9_isShut_0 rfl)) (m_bt_all (m_lf_all (o_sipush C (x := (900)) (m_rngd rfl) rfl dX9_isShut_1 rfl)) (m_lf_all (o_idiv C dX9_isShut_4 rfl)))) (m_bt_all (m_bt_all (m_lf_all (o_istore_n C (i := 3) rfl dX9_isShut_5 rfl)) (m_lf_all (o_iload_n C (i := 3) rfl dX9_isShut_6 rfl))) (m_bt_all (m_lf_all (o_if_le C dX9_isShut_7 rfl rfl)) (m_lf_all (o_iload_n C (i := 3) rfl dX9_isShut_10 rfl))))) (m_bt_all (m_bt_all (m_bt_all (m_lf_all (o_iconst C (x := (4)) (m_rngd rfl) dX9_isShut_11 rfl)) (m_lf_all (o_icmp_ge C dX9_isShut_12 rfl rfl))) (m_bt_all (m_lf_all (o_iload_n C (i := 2) rfl dX9_isShut_15 rfl)) (m_lf_all (o_sipush C (x := (900)) (m_rngd rfl) rfl dX9_isShut_16 rfl)))) (m_bt_all (m_bt_all (m_lf_all (o_irem C dX9_isShut_19 rfl)) (m_lf_all (o_aload_n C (i := 0) rfl dX9_isShut_20 rfl))) (m_bt_all (m_lf_all (o_bipush C (x := (6)) (m_rngd rfl) rfl dX9_isShut_21 rfl)) (m_lf_all (o_callV C (T := TX9) (N := 35) (sX9_setOf l X hX) rfl (m_in_of [1158, 1160, 51, 81] (by decide +kernel) (by decide +kernel)) (m_tb_of 1161 (by decide +kernel) rfl) (by decide +kernel) rfl ⟨Nat.le_of_ble_eq_true rfl, Nat.le_of_ble_eq_true rfl⟩ dX9_isShut_23 rfl)))))) (m_bt_all (m_bt_all (m_bt_all (m_bt_all (m_lf_all (o_icmp_ge C dX9_isShut_26 rfl rfl)) (m_lf_all (o_aload_n C (i := 0) rfl dX9_isShut_29 rfl))) (m_bt_all (m_lf_all (o_iload_n C (i := 1) rfl dX9_isShut_30 rfl)) (m_lf_all (o_iload_n C (i := 3) rfl dX9_isShut_31 rfl)))) (m_bt_all (m_bt_all (m_lf_all (o_callV C (T := TX9) (N := 35) (sX9_wordOf l X hX) rfl (m_in_of [1092, 1094, 40, 81] (by decide +kernel) (by decide +kernel)) (m_tb_of 1095 (by decide +kernel) rfl) (by decide +kernel) rfl ⟨Nat.le_of_ble_eq_true rfl, Nat.le_of_ble_eq_true rfl⟩ dX9_isShut_32 rfl)) (m_lf_all (o_aload_n C (i := 0) rfl dX9_isShut_35 rfl))) (m_bt_all (m_lf_all (o_iload_n C (i := 1) rfl dX9_isShut_36 rfl)) (m_lf_all (o_iload_n C (i := 3) rfl dX9_isShut_37 rfl))))) (m_bt_all (m_bt_all (m_bt_all (m_lf_all (o_iconst C (x := (1)) (m_rngd rfl) dX9_isShut_38 rfl)) (m_lf_all (o_isub C dX9_isShut_39 rfl))) (m_bt_all (m_lf_all (o_callV C (T := TX9) (N := 35) (sX9_wordOf l X hX) rfl (m_in_of [1092, 1094, 40, 81] (by decide +kernel) (by decide +kernel)) (m_tb_of 1095 (by decide +kernel) rfl) (by decide +kernel) rfl ⟨Nat.le_of_ble_eq_true rfl, Nat.le_of_ble_eq_true rfl⟩ dX9_isShut_40 rfl)) (m_lf_all (o_icmp_eq C dX9_isShut_43 rfl rfl)))) (m_bt_all (m_bt_all (m_lf_all (o_iconst C (x := (1)) (m_rngd rfl) dX9_isShut_46 rfl)) (m_lf_all (o_goto C dX9_isShut_47 rfl))) (m_bt_all (m_lf_all (o_iconst C (x := (0)) (m_rngd rfl) dX9_isShut_50 rfl)) (m_lf_all (o_zret C hr dX9_isShut_51)))))))
set_option maxRecDepth 20000 in
def kX9_wordAt : m_C := m_bt 11 (m_bt 3 (m_bt 1 (m_lf 0 (s_ald 1 0)) (m_bt 2 (m_lf 1 (s_ild 2 1)) (m_lf 2 (s_ild 3 2)))) (m_bt 7 (m_bt 6 (m_lf 3 (s_push 6 (.inl (900)))) (m_lf 6 (s_div 7))) (m_bt 8 (m_lf 7 (s_push 8 (.inl (4)))) (m_lf 8 (s_icmp 11 19 (fun x y => y ≤ x)))))) (m_bt 16 (m_bt 12 (m_lf 11 (s_ild 12 2)) (m_bt 15 (m_lf 12 (s_push 15 (.inl (900)))) (m_lf 15 (s_div 16)))) (m_bt 20 (m_bt 19 (m_lf 16 (s_goto 20)) (m_lf 19 (s_push 20 (.inl (3))))) (m_bt 23 (m_lf 20 (s_callV 23 3 9 wX9_wordOf)) (m_lf 23 (s_ret)))))
theorem kX9_wordAt_0 : kX9_wordAt 0 = some (s_ald 1 0) := rfl
theorem kX9_wordAt_1 : kX9_wordAt 1 = some (s_ild 2 1) := rfl
theorem kX9_wordAt_2 : kX9_wordAt 2 = some (s_ild 3 2) := rfl
theorem kX9_wordAt_3 : kX9_wordAt 3 = some (s_push 6 (.inl (900))) := rfl
theorem kX9_wordAt_6 : kX9_wordAt 6 = some (s_div 7) := rfl
theorem kX9_wordAt_7 : kX9_wordAt 7 = some (s_push 8 (.inl (4))) := rfl
theorem kX9_wordAt_8 : kX9_wordAt 8 = some (s_icmp 11 19 (fun x y => y ≤ x)) := rfl
theorem kX9_wordAt_11 : kX9_wordAt 11 = some (s_ild 12 2) := rfl
theorem kX9_wordAt_12 : kX9_wordAt 12 = some (s_push 15 (.inl (900))) := rfl
theorem kX9_wordAt_15 : kX9_wordAt 15 = some (s_div 16) := rfl
theorem kX9_wordAt_16 : kX9_wordAt 16 = some (s_goto 20) := rfl
theorem kX9_wordAt_19 : kX9_wordAt 19 = some (s_push 20 (.inl (3))) := rfl
theorem kX9_wordAt_20 : kX9_wordAt 20 = some (s_callV 23 3 9 wX9_wordOf) := rfl
theorem kX9_wordAt_23 : kX9_wordAt 23 = some (s_ret) := rfl
def wX9_wordAt : m_GK := m_wp 3 kX9_wordAt
set_option maxRecDepth 100000 in
set_option maxHeartbeats 4000000 in
theorem sX9_wordAt (l : Launch) (X : m_X) (hX : m_inj X.1) : m_Sound l X 2 yX9_wordAt cX9_wordAt 3 (some .int) wX9_wordAt := m_sound_of hX (by decide) (fun p e s m args below meth c q C hr => m_bt_all (m_bt_all (m_bt_all (m_lf_all (o_aload_n C (i := 0) rfl dX9_wordAt_0 rfl)) (m_bt_all (m_lf_all (o_iload_n C (i := 1) rfl dX9_wordAt_1 rfl)) (m_lf_all (o_iload_n C (i := 2) rfl dX9_wordAt_2 rfl)))) (m_bt_all (m_bt_all (m_lf_all (o_sipush C (x := (900)) (m_rngd rfl) rfl dX9_wordAt_3 rfl)) (m_lf_all (o_idiv C dX9_wordAt_6 rfl))) (m_bt_all (m_lf_all (o_iconst C (x := (4)) (m_rngd rfl) dX9_wordAt_7 rfl)) (m_lf_all (o_icmp_ge C dX9_wordAt_8 rfl rfl))))) (m_bt_all (m_bt_all (m_lf_all (o_iload_n C (i := 2) rfl dX9_wordAt_11 rfl)) (m_bt_all (m_lf_all (o_sipush C (x := (900)) (m_rngd rfl) rfl dX9_wordAt_12 rfl)) (m_lf_all (o_idiv C dX9_wordAt_15 rfl)))) (m_bt_all (m_bt_all (m_lf_all (o_goto C dX9_wordAt_16 rfl)) (m_lf_all (o_iconst C (x := (3)) (m_rngd rfl) dX9_wordAt_19 rfl))) (m_bt_all (m_lf_all (o_callV C (T := TX9) (N := 35) (sX9_wordOf l X hX) rfl (m_in_of [1092, 1094, 40, 81] (by decide +kernel) (by decide +kernel)) (m_tb_of 1095 (by decide +kernel) rfl) (by decide +kernel) rfl ⟨Nat.le_of_ble_eq_true rfl, Nat.le_of_ble_eq_true rfl⟩ dX9_wordAt_20 rfl)) (m_lf_all (o_iret C hr dX9_wordAt_23))))))
set_option maxRecDepth 20000 in
def kX9_isOpen : m_C := m_bt 19 (m_bt 8 (m_bt 3 (m_bt 1 (m_lf 0 (s_ald 1 0)) (m_bt 2 (m_lf 1 (s_ild 2 1)) (m_lf 2 (s_ild 3 3)))) (m_bt 6 (m_lf 3 (s_callV 6 3 9 wX9_wordAt)) (m_bt 7 (m_lf 6 (s_ild 7 2)) (m_lf 7 (s_bin 8 m_ishr))))) (m_bt 11 (m_bt 9 (m_lf 8 (s_push 9 (.inl (1)))) (m_bt 10 (m_lf 9 (s_bin 10 m_iand)) (m_lf 10 (s_push 11 (.inl (1)))))) (m_bt 15 (m_bt 14 (m_lf 11 (s_icmp 14 41 (fun x y => ¬ x = y))) (m_lf 14 (s_ald 15 0))) (m_bt 18 (m_lf 15 (s_get 18 9 14)) (m_lf 18 (s_ild 19 1)))))) (m_bt 30 (m_bt 22 (m_bt 20 (m_lf 19 (s_iald 20)) (m_bt 21 (m_lf 20 (s_ald 21 0)) (m_lf 21 (s_push 22 (.inl (5)))))) (m_bt 28 (m_bt 25 (m_lf 22 (s_callV 25 2 9 wX9_setOf)) (m_lf 25 (s_icmp 28 41 (fun x y => y ≤ x)))) (m_bt 29 (m_lf 28 (s_ald 29 0)) (m_lf 29 (s_ild 30 1))))) (m_bt 37 (m_bt 31 (m_lf 30 (s_ild 31 3)) (m_bt 34 (m_lf 31 (s_callV 34 3 9 wX9_isShut)) (m_lf 34 (s_if 37 41 (fun x => ¬ x = 0))))) (m_bt 41 (m_bt 38 (m_lf 37 (s_push 38 (.inl (1)))) (m_lf 38 (s_goto 42))) (m_bt 42 (m_lf 41 (s_push 42 (.inl (0)))) (m_lf 42 (s_retz))))))
theorem kX9_isOpen_0 : kX9_isOpen 0 = some (s_ald 1 0) := rfl
theorem kX9_isOpen_1 : kX9_isOpen 1 = some (s_ild 2 1) := rfl
theorem kX9_isOpen_2 : kX9_isOpen 2 = some (s_ild 3 3) := rfl
theorem kX9_isOpen_3 : kX9_isOpen 3 = some (s_callV 6 3 9 wX9_wordAt) := rfl
theorem kX9_isOpen_6 : kX9_isOpen 6 = some (s_ild 7 2) := rfl
theorem kX9_isOpen_7 : kX9_isOpen 7 = some (s_bin 8 m_ishr) := rfl
theorem kX9_isOpen_8 : kX9_isOpen 8 = some (s_push 9 (.inl (1))) := rfl
theorem kX9_isOpen_9 : kX9_isOpen 9 = some (s_bin 10 m_iand) := rfl
theorem kX9_isOpen_10 : kX9_isOpen 10 = some (s_push 11 (.inl (1))) := rfl
theorem kX9_isOpen_11 : kX9_isOpen 11 = some (s_icmp 14 41 (fun x y => ¬ x = y)) := rfl
theorem kX9_isOpen_14 : kX9_isOpen 14 = some (s_ald 15 0) := rfl
theorem kX9_isOpen_15 : kX9_isOpen 15 = some (s_get 18 9 14) := rfl
theorem kX9_isOpen_18 : kX9_isOpen 18 = some (s_ild 19 1) := rfl
theorem kX9_isOpen_19 : kX9_isOpen 19 = some (s_iald 20) := rfl
theorem kX9_isOpen_20 : kX9_isOpen 20 = some (s_ald 21 0) := rfl
theorem kX9_isOpen_21 : kX9_isOpen 21 = some (s_push 22 (.inl (5))) := rfl
theorem kX9_isOpen_22 : kX9_isOpen 22 = some (s_callV 25 2 9 wX9_setOf) := rfl
theorem kX9_isOpen_25 : kX9_isOpen 25 = some (s_icmp 28 41 (fun x y => y ≤ x)) := rfl
theorem kX9_isOpen_28 : kX9_isOpen 28 = some (s_ald 29 0) := rfl
theorem kX9_isOpen_29 : kX9_isOpen 29 = some (s_ild 30 1) := rfl
theorem kX9_isOpen_30 : kX9_isOpen 30 = some (s_ild 31 3) := rfl
theorem kX9_isOpen_31 : kX9_isOpen 31 = some (s_callV 34 3 9 wX9_isShut) := rfl
theorem kX9_isOpen_34 : kX9_isOpen 34 = some (s_if 37 41 (fun x => ¬ x = 0)) := rfl
theorem kX9_isOpen_37 : kX9_isOpen 37 = some (s_push 38 (.inl (1))) := rfl
theorem kX9_isOpen_38 : kX9_isOpen 38 = some (s_goto 42) := rfl
theorem kX9_isOpen_41 : kX9_isOpen 41 = some (s_push 42 (.inl (0))) := rfl
theorem kX9_isOpen_42 : kX9_isOpen 42 = some (s_retz) := rfl
def wX9_isOpen : m_GK := m_wp 4 kX9_isOpen
set_option maxRecDepth 100000 in
set_option maxHeartbeats 4000000 in
theorem sX9_isOpen (l : Launch) (X : m_X) (hX : m_inj X.1) : m_Sound l X 3 yX9_isOpen cX9_isOpen 4 (some .boolean) wX9_isOpen := m_sound_of hX (by decide) (fun p e s m args below meth c q C hr => m_bt_all (m_bt_all (m_bt_all (m_bt_all (m_lf_all (o_aload_n C (i := 0) rfl dX9_isOpen_0 rfl)) (m_bt_all (m_lf_all (o_iload_n C (i := 1) rfl dX9_isOpen_1 rfl)) (m_lf_all (o_iload_n C (i := 3) rfl dX9_isOpen_2 rfl)))) (m_bt_all (m_lf_all (o_callV C (T := TX9) (N := 35) (sX9_wordAt l X hX) rfl (m_in_of [1170, 1172, 54, 81] (by decide +kernel) (by decide +kernel)) (m_tb_of 1173 (by decide +kernel) rfl) (by decide +kernel) rfl ⟨Nat.le_of_ble_eq_true rfl, Nat.le_of_ble_eq_true rfl⟩ dX9_isOpen_3 rfl)) (m_bt_all (m_lf_all (o_iload_n C (i := 2) rfl dX9_isOpen_6 rfl)) (m_lf_all (o_ishr C dX9_isOpen_7 rfl))))) (m_bt_all (m_bt_all (m_lf_all (o_iconst C (x := (1)) (m_rngd rfl) dX9_isOpen_8 rfl)) (m_bt_all (m_lf_all (o_iand C dX9_isOpen_9 rfl)) (m_lf_all (o_iconst C (x := (1)) (m_rngd rfl) dX9_isOpen_10 rfl)))) (m_bt_all (m_bt_all (m_lf_all (o_icmp_ne C dX9_isOpen_11 rfl rfl)) (m_lf_all (o_aload_n C (i := 0) rfl dX9_isOpen_14 rfl))) (m_bt_all (m_lf_all (o_get C (ci := 9) (k := 14) (N := 35) (rf := RX9) (T := TX9) rfl ginX9 (Nat.le_of_ble_eq_true rfl) (m_tb_of 940 (by decide +kernel) rfl) dX9_isOpen_15 rfl)) (m_lf_all (o_iload_n C (i := 1) rfl dX9_isOpen_18 rfl)))))) (m_bt_all (m_bt_all (m_bt_all (m_lf_all (o_iald C dX9_isOpen_19 rfl)) (m_bt_all (m_lf_all (o_aload_n C (i := 0) rfl dX9_isOpen_20 rfl)) (m_lf_all (o_iconst C (x := (5)) (m_rngd rfl) dX9_isOpen_21 rfl)))) (m_bt_all (m_bt_all (m_lf_all (o_callV C (T := TX9) (N := 35) (sX9_setOf l X hX) rfl (m_in_of [1158, 1160, 51, 81] (by decide +kernel) (by decide +kernel)) (m_tb_of 1161 (by decide +kernel) rfl) (by decide +kernel) rfl ⟨Nat.le_of_ble_eq_true rfl, Nat.le_of_ble_eq_true rfl⟩ dX9_isOpen_22 rfl)) (m_lf_all (o_icmp_ge C dX9_isOpen_25 rfl rfl))) (m_bt_all (m_lf_all (o_aload_n C (i := 0) rfl dX9_isOpen_28 rfl)) (m_lf_all (o_iload_n C (i := 1) rfl dX9_isOpen_29 rfl))))) (m_bt_all (m_bt_all (m_lf_all (o_iload_n C (i := 3) rfl dX9_isOpen_30 rfl)) (m_bt_all (m_lf_all (o_callV C (T := TX9) (N := 35) (sX9_isShut l X hX) rfl (m_in_of [1174, 1176, 55, 81] (by decide +kernel) (by decide +kernel)) (m_tb_of 1177 (by decide +kernel) rfl) (by decide +kernel) rfl ⟨Nat.le_of_ble_eq_true rfl, Nat.le_of_ble_eq_true rfl⟩ dX9_isOpen_31 rfl)) (m_lf_all (o_if_ne C dX9_isOpen_34 rfl rfl)))) (m_bt_all (m_bt_all (m_lf_all (o_iconst C (x := (1)) (m_rngd rfl) dX9_isOpen_37 rfl)) (m_lf_all (o_goto C dX9_isOpen_38 rfl))) (m_bt_all (m_lf_all (o_iconst C (x := (0)) (m_rngd rfl) dX9_isOpen_41 rfl)) (m_lf_all (o_zret C hr dX9_isOpen_42)))))))
set_option maxRecDepth 20000 in
def kX9_bits : m_C := m_bt 11 (m_bt 4 (m_bt 2 (m_bt 1 (m_lf 0 (s_push 1 (.inl (0)))) (m_lf 1 (s_ist 2 1))) (m_bt 3 (m_lf 2 (s_ild 3 0)) (m_lf 3 (s_ist 4 2)))) (m_bt 8 (m_bt 5 (m_lf 4 (s_ild 5 2)) (m_lf 5 (s_if 8 21 (fun x => x ≤ 0)))) (m_bt 9 (m_lf 8 (s_ild 9 1)) (m_bt 10 (m_lf 9 (s_ild 10 2)) (m_lf 10 (s_push 11 (.inl (1)))))))) (m_bt 16 (m_bt 13 (m_bt 12 (m_lf 11 (s_bin 12 m_iand)) (m_lf 12 (s_bin 13 (fun x y => m_wrap (x + y))))) (m_bt 14 (m_lf 13 (s_ist 14 1)) (m_bt 15 (m_lf 14 (s_ild 15 2)) (m_lf 15 (s_push 16 (.inl (1))))))) (m_bt 18 (m_bt 17 (m_lf 16 (s_bin 17 m_ishr)) (m_lf 17 (s_ist 18 2))) (m_bt 21 (m_lf 18 (s_goto 4)) (m_bt 22 (m_lf 21 (s_ild 22 1)) (m_lf 22 (s_ret))))))
theorem kX9_bits_0 : kX9_bits 0 = some (s_push 1 (.inl (0))) := rfl
theorem kX9_bits_1 : kX9_bits 1 = some (s_ist 2 1) := rfl
theorem kX9_bits_2 : kX9_bits 2 = some (s_ild 3 0) := rfl
theorem kX9_bits_3 : kX9_bits 3 = some (s_ist 4 2) := rfl
theorem kX9_bits_4 : kX9_bits 4 = some (s_ild 5 2) := rfl
theorem kX9_bits_5 : kX9_bits 5 = some (s_if 8 21 (fun x => x ≤ 0)) := rfl
theorem kX9_bits_8 : kX9_bits 8 = some (s_ild 9 1) := rfl
theorem kX9_bits_9 : kX9_bits 9 = some (s_ild 10 2) := rfl
theorem kX9_bits_10 : kX9_bits 10 = some (s_push 11 (.inl (1))) := rfl
theorem kX9_bits_11 : kX9_bits 11 = some (s_bin 12 m_iand) := rfl
theorem kX9_bits_12 : kX9_bits 12 = some (s_bin 13 (fun x y => m_wrap (x + y))) := rfl
theorem kX9_bits_13 : kX9_bits 13 = some (s_ist 14 1) := rfl
theorem kX9_bits_14 : kX9_bits 14 = some (s_ild 15 2) := rfl
theorem kX9_bits_15 : kX9_bits 15 = some (s_push 16 (.inl (1))) := rfl
theorem kX9_bits_16 : kX9_bits 16 = some (s_bin 17 m_ishr) := rfl
theorem kX9_bits_17 : kX9_bits 17 = some (s_ist 18 2) := rfl
theorem kX9_bits_18 : kX9_bits 18 = some (s_goto 4) := rfl
theorem kX9_bits_21 : kX9_bits 21 = some (s_ild 22 1) := rfl
theorem kX9_bits_22 : kX9_bits 22 = some (s_ret) := rfl
def wX9_bits : m_GK := m_wp 3 kX9_bits
set_option maxRecDepth 100000 in
set_option maxHeartbeats 4000000 in
theorem sX9_bits (l : Launch) (X : m_X) (hX : m_inj X.1) : m_Sound l X 1 yX9_bits cX9_bits 3 (some .int) wX9_bits := m_sound_of hX (by decide) (fun p e s m args below meth c q C hr => m_bt_all (m_bt_all (m_bt_all (m_bt_all (m_lf_all (o_iconst C (x := (0)) (m_rngd rfl) dX9_bits_0 rfl)) (m_lf_all (o_istore_n C (i := 1) rfl dX9_bits_1 rfl))) (m_bt_all (m_lf_all (o_iload_n C (i := 0) rfl dX9_bits_2 rfl)) (m_lf_all (o_istore_n C (i := 2) rfl dX9_bits_3 rfl)))) (m_bt_all (m_bt_all (m_lf_all (o_iload_n C (i := 2) rfl dX9_bits_4 rfl)) (m_lf_all (o_if_le C dX9_bits_5 rfl rfl))) (m_bt_all (m_lf_all (o_iload_n C (i := 1) rfl dX9_bits_8 rfl)) (m_bt_all (m_lf_all (o_iload_n C (i := 2) rfl dX9_bits_9 rfl)) (m_lf_all (o_iconst C (x := (1)) (m_rngd rfl) dX9_bits_10 rfl)))))) (m_bt_all (m_bt_all (m_bt_all (m_lf_all (o_iand C dX9_bits_11 rfl)) (m_lf_all (o_iadd C dX9_bits_12 rfl))) (m_bt_all (m_lf_all (o_istore_n C (i := 1) rfl dX9_bits_13 rfl)) (m_bt_all (m_lf_all (o_iload_n C (i := 2) rfl dX9_bits_14 rfl)) (m_lf_all (o_iconst C (x := (1)) (m_rngd rfl) dX9_bits_15 rfl))))) (m_bt_all (m_bt_all (m_lf_all (o_ishr C dX9_bits_16 rfl)) (m_lf_all (o_istore_n C (i := 2) rfl dX9_bits_17 rfl))) (m_bt_all (m_lf_all (o_goto C dX9_bits_18 rfl)) (m_bt_all (m_lf_all (o_iload_n C (i := 1) rfl dX9_bits_21 rfl)) (m_lf_all (o_iret C hr dX9_bits_22)))))))
set_option maxRecDepth 20000 in
def kX9_loadOf : m_C := m_bt 42 (m_bt 21 (m_bt 8 (m_bt 3 (m_bt 1 (m_lf 0 (s_push 1 (.inl (0)))) (m_bt 2 (m_lf 1 (s_ist 2 3)) (m_lf 2 (s_push 3 (.inl (0)))))) (m_bt 5 (m_lf 3 (s_ist 5 4)) (m_bt 7 (m_lf 5 (s_ild 7 4)) (m_lf 7 (s_ald 8 0))))) (m_bt 13 (m_bt 11 (m_lf 8 (s_get 11 9 14)) (m_bt 12 (m_lf 11 (s_ild 12 1)) (m_lf 12 (s_iald 13)))) (m_bt 16 (m_lf 13 (s_icmp 16 79 (fun x y => y ≤ x))) (m_bt 18 (m_lf 16 (s_ild 18 4)) (m_lf 18 (s_if 21 58 (fun x => ¬ x = 0))))))) (m_bt 31 (m_bt 26 (m_bt 22 (m_lf 21 (s_ald 22 0)) (m_bt 25 (m_lf 22 (s_get 25 9 15)) (m_lf 25 (s_ild 26 1)))) (m_bt 27 (m_lf 26 (s_iald 27)) (m_bt 30 (m_lf 27 (s_if 30 58 (fun x => x < 0))) (m_lf 30 (s_ild 31 3))))) (m_bt 36 (m_bt 32 (m_lf 31 (s_ald 32 0)) (m_bt 35 (m_lf 32 (s_get 35 9 15)) (m_lf 35 (s_ild 36 1)))) (m_bt 38 (m_bt 37 (m_lf 36 (s_iald 37)) (m_lf 37 (s_ild 38 2))) (m_bt 41 (m_lf 38 (s_icmp 41 52 (fun x y => x ≤ y))) (m_lf 41 (s_ald 42 0))))))) (m_bt 60 (m_bt 52 (m_bt 47 (m_bt 45 (m_lf 42 (s_get 45 9 15)) (m_bt 46 (m_lf 45 (s_ild 46 1)) (m_lf 46 (s_iald 47)))) (m_bt 48 (m_lf 47 (s_ild 48 2)) (m_bt 49 (m_lf 48 (s_bin 49 (fun x y => m_wrap (x - y)))) (m_lf 49 (s_goto 53))))) (m_bt 55 (m_bt 53 (m_lf 52 (s_push 53 (.inl (0)))) (m_bt 54 (m_lf 53 (s_bin 54 (fun x y => m_wrap (x + y)))) (m_lf 54 (s_ist 55 3)))) (m_bt 58 (m_lf 55 (s_goto 73)) (m_bt 59 (m_lf 58 (s_ild 59 3)) (m_lf 59 (s_ald 60 0)))))) (m_bt 70 (m_bt 66 (m_bt 63 (m_lf 60 (s_get 63 9 12)) (m_bt 65 (m_lf 63 (s_push 65 (.inl (60)))) (m_lf 65 (s_ild 66 1)))) (m_bt 67 (m_lf 66 (s_bin 67 (fun x y => m_wrap (x * y)))) (m_bt 69 (m_lf 67 (s_ild 69 4)) (m_lf 69 (s_bin 70 (fun x y => m_wrap (x + y))))))) (m_bt 73 (m_bt 71 (m_lf 70 (s_iald 71)) (m_bt 72 (m_lf 71 (s_bin 72 (fun x y => m_wrap (x + y)))) (m_lf 72 (s_ist 73 3)))) (m_bt 79 (m_bt 76 (m_lf 73 (s_inc 76 4 (1))) (m_lf 76 (s_goto 5))) (m_bt 80 (m_lf 79 (s_ild 80 3)) (m_lf 80 (s_ret)))))))
theorem kX9_loadOf_0 : kX9_loadOf 0 = some (s_push 1 (.inl (0))) := rfl
theorem kX9_loadOf_1 : kX9_loadOf 1 = some (s_ist 2 3) := rfl
theorem kX9_loadOf_2 : kX9_loadOf 2 = some (s_push 3 (.inl (0))) := rfl
theorem kX9_loadOf_3 : kX9_loadOf 3 = some (s_ist 5 4) := rfl
theorem kX9_loadOf_5 : kX9_loadOf 5 = some (s_ild 7 4) := rfl
theorem kX9_loadOf_7 : kX9_loadOf 7 = some (s_ald 8 0) := rfl
theorem kX9_loadOf_8 : kX9_loadOf 8 = some (s_get 11 9 14) := rfl
theorem kX9_loadOf_11 : kX9_loadOf 11 = some (s_ild 12 1) := rfl
theorem kX9_loadOf_12 : kX9_loadOf 12 = some (s_iald 13) := rfl
theorem kX9_loadOf_13 : kX9_loadOf 13 = some (s_icmp 16 79 (fun x y => y ≤ x)) := rfl
theorem kX9_loadOf_16 : kX9_loadOf 16 = some (s_ild 18 4) := rfl
theorem kX9_loadOf_18 : kX9_loadOf 18 = some (s_if 21 58 (fun x => ¬ x = 0)) := rfl
theorem kX9_loadOf_21 : kX9_loadOf 21 = some (s_ald 22 0) := rfl
theorem kX9_loadOf_22 : kX9_loadOf 22 = some (s_get 25 9 15) := rfl
theorem kX9_loadOf_25 : kX9_loadOf 25 = some (s_ild 26 1) := rfl
theorem kX9_loadOf_26 : kX9_loadOf 26 = some (s_iald 27) := rfl
theorem kX9_loadOf_27 : kX9_loadOf 27 = some (s_if 30 58 (fun x => x < 0)) := rfl
theorem kX9_loadOf_30 : kX9_loadOf 30 = some (s_ild 31 3) := rfl
theorem kX9_loadOf_31 : kX9_loadOf 31 = some (s_ald 32 0) := rfl
theorem kX9_loadOf_32 : kX9_loadOf 32 = some (s_get 35 9 15) := rfl
theorem kX9_loadOf_35 : kX9_loadOf 35 = some (s_ild 36 1) := rfl
theorem kX9_loadOf_36 : kX9_loadOf 36 = some (s_iald 37) := rfl
theorem kX9_loadOf_37 : kX9_loadOf 37 = some (s_ild 38 2) := rfl
theorem kX9_loadOf_38 : kX9_loadOf 38 = some (s_icmp 41 52 (fun x y => x ≤ y)) := rfl
theorem kX9_loadOf_41 : kX9_loadOf 41 = some (s_ald 42 0) := rfl
theorem kX9_loadOf_42 : kX9_loadOf 42 = some (s_get 45 9 15) := rfl
theorem kX9_loadOf_45 : kX9_loadOf 45 = some (s_ild 46 1) := rfl
theorem kX9_loadOf_46 : kX9_loadOf 46 = some (s_iald 47) := rfl
theorem kX9_loadOf_47 : kX9_loadOf 47 = some (s_ild 48 2) := rfl
theorem kX9_loadOf_48 : kX9_loadOf 48 = some (s_bin 49 (fun x y => m_wrap (x - y))) := rfl
theorem kX9_loadOf_49 : kX9_loadOf 49 = some (s_goto 53) := rfl
theorem kX9_loadOf_52 : kX9_loadOf 52 = some (s_push 53 (.inl (0))) := rfl
theorem kX9_loadOf_53 : kX9_loadOf 53 = some (s_bin 54 (fun x y => m_wrap (x + y))) := rfl
theorem kX9_loadOf_54 : kX9_loadOf 54 = some (s_ist 55 3) := rfl
theorem kX9_loadOf_55 : kX9_loadOf 55 = some (s_goto 73) := rfl
theorem kX9_loadOf_58 : kX9_loadOf 58 = some (s_ild 59 3) := rfl
theorem kX9_loadOf_59 : kX9_loadOf 59 = some (s_ald 60 0) := rfl
theorem kX9_loadOf_60 : kX9_loadOf 60 = some (s_get 63 9 12) := rfl
theorem kX9_loadOf_63 : kX9_loadOf 63 = some (s_push 65 (.inl (60))) := rfl
theorem kX9_loadOf_65 : kX9_loadOf 65 = some (s_ild 66 1) := rfl
theorem kX9_loadOf_66 : kX9_loadOf 66 = some (s_bin 67 (fun x y => m_wrap (x * y))) := rfl
theorem kX9_loadOf_67 : kX9_loadOf 67 = some (s_ild 69 4) := rfl
theorem kX9_loadOf_69 : kX9_loadOf 69 = some (s_bin 70 (fun x y => m_wrap (x + y))) := rfl
theorem kX9_loadOf_70 : kX9_loadOf 70 = some (s_iald 71) := rfl
theorem kX9_loadOf_71 : kX9_loadOf 71 = some (s_bin 72 (fun x y => m_wrap (x + y))) := rfl
theorem kX9_loadOf_72 : kX9_loadOf 72 = some (s_ist 73 3) := rfl
theorem kX9_loadOf_73 : kX9_loadOf 73 = some (s_inc 76 4 (1)) := rfl
theorem kX9_loadOf_76 : kX9_loadOf 76 = some (s_goto 5) := rfl
theorem kX9_loadOf_79 : kX9_loadOf 79 = some (s_ild 80 3) := rfl
theorem kX9_loadOf_80 : kX9_loadOf 80 = some (s_ret) := rfl
def wX9_loadOf : m_GK := m_wp 5 kX9_loadOf
set_option maxRecDepth 100000 in
set_option maxHeartbeats 4000000 in
theorem sX9_loadOf (l : Launch) (X : m_X) (hX : m_inj X.1) : m_Sound l X 1 yX9_loadOf cX9_loadOf 5 (some .int) wX9_loadOf := m_sound_of hX (by decide) (fun p e s m args below meth c q C hr => m_bt_all (m_bt_all (m_bt_all (m_bt_all (m_bt_all (m_lf_all (o_iconst C (x := (0)) (m_rngd rfl) dX9_loadOf_0 rfl)) (m_bt_all (m_lf_all (o_istore_n C (i := 3) rfl dX9_loadOf_1 rfl)) (m_lf_all (o_iconst C (x := (0)) (m_rngd rfl) dX9_loadOf_2 rfl)))) (m_bt_all (m_lf_all (o_istore C dX9_loadOf_3 rfl)) (m_bt_all (m_lf_all (o_iload C dX9_loadOf_5 rfl)) (m_lf_all (o_aload_n C (i := 0) rfl dX9_loadOf_7 rfl))))) (m_bt_all (m_bt_all (m_lf_all (o_get C (ci := 9) (k := 14) (N := 35) (rf := RX9) (T := TX9) rfl ginX9 (Nat.le_of_ble_eq_true rfl) (m_tb_of 940 (by decide +kernel) rfl) dX9_loadOf_8 rfl)) (m_bt_all (m_lf_all (o_iload_n C (i := 1) rfl dX9_loadOf_11 rfl)) (m_lf_all (o_iald C dX9_loadOf_12 rfl)))) (m_bt_all (m_lf_all (o_icmp_ge C dX9_loadOf_13 rfl rfl)) (m_bt_all (m_lf_all (o_iload C dX9_loadOf_16 rfl)) (m_lf_all (o_if_ne C dX9_loadOf_18 rfl rfl)))))) (m_bt_all (m_bt_all (m_bt_all (m_lf_all (o_aload_n C (i := 0) rfl dX9_loadOf_21 rfl)) (m_bt_all (m_lf_all (o_get C (ci := 9) (k := 15) (N := 35) (rf := RX9) (T := TX9) rfl ginX9 (Nat.le_of_ble_eq_true rfl) (m_tb_of 941 (by decide +kernel) rfl) dX9_loadOf_22 rfl)) (m_lf_all (o_iload_n C (i := 1) rfl dX9_loadOf_25 rfl)))) (m_bt_all (m_lf_all (o_iald C dX9_loadOf_26 rfl)) (m_bt_all (m_lf_all (o_if_lt C dX9_loadOf_27 rfl rfl)) (m_lf_all (o_iload_n C (i := 3) rfl dX9_loadOf_30 rfl))))) (m_bt_all (m_bt_all (m_lf_all (o_aload_n C (i := 0) rfl dX9_loadOf_31 rfl)) (m_bt_all (m_lf_all (o_get C (ci := 9) (k := 15) (N := 35) (rf := RX9) (T := TX9) rfl ginX9 (Nat.le_of_ble_eq_true rfl) (m_tb_of 941 (by decide +kernel) rfl) dX9_loadOf_32 rfl)) (m_lf_all (o_iload_n C (i := 1) rfl dX9_loadOf_35 rfl)))) (m_bt_all (m_bt_all (m_lf_all (o_iald C dX9_loadOf_36 rfl)) (m_lf_all (o_iload_n C (i := 2) rfl dX9_loadOf_37 rfl))) (m_bt_all (m_lf_all (o_icmp_le C dX9_loadOf_38 rfl rfl)) (m_lf_all (o_aload_n C (i := 0) rfl dX9_loadOf_41 rfl))))))) (m_bt_all (m_bt_all (m_bt_all (m_bt_all (m_lf_all (o_get C (ci := 9) (k := 15) (N := 35) (rf := RX9) (T := TX9) rfl ginX9 (Nat.le_of_ble_eq_true rfl) (m_tb_of 941 (by decide +kernel) rfl) dX9_loadOf_42 rfl)) (m_bt_all (m_lf_all (o_iload_n C (i := 1) rfl dX9_loadOf_45 rfl)) (m_lf_all (o_iald C dX9_loadOf_46 rfl)))) (m_bt_all (m_lf_all (o_iload_n C (i := 2) rfl dX9_loadOf_47 rfl)) (m_bt_all (m_lf_all (o_isub C dX9_loadOf_48 rfl)) (m_lf_all (o_goto C dX9_loadOf_49 rfl))))) (m_bt_all (m_bt_all (m_lf_all (o_iconst C (x := (0)) (m_rngd rfl) dX9_loadOf_52 rfl)) (m_bt_all (m_lf_all (o_iadd C dX9_loadOf_53 rfl)) (m_lf_all (o_istore_n C (i := 3) rfl dX9_loadOf_54 rfl)))) (m_bt_all (m_lf_all (o_goto C dX9_loadOf_55 rfl)) (m_bt_all (m_lf_all (o_iload_n C (i := 3) rfl dX9_loadOf_58 rfl)) (m_lf_all (o_aload_n C (i := 0) rfl dX9_loadOf_59 rfl)))))) (m_bt_all (m_bt_all (m_bt_all (m_lf_all (o_get C (ci := 9) (k := 12) (N := 35) (rf := RX9) (T := TX9) rfl ginX9 (Nat.le_of_ble_eq_true rfl) (m_tb_of 938 (by decide +kernel) rfl) dX9_loadOf_60 rfl)) (m_bt_all (m_lf_all (o_bipush C (x := (60)) (m_rngd rfl) rfl dX9_loadOf_63 rfl)) (m_lf_all (o_iload_n C (i := 1) rfl dX9_loadOf_65 rfl)))) (m_bt_all (m_lf_all (o_imul C dX9_loadOf_66 rfl)) (m_bt_all (m_lf_all (o_iload C dX9_loadOf_67 rfl)) (m_lf_all (o_iadd C dX9_loadOf_69 rfl))))) (m_bt_all (m_bt_all (m_lf_all (o_iald C dX9_loadOf_70 rfl)) (m_bt_all (m_lf_all (o_iadd C dX9_loadOf_71 rfl)) (m_lf_all (o_istore_n C (i := 3) rfl dX9_loadOf_72 rfl)))) (m_bt_all (m_bt_all (m_lf_all (o_iinc C dX9_loadOf_73 rfl)) (m_lf_all (o_goto C dX9_loadOf_76 rfl))) (m_bt_all (m_lf_all (o_iload_n C (i := 3) rfl dX9_loadOf_79 rfl)) (m_lf_all (o_iret C hr dX9_loadOf_80))))))))
set_option maxRecDepth 20000 in
def kX9_rank : m_C := m_bt 55 (m_bt 41 (m_bt 36 (m_bt 2 (m_bt 1 (m_lf 0 (s_ald 1 0)) (m_lf 1 (s_push 2 (.inl (4))))) (m_bt 5 (m_lf 2 (s_callV 5 2 9 wX9_setOf)) (m_lf 5 (s_sw [(1, 36), (2, 56), (3, 63), (4, 65)] 68)))) (m_bt 39 (m_bt 38 (m_lf 36 (s_push 38 (.inl (100)))) (m_lf 38 (s_ald 39 0))) (m_bt 40 (m_lf 39 (s_ild 40 1)) (m_lf 40 (s_ild 41 3))))) (m_bt 49 (m_bt 47 (m_bt 44 (m_lf 41 (s_callV 44 3 9 wX9_wordAt)) (m_lf 44 (s_callS 47 1 wX9_bits))) (m_bt 48 (m_lf 47 (s_bin 48 (fun x y => m_wrap (x * y)))) (m_lf 48 (s_ald 49 0)))) (m_bt 53 (m_bt 52 (m_lf 49 (s_get 52 9 14)) (m_lf 52 (s_ild 53 1))) (m_bt 54 (m_lf 53 (s_iald 54)) (m_lf 54 (s_bin 55 (fun x y => m_wrap (x + y)))))))) (m_bt 65 (m_bt 59 (m_bt 57 (m_bt 56 (m_lf 55 (s_ret)) (m_lf 56 (s_ald 57 0))) (m_bt 58 (m_lf 57 (s_ild 58 1)) (m_lf 58 (s_ild 59 3)))) (m_bt 63 (m_bt 62 (m_lf 59 (s_callV 62 3 9 wX9_loadOf)) (m_lf 62 (s_ret))) (m_bt 64 (m_lf 63 (s_ild 64 1)) (m_lf 64 (s_ret))))) (m_bt 69 (m_bt 67 (m_bt 66 (m_lf 65 (s_ild 66 1)) (m_lf 66 (s_neg 67))) (m_bt 68 (m_lf 67 (s_ret)) (m_lf 68 (s_ald 69 0)))) (m_bt 73 (m_bt 72 (m_lf 69 (s_get 72 9 14)) (m_lf 72 (s_ild 73 1))) (m_bt 74 (m_lf 73 (s_iald 74)) (m_lf 74 (s_ret))))))
theorem kX9_rank_0 : kX9_rank 0 = some (s_ald 1 0) := rfl
theorem kX9_rank_1 : kX9_rank 1 = some (s_push 2 (.inl (4))) := rfl
theorem kX9_rank_2 : kX9_rank 2 = some (s_callV 5 2 9 wX9_setOf) := rfl
theorem kX9_rank_5 : kX9_rank 5 = some (s_sw [(1, 36), (2, 56), (3, 63), (4, 65)] 68) := rfl
theorem kX9_rank_36 : kX9_rank 36 = some (s_push 38 (.inl (100))) := rfl
theorem kX9_rank_38 : kX9_rank 38 = some (s_ald 39 0) := rfl
theorem kX9_rank_39 : kX9_rank 39 = some (s_ild 40 1) := rfl
theorem kX9_rank_40 : kX9_rank 40 = some (s_ild 41 3) := rfl
theorem kX9_rank_41 : kX9_rank 41 = some (s_callV 44 3 9 wX9_wordAt) := rfl
theorem kX9_rank_44 : kX9_rank 44 = some (s_callS 47 1 wX9_bits) := rfl
theorem kX9_rank_47 : kX9_rank 47 = some (s_bin 48 (fun x y => m_wrap (x * y))) := rfl
theorem kX9_rank_48 : kX9_rank 48 = some (s_ald 49 0) := rfl
theorem kX9_rank_49 : kX9_rank 49 = some (s_get 52 9 14) := rfl
theorem kX9_rank_52 : kX9_rank 52 = some (s_ild 53 1) := rfl
theorem kX9_rank_53 : kX9_rank 53 = some (s_iald 54) := rfl
theorem kX9_rank_54 : kX9_rank 54 = some (s_bin 55 (fun x y => m_wrap (x + y))) := rfl
theorem kX9_rank_55 : kX9_rank 55 = some (s_ret) := rfl
theorem kX9_rank_56 : kX9_rank 56 = some (s_ald 57 0) := rfl
theorem kX9_rank_57 : kX9_rank 57 = some (s_ild 58 1) := rfl
theorem kX9_rank_58 : kX9_rank 58 = some (s_ild 59 3) := rfl
theorem kX9_rank_59 : kX9_rank 59 = some (s_callV 62 3 9 wX9_loadOf) := rfl
theorem kX9_rank_62 : kX9_rank 62 = some (s_ret) := rfl
theorem kX9_rank_63 : kX9_rank 63 = some (s_ild 64 1) := rfl
theorem kX9_rank_64 : kX9_rank 64 = some (s_ret) := rfl
theorem kX9_rank_65 : kX9_rank 65 = some (s_ild 66 1) := rfl
theorem kX9_rank_66 : kX9_rank 66 = some (s_neg 67) := rfl
theorem kX9_rank_67 : kX9_rank 67 = some (s_ret) := rfl
theorem kX9_rank_68 : kX9_rank 68 = some (s_ald 69 0) := rfl
theorem kX9_rank_69 : kX9_rank 69 = some (s_get 72 9 14) := rfl
theorem kX9_rank_72 : kX9_rank 72 = some (s_ild 73 1) := rfl
theorem kX9_rank_73 : kX9_rank 73 = some (s_iald 74) := rfl
theorem kX9_rank_74 : kX9_rank 74 = some (s_ret) := rfl
def wX9_rank : m_GK := m_wp 4 kX9_rank
set_option maxRecDepth 100000 in
set_option maxHeartbeats 4000000 in
theorem sX9_rank (l : Launch) (X : m_X) (hX : m_inj X.1) : m_Sound l X 3 yX9_rank cX9_rank 4 (some .int) wX9_rank := m_sound_of hX (by decide) (fun p e s m args below meth c q C hr => m_bt_all (m_bt_all (m_bt_all (m_bt_all (m_bt_all (m_lf_all (o_aload_n C (i := 0) rfl dX9_rank_0 rfl)) (m_lf_all (o_iconst C (x := (4)) (m_rngd rfl) dX9_rank_1 rfl))) (m_bt_all (m_lf_all (o_callV C (T := TX9) (N := 35) (sX9_setOf l X hX) rfl (m_in_of [1158, 1160, 51, 81] (by decide +kernel) (by decide +kernel)) (m_tb_of 1161 (by decide +kernel) rfl) (by decide +kernel) rfl ⟨Nat.le_of_ble_eq_true rfl, Nat.le_of_ble_eq_true rfl⟩ dX9_rank_2 rfl)) (m_lf_all (o_tsw C dX9_rank_5 rfl (by decide) (by decide +kernel))))) (m_bt_all (m_bt_all (m_lf_all (o_bipush C (x := (100)) (m_rngd rfl) rfl dX9_rank_36 rfl)) (m_lf_all (o_aload_n C (i := 0) rfl dX9_rank_38 rfl))) (m_bt_all (m_lf_all (o_iload_n C (i := 1) rfl dX9_rank_39 rfl)) (m_lf_all (o_iload_n C (i := 3) rfl dX9_rank_40 rfl))))) (m_bt_all (m_bt_all (m_bt_all (m_lf_all (o_callV C (T := TX9) (N := 35) (sX9_wordAt l X hX) rfl (m_in_of [1170, 1172, 54, 81] (by decide +kernel) (by decide +kernel)) (m_tb_of 1173 (by decide +kernel) rfl) (by decide +kernel) rfl ⟨Nat.le_of_ble_eq_true rfl, Nat.le_of_ble_eq_true rfl⟩ dX9_rank_41 rfl)) (m_lf_all (o_callS C (sX9_bits l X hX) (m_in_of [1182, 1183, 81] (by decide +kernel) (by decide +kernel)) (m_tb_of 1184 (by decide +kernel) rfl) (by decide +kernel) ⟨Nat.le_of_ble_eq_true rfl, Nat.le_of_ble_eq_true rfl⟩ dX9_rank_44 rfl))) (m_bt_all (m_lf_all (o_imul C dX9_rank_47 rfl)) (m_lf_all (o_aload_n C (i := 0) rfl dX9_rank_48 rfl)))) (m_bt_all (m_bt_all (m_lf_all (o_get C (ci := 9) (k := 14) (N := 35) (rf := RX9) (T := TX9) rfl ginX9 (Nat.le_of_ble_eq_true rfl) (m_tb_of 940 (by decide +kernel) rfl) dX9_rank_49 rfl)) (m_lf_all (o_iload_n C (i := 1) rfl dX9_rank_52 rfl))) (m_bt_all (m_lf_all (o_iald C dX9_rank_53 rfl)) (m_lf_all (o_iadd C dX9_rank_54 rfl)))))) (m_bt_all (m_bt_all (m_bt_all (m_bt_all (m_lf_all (o_iret C hr dX9_rank_55)) (m_lf_all (o_aload_n C (i := 0) rfl dX9_rank_56 rfl))) (m_bt_all (m_lf_all (o_iload_n C (i := 1) rfl dX9_rank_57 rfl)) (m_lf_all (o_iload_n C (i := 3) rfl dX9_rank_58 rfl)))) (m_bt_all (m_bt_all (m_lf_all (o_callV C (T := TX9) (N := 35) (sX9_loadOf l X hX) rfl (m_in_of [1185, 1187, 57, 81] (by decide +kernel) (by decide +kernel)) (m_tb_of 1188 (by decide +kernel) rfl) (by decide +kernel) rfl ⟨Nat.le_of_ble_eq_true rfl, Nat.le_of_ble_eq_true rfl⟩ dX9_rank_59 rfl)) (m_lf_all (o_iret C hr dX9_rank_62))) (m_bt_all (m_lf_all (o_iload_n C (i := 1) rfl dX9_rank_63 rfl)) (m_lf_all (o_iret C hr dX9_rank_64))))) (m_bt_all (m_bt_all (m_bt_all (m_lf_all (o_iload_n C (i := 1) rfl dX9_rank_65 rfl)) (m_lf_all (o_ineg C dX9_rank_66 rfl))) (m_bt_all (m_lf_all (o_iret C hr dX9_rank_67)) (m_lf_all (o_aload_n C (i := 0) rfl dX9_rank_68 rfl)))) (m_bt_all (m_bt_all (m_lf_all (o_get C (ci := 9) (k := 14) (N := 35) (rf := RX9) (T := TX9) rfl ginX9 (Nat.le_of_ble_eq_true rfl) (m_tb_of 940 (by decide +kernel) rfl) dX9_rank_69 rfl)) (m_lf_all (o_iload_n C (i := 1) rfl dX9_rank_72 rfl))) (m_bt_all (m_lf_all (o_iald C dX9_rank_73 rfl)) (m_lf_all (o_iret C hr dX9_rank_74)))))))
set_option maxRecDepth 20000 in
def kX9_chosen : m_C := m_bt 34 (m_bt 15 (m_bt 6 (m_bt 3 (m_bt 2 (m_lf 0 (s_push 2 (.inl (-9)))) (m_lf 2 (s_ist 3 3))) (m_bt 4 (m_lf 3 (s_push 4 (.inl (0)))) (m_lf 4 (s_ist 6 4)))) (m_bt 9 (m_bt 7 (m_lf 6 (s_push 7 (.inl (0)))) (m_lf 7 (s_ist 9 5))) (m_bt 11 (m_lf 9 (s_ild 11 5)) (m_bt 12 (m_lf 11 (s_ald 12 0)) (m_lf 12 (s_get 15 9 1)))))) (m_bt 23 (m_bt 17 (m_bt 16 (m_lf 15 (s_push 16 (.inl (1)))) (m_lf 16 (s_iald 17))) (m_bt 20 (m_lf 17 (s_icmp 20 71 (fun x y => y ≤ x))) (m_bt 21 (m_lf 20 (s_ald 21 0)) (m_lf 21 (s_ild 23 5))))) (m_bt 25 (m_bt 24 (m_lf 23 (s_ild 24 1)) (m_lf 24 (s_ild 25 2))) (m_bt 28 (m_lf 25 (s_callV 28 4 9 wX9_isOpen)) (m_bt 31 (m_lf 28 (s_if 31 34 (fun x => ¬ x = 0))) (m_lf 31 (s_goto 65))))))) (m_bt 52 (m_bt 42 (m_bt 37 (m_bt 35 (m_lf 34 (s_ald 35 0)) (m_lf 35 (s_ild 37 5))) (m_bt 38 (m_lf 37 (s_ild 38 1)) (m_bt 39 (m_lf 38 (s_ild 39 2)) (m_lf 39 (s_callV 42 4 9 wX9_rank))))) (m_bt 45 (m_bt 44 (m_lf 42 (s_ist 44 6)) (m_lf 44 (s_ild 45 3))) (m_bt 48 (m_lf 45 (s_if 48 58 (fun x => x < 0))) (m_bt 50 (m_lf 48 (s_ild 50 6)) (m_lf 50 (s_ild 52 4)))))) (m_bt 63 (m_bt 58 (m_bt 55 (m_lf 52 (s_icmp 55 58 (fun x y => x < y))) (m_lf 55 (s_goto 65))) (m_bt 60 (m_lf 58 (s_ild 60 5)) (m_bt 61 (m_lf 60 (s_ist 61 3)) (m_lf 61 (s_ild 63 6))))) (m_bt 68 (m_bt 65 (m_lf 63 (s_ist 65 4)) (m_lf 65 (s_inc 68 5 (1)))) (m_bt 71 (m_lf 68 (s_goto 9)) (m_bt 72 (m_lf 71 (s_ild 72 3)) (m_lf 72 (s_ret)))))))
theorem kX9_chosen_0 : kX9_chosen 0 = some (s_push 2 (.inl (-9))) := rfl
theorem kX9_chosen_2 : kX9_chosen 2 = some (s_ist 3 3) := rfl
theorem kX9_chosen_3 : kX9_chosen 3 = some (s_push 4 (.inl (0))) := rfl
theorem kX9_chosen_4 : kX9_chosen 4 = some (s_ist 6 4) := rfl
theorem kX9_chosen_6 : kX9_chosen 6 = some (s_push 7 (.inl (0))) := rfl
theorem kX9_chosen_7 : kX9_chosen 7 = some (s_ist 9 5) := rfl
theorem kX9_chosen_9 : kX9_chosen 9 = some (s_ild 11 5) := rfl
theorem kX9_chosen_11 : kX9_chosen 11 = some (s_ald 12 0) := rfl
theorem kX9_chosen_12 : kX9_chosen 12 = some (s_get 15 9 1) := rfl
theorem kX9_chosen_15 : kX9_chosen 15 = some (s_push 16 (.inl (1))) := rfl
theorem kX9_chosen_16 : kX9_chosen 16 = some (s_iald 17) := rfl
theorem kX9_chosen_17 : kX9_chosen 17 = some (s_icmp 20 71 (fun x y => y ≤ x)) := rfl
theorem kX9_chosen_20 : kX9_chosen 20 = some (s_ald 21 0) := rfl
theorem kX9_chosen_21 : kX9_chosen 21 = some (s_ild 23 5) := rfl
theorem kX9_chosen_23 : kX9_chosen 23 = some (s_ild 24 1) := rfl
theorem kX9_chosen_24 : kX9_chosen 24 = some (s_ild 25 2) := rfl
theorem kX9_chosen_25 : kX9_chosen 25 = some (s_callV 28 4 9 wX9_isOpen) := rfl
theorem kX9_chosen_28 : kX9_chosen 28 = some (s_if 31 34 (fun x => ¬ x = 0)) := rfl
theorem kX9_chosen_31 : kX9_chosen 31 = some (s_goto 65) := rfl
theorem kX9_chosen_34 : kX9_chosen 34 = some (s_ald 35 0) := rfl
theorem kX9_chosen_35 : kX9_chosen 35 = some (s_ild 37 5) := rfl
theorem kX9_chosen_37 : kX9_chosen 37 = some (s_ild 38 1) := rfl
theorem kX9_chosen_38 : kX9_chosen 38 = some (s_ild 39 2) := rfl
theorem kX9_chosen_39 : kX9_chosen 39 = some (s_callV 42 4 9 wX9_rank) := rfl
theorem kX9_chosen_42 : kX9_chosen 42 = some (s_ist 44 6) := rfl
theorem kX9_chosen_44 : kX9_chosen 44 = some (s_ild 45 3) := rfl
theorem kX9_chosen_45 : kX9_chosen 45 = some (s_if 48 58 (fun x => x < 0)) := rfl
theorem kX9_chosen_48 : kX9_chosen 48 = some (s_ild 50 6) := rfl
theorem kX9_chosen_50 : kX9_chosen 50 = some (s_ild 52 4) := rfl
theorem kX9_chosen_52 : kX9_chosen 52 = some (s_icmp 55 58 (fun x y => x < y)) := rfl
theorem kX9_chosen_55 : kX9_chosen 55 = some (s_goto 65) := rfl
theorem kX9_chosen_58 : kX9_chosen 58 = some (s_ild 60 5) := rfl
theorem kX9_chosen_60 : kX9_chosen 60 = some (s_ist 61 3) := rfl
theorem kX9_chosen_61 : kX9_chosen 61 = some (s_ild 63 6) := rfl
theorem kX9_chosen_63 : kX9_chosen 63 = some (s_ist 65 4) := rfl
theorem kX9_chosen_65 : kX9_chosen 65 = some (s_inc 68 5 (1)) := rfl
theorem kX9_chosen_68 : kX9_chosen 68 = some (s_goto 9) := rfl
theorem kX9_chosen_71 : kX9_chosen 71 = some (s_ild 72 3) := rfl
theorem kX9_chosen_72 : kX9_chosen 72 = some (s_ret) := rfl
def wX9_chosen : m_GK := m_wp 7 kX9_chosen
set_option maxRecDepth 100000 in
set_option maxHeartbeats 4000000 in
theorem sX9_chosen (l : Launch) (X : m_X) (hX : m_inj X.1) : m_Sound l X 4 yX9_chosen cX9_chosen 7 (some .int) wX9_chosen := m_sound_of hX (by decide) (fun p e s m args below meth c q C hr => m_bt_all (m_bt_all (m_bt_all (m_bt_all (m_bt_all (m_lf_all (o_bipush C (x := (-9)) (m_rngd rfl) rfl dX9_chosen_0 rfl)) (m_lf_all (o_istore_n C (i := 3) rfl dX9_chosen_2 rfl))) (m_bt_all (m_lf_all (o_iconst C (x := (0)) (m_rngd rfl) dX9_chosen_3 rfl)) (m_lf_all (o_istore C dX9_chosen_4 rfl)))) (m_bt_all (m_bt_all (m_lf_all (o_iconst C (x := (0)) (m_rngd rfl) dX9_chosen_6 rfl)) (m_lf_all (o_istore C dX9_chosen_7 rfl))) (m_bt_all (m_lf_all (o_iload C dX9_chosen_9 rfl)) (m_bt_all (m_lf_all (o_aload_n C (i := 0) rfl dX9_chosen_11 rfl)) (m_lf_all (o_get C (ci := 9) (k := 1) (N := 35) (rf := RX9) (T := TX9) rfl ginX9 (Nat.le_of_ble_eq_true rfl) (m_tb_of 927 (by decide +kernel) rfl) dX9_chosen_12 rfl)))))) (m_bt_all (m_bt_all (m_bt_all (m_lf_all (o_iconst C (x := (1)) (m_rngd rfl) dX9_chosen_15 rfl)) (m_lf_all (o_iald C dX9_chosen_16 rfl))) (m_bt_all (m_lf_all (o_icmp_ge C dX9_chosen_17 rfl rfl)) (m_bt_all (m_lf_all (o_aload_n C (i := 0) rfl dX9_chosen_20 rfl)) (m_lf_all (o_iload C dX9_chosen_21 rfl))))) (m_bt_all (m_bt_all (m_lf_all (o_iload_n C (i := 1) rfl dX9_chosen_23 rfl)) (m_lf_all (o_iload_n C (i := 2) rfl dX9_chosen_24 rfl))) (m_bt_all (m_lf_all (o_callV C (T := TX9) (N := 35) (sX9_isOpen l X hX) rfl (m_in_of [1166, 1168, 53, 81] (by decide +kernel) (by decide +kernel)) (m_tb_of 1169 (by decide +kernel) rfl) (by decide +kernel) rfl ⟨Nat.le_of_ble_eq_true rfl, Nat.le_of_ble_eq_true rfl⟩ dX9_chosen_25 rfl)) (m_bt_all (m_lf_all (o_if_ne C dX9_chosen_28 rfl rfl)) (m_lf_all (o_goto C dX9_chosen_31 rfl))))))) (m_bt_all (m_bt_all (m_bt_all (m_bt_all (m_lf_all (o_aload_n C (i := 0) rfl dX9_chosen_34 rfl)) (m_lf_all (o_iload C dX9_chosen_35 rfl))) (m_bt_all (m_lf_all (o_iload_n C (i := 1) rfl dX9_chosen_37 rfl)) (m_bt_all (m_lf_all (o_iload_n C (i := 2) rfl dX9_chosen_38 rfl)) (m_lf_all (o_callV C (T := TX9) (N := 35) (sX9_rank l X hX) rfl (m_in_of [1178, 1180, 56, 81] (by decide +kernel) (by decide +kernel)) (m_tb_of 1181 (by decide +kernel) rfl) (by decide +kernel) rfl ⟨Nat.le_of_ble_eq_true rfl, Nat.le_of_ble_eq_true rfl⟩ dX9_chosen_39 rfl))))) (m_bt_all (m_bt_all (m_lf_all (o_istore C dX9_chosen_42 rfl)) (m_lf_all (o_iload_n C (i := 3) rfl dX9_chosen_44 rfl))) (m_bt_all (m_lf_all (o_if_lt C dX9_chosen_45 rfl rfl)) (m_bt_all (m_lf_all (o_iload C dX9_chosen_48 rfl)) (m_lf_all (o_iload C dX9_chosen_50 rfl)))))) (m_bt_all (m_bt_all (m_bt_all (m_lf_all (o_icmp_lt C dX9_chosen_52 rfl rfl)) (m_lf_all (o_goto C dX9_chosen_55 rfl))) (m_bt_all (m_lf_all (o_iload C dX9_chosen_58 rfl)) (m_bt_all (m_lf_all (o_istore_n C (i := 3) rfl dX9_chosen_60 rfl)) (m_lf_all (o_iload C dX9_chosen_61 rfl))))) (m_bt_all (m_bt_all (m_lf_all (o_istore C dX9_chosen_63 rfl)) (m_lf_all (o_iinc C dX9_chosen_65 rfl))) (m_bt_all (m_lf_all (o_goto C dX9_chosen_68 rfl)) (m_bt_all (m_lf_all (o_iload_n C (i := 3) rfl dX9_chosen_71 rfl)) (m_lf_all (o_iret C hr dX9_chosen_72))))))))
set_option maxRecDepth 20000 in
def kX9_stands : m_C := m_bt 37 (m_bt 17 (m_bt 8 (m_bt 3 (m_bt 2 (m_lf 0 (s_push 2 (.inl (60)))) (m_lf 2 (s_ild 3 1))) (m_bt 4 (m_lf 3 (s_bin 4 (fun x y => m_wrap (x * y)))) (m_bt 5 (m_lf 4 (s_ald 5 0)) (m_lf 5 (s_get 8 9 14))))) (m_bt 11 (m_bt 9 (m_lf 8 (s_ild 9 1)) (m_bt 10 (m_lf 9 (s_iald 10)) (m_lf 10 (s_bin 11 (fun x y => m_wrap (x + y)))))) (m_bt 13 (m_lf 11 (s_ist 13 6)) (m_bt 14 (m_lf 13 (s_ald 14 0)) (m_lf 14 (s_get 17 9 10)))))) (m_bt 27 (m_bt 21 (m_bt 19 (m_lf 17 (s_ild 19 6)) (m_bt 20 (m_lf 19 (s_ild 20 2)) (m_lf 20 (s_iast 21)))) (m_bt 22 (m_lf 21 (s_ald 22 0)) (m_bt 25 (m_lf 22 (s_get 25 9 11)) (m_lf 25 (s_ild 27 6))))) (m_bt 30 (m_bt 28 (m_lf 27 (s_ild 28 3)) (m_bt 29 (m_lf 28 (s_iast 29)) (m_lf 29 (s_ald 30 0)))) (m_bt 33 (m_lf 30 (s_get 33 9 12)) (m_bt 35 (m_lf 33 (s_ild 35 6)) (m_lf 35 (s_ild 37 4))))))) (m_bt 54 (m_bt 46 (m_bt 39 (m_bt 38 (m_lf 37 (s_iast 38)) (m_lf 38 (s_ald 39 0))) (m_bt 42 (m_lf 39 (s_get 42 9 13)) (m_bt 44 (m_lf 42 (s_ild 44 6)) (m_lf 44 (s_ild 46 5))))) (m_bt 51 (m_bt 47 (m_lf 46 (s_iast 47)) (m_bt 48 (m_lf 47 (s_ald 48 0)) (m_lf 48 (s_get 51 9 14)))) (m_bt 52 (m_lf 51 (s_ild 52 1)) (m_bt 53 (m_lf 52 (s_dup2 53)) (m_lf 53 (s_iald 54)))))) (m_bt 62 (m_bt 57 (m_bt 55 (m_lf 54 (s_push 55 (.inl (1)))) (m_bt 56 (m_lf 55 (s_bin 56 (fun x y => m_wrap (x + y)))) (m_lf 56 (s_iast 57)))) (m_bt 58 (m_lf 57 (s_ald 58 0)) (m_bt 61 (m_lf 58 (s_get 61 9 18)) (m_lf 61 (s_ild 62 2))))) (m_bt 65 (m_bt 63 (m_lf 62 (s_dup2 63)) (m_bt 64 (m_lf 63 (s_iald 64)) (m_lf 64 (s_push 65 (.inl (1)))))) (m_bt 66 (m_lf 65 (s_bin 66 (fun x y => m_wrap (x + y)))) (m_bt 67 (m_lf 66 (s_iast 67)) (m_lf 67 (s_retv)))))))
theorem kX9_stands_0 : kX9_stands 0 = some (s_push 2 (.inl (60))) := rfl
theorem kX9_stands_2 : kX9_stands 2 = some (s_ild 3 1) := rfl
theorem kX9_stands_3 : kX9_stands 3 = some (s_bin 4 (fun x y => m_wrap (x * y))) := rfl
theorem kX9_stands_4 : kX9_stands 4 = some (s_ald 5 0) := rfl
theorem kX9_stands_5 : kX9_stands 5 = some (s_get 8 9 14) := rfl
theorem kX9_stands_8 : kX9_stands 8 = some (s_ild 9 1) := rfl
theorem kX9_stands_9 : kX9_stands 9 = some (s_iald 10) := rfl
theorem kX9_stands_10 : kX9_stands 10 = some (s_bin 11 (fun x y => m_wrap (x + y))) := rfl
theorem kX9_stands_11 : kX9_stands 11 = some (s_ist 13 6) := rfl
theorem kX9_stands_13 : kX9_stands 13 = some (s_ald 14 0) := rfl
theorem kX9_stands_14 : kX9_stands 14 = some (s_get 17 9 10) := rfl
theorem kX9_stands_17 : kX9_stands 17 = some (s_ild 19 6) := rfl
theorem kX9_stands_19 : kX9_stands 19 = some (s_ild 20 2) := rfl
theorem kX9_stands_20 : kX9_stands 20 = some (s_iast 21) := rfl
theorem kX9_stands_21 : kX9_stands 21 = some (s_ald 22 0) := rfl
theorem kX9_stands_22 : kX9_stands 22 = some (s_get 25 9 11) := rfl
theorem kX9_stands_25 : kX9_stands 25 = some (s_ild 27 6) := rfl
theorem kX9_stands_27 : kX9_stands 27 = some (s_ild 28 3) := rfl
theorem kX9_stands_28 : kX9_stands 28 = some (s_iast 29) := rfl
theorem kX9_stands_29 : kX9_stands 29 = some (s_ald 30 0) := rfl
theorem kX9_stands_30 : kX9_stands 30 = some (s_get 33 9 12) := rfl
theorem kX9_stands_33 : kX9_stands 33 = some (s_ild 35 6) := rfl
theorem kX9_stands_35 : kX9_stands 35 = some (s_ild 37 4) := rfl
theorem kX9_stands_37 : kX9_stands 37 = some (s_iast 38) := rfl
theorem kX9_stands_38 : kX9_stands 38 = some (s_ald 39 0) := rfl
theorem kX9_stands_39 : kX9_stands 39 = some (s_get 42 9 13) := rfl
theorem kX9_stands_42 : kX9_stands 42 = some (s_ild 44 6) := rfl
theorem kX9_stands_44 : kX9_stands 44 = some (s_ild 46 5) := rfl
theorem kX9_stands_46 : kX9_stands 46 = some (s_iast 47) := rfl
theorem kX9_stands_47 : kX9_stands 47 = some (s_ald 48 0) := rfl
theorem kX9_stands_48 : kX9_stands 48 = some (s_get 51 9 14) := rfl
theorem kX9_stands_51 : kX9_stands 51 = some (s_ild 52 1) := rfl
theorem kX9_stands_52 : kX9_stands 52 = some (s_dup2 53) := rfl
theorem kX9_stands_53 : kX9_stands 53 = some (s_iald 54) := rfl
theorem kX9_stands_54 : kX9_stands 54 = some (s_push 55 (.inl (1))) := rfl
theorem kX9_stands_55 : kX9_stands 55 = some (s_bin 56 (fun x y => m_wrap (x + y))) := rfl
theorem kX9_stands_56 : kX9_stands 56 = some (s_iast 57) := rfl
theorem kX9_stands_57 : kX9_stands 57 = some (s_ald 58 0) := rfl
theorem kX9_stands_58 : kX9_stands 58 = some (s_get 61 9 18) := rfl
theorem kX9_stands_61 : kX9_stands 61 = some (s_ild 62 2) := rfl
theorem kX9_stands_62 : kX9_stands 62 = some (s_dup2 63) := rfl
theorem kX9_stands_63 : kX9_stands 63 = some (s_iald 64) := rfl
theorem kX9_stands_64 : kX9_stands 64 = some (s_push 65 (.inl (1))) := rfl
theorem kX9_stands_65 : kX9_stands 65 = some (s_bin 66 (fun x y => m_wrap (x + y))) := rfl
theorem kX9_stands_66 : kX9_stands 66 = some (s_iast 67) := rfl
theorem kX9_stands_67 : kX9_stands 67 = some (s_retv) := rfl
def wX9_stands : m_GK := m_wp 7 kX9_stands
set_option maxRecDepth 100000 in
set_option maxHeartbeats 4000000 in
theorem sX9_stands (l : Launch) (X : m_X) (hX : m_inj X.1) : m_Sound l X 1 yX9_stands cX9_stands 7 none wX9_stands := m_sound_of hX (by decide) (fun p e s m args below meth c q C hr => m_bt_all (m_bt_all (m_bt_all (m_bt_all (m_bt_all (m_lf_all (o_bipush C (x := (60)) (m_rngd rfl) rfl dX9_stands_0 rfl)) (m_lf_all (o_iload_n C (i := 1) rfl dX9_stands_2 rfl))) (m_bt_all (m_lf_all (o_imul C dX9_stands_3 rfl)) (m_bt_all (m_lf_all (o_aload_n C (i := 0) rfl dX9_stands_4 rfl)) (m_lf_all (o_get C (ci := 9) (k := 14) (N := 35) (rf := RX9) (T := TX9) rfl ginX9 (Nat.le_of_ble_eq_true rfl) (m_tb_of 940 (by decide +kernel) rfl) dX9_stands_5 rfl))))) (m_bt_all (m_bt_all (m_lf_all (o_iload_n C (i := 1) rfl dX9_stands_8 rfl)) (m_bt_all (m_lf_all (o_iald C dX9_stands_9 rfl)) (m_lf_all (o_iadd C dX9_stands_10 rfl)))) (m_bt_all (m_lf_all (o_istore C dX9_stands_11 rfl)) (m_bt_all (m_lf_all (o_aload_n C (i := 0) rfl dX9_stands_13 rfl)) (m_lf_all (o_get C (ci := 9) (k := 10) (N := 35) (rf := RX9) (T := TX9) rfl ginX9 (Nat.le_of_ble_eq_true rfl) (m_tb_of 936 (by decide +kernel) rfl) dX9_stands_14 rfl)))))) (m_bt_all (m_bt_all (m_bt_all (m_lf_all (o_iload C dX9_stands_17 rfl)) (m_bt_all (m_lf_all (o_iload_n C (i := 2) rfl dX9_stands_19 rfl)) (m_lf_all (o_iast C dX9_stands_20 rfl)))) (m_bt_all (m_lf_all (o_aload_n C (i := 0) rfl dX9_stands_21 rfl)) (m_bt_all (m_lf_all (o_get C (ci := 9) (k := 11) (N := 35) (rf := RX9) (T := TX9) rfl ginX9 (Nat.le_of_ble_eq_true rfl) (m_tb_of 937 (by decide +kernel) rfl) dX9_stands_22 rfl)) (m_lf_all (o_iload C dX9_stands_25 rfl))))) (m_bt_all (m_bt_all (m_lf_all (o_iload_n C (i := 3) rfl dX9_stands_27 rfl)) (m_bt_all (m_lf_all (o_iast C dX9_stands_28 rfl)) (m_lf_all (o_aload_n C (i := 0) rfl dX9_stands_29 rfl)))) (m_bt_all (m_lf_all (o_get C (ci := 9) (k := 12) (N := 35) (rf := RX9) (T := TX9) rfl ginX9 (Nat.le_of_ble_eq_true rfl) (m_tb_of 938 (by decide +kernel) rfl) dX9_stands_30 rfl)) (m_bt_all (m_lf_all (o_iload C dX9_stands_33 rfl)) (m_lf_all (o_iload C dX9_stands_35 rfl))))))) (m_bt_all (m_bt_all (m_bt_all (m_bt_all (m_lf_all (o_iast C dX9_stands_37 rfl)) (m_lf_all (o_aload_n C (i := 0) rfl dX9_stands_38 rfl))) (m_bt_all (m_lf_all (o_get C (ci := 9) (k := 13) (N := 35) (rf := RX9) (T := TX9) rfl ginX9 (Nat.le_of_ble_eq_true rfl) (m_tb_of 939 (by decide +kernel) rfl) dX9_stands_39 rfl)) (m_bt_all (m_lf_all (o_iload C dX9_stands_42 rfl)) (m_lf_all (o_iload C dX9_stands_44 rfl))))) (m_bt_all (m_bt_all (m_lf_all (o_iast C dX9_stands_46 rfl)) (m_bt_all (m_lf_all (o_aload_n C (i := 0) rfl dX9_stands_47 rfl)) (m_lf_all (o_get C (ci := 9) (k := 14) (N := 35) (rf := RX9) (T := TX9) rfl ginX9 (Nat.le_of_ble_eq_true rfl) (m_tb_of 940 (by decide +kernel) rfl) dX9_stands_48 rfl)))) (m_bt_all (m_lf_all (o_iload_n C (i := 1) rfl dX9_stands_51 rfl)) (m_bt_all (m_lf_all (o_dup2 C dX9_stands_52 rfl)) (m_lf_all (o_iald C dX9_stands_53 rfl)))))) (m_bt_all (m_bt_all (m_bt_all (m_lf_all (o_iconst C (x := (1)) (m_rngd rfl) dX9_stands_54 rfl)) (m_bt_all (m_lf_all (o_iadd C dX9_stands_55 rfl)) (m_lf_all (o_iast C dX9_stands_56 rfl)))) (m_bt_all (m_lf_all (o_aload_n C (i := 0) rfl dX9_stands_57 rfl)) (m_bt_all (m_lf_all (o_get C (ci := 9) (k := 18) (N := 35) (rf := RX9) (T := TX9) rfl ginX9 (Nat.le_of_ble_eq_true rfl) (m_tb_of 944 (by decide +kernel) rfl) dX9_stands_58 rfl)) (m_lf_all (o_iload_n C (i := 2) rfl dX9_stands_61 rfl))))) (m_bt_all (m_bt_all (m_lf_all (o_dup2 C dX9_stands_62 rfl)) (m_bt_all (m_lf_all (o_iald C dX9_stands_63 rfl)) (m_lf_all (o_iconst C (x := (1)) (m_rngd rfl) dX9_stands_64 rfl)))) (m_bt_all (m_lf_all (o_iadd C dX9_stands_65 rfl)) (m_bt_all (m_lf_all (o_iast C dX9_stands_66 rfl)) (m_lf_all (o_vret C hr dX9_stands_67))))))))
