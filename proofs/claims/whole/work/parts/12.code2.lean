set_option maxRecDepth 20000 in
def kX1_run : m_C := m_bt 86 (m_bt 40 (m_bt 17 (m_bt 9 (m_bt 2 (m_bt 1 (m_lf 0 (s_ald 1 0)) (m_lf 1 (s_ald 2 1))) (m_bt 5 (m_lf 2 (s_callV 5 2 1 wX1_begin)) (m_bt 6 (m_lf 5 (s_ald 6 0)) (m_lf 6 (s_get 9 1 6))))) (m_bt 14 (m_bt 10 (m_lf 9 (s_ald 10 1)) (m_bt 13 (m_lf 10 (s_callV 13 2 0 wX0_gather)) (m_lf 13 (s_push 14 (.inl (0)))))) (m_bt 15 (m_lf 14 (s_ist 15 2)) (m_bt 16 (m_lf 15 (s_push 16 (.inl (0)))) (m_lf 16 (s_ist 17 3)))))) (m_bt 28 (m_bt 21 (m_bt 18 (m_lf 17 (s_ild 18 3)) (m_lf 18 (s_push 21 (.inl (7200))))) (m_bt 24 (m_lf 21 (s_icmp 24 146 (fun x y => y ≤ x))) (m_bt 25 (m_lf 24 (s_ild 25 2)) (m_lf 25 (s_push 28 (.inl (7200))))))) (m_bt 33 (m_bt 31 (m_lf 28 (s_icmp 31 146 (fun x y => y ≤ x))) (m_bt 32 (m_lf 31 (s_ald 32 0)) (m_lf 32 (s_ild 33 2)))) (m_bt 36 (m_lf 33 (s_callV 36 2 1 wX1_enterQuarter)) (m_bt 37 (m_lf 36 (s_ald 37 0)) (m_lf 37 (s_get 40 1 9))))))) (m_bt 64 (m_bt 51 (m_bt 44 (m_bt 42 (m_lf 40 (s_ist 42 4)) (m_lf 42 (s_ild 44 4))) (m_bt 45 (m_lf 44 (s_ald 45 0)) (m_bt 48 (m_lf 45 (s_get 48 1 6)) (m_lf 48 (s_get 51 0 0))))) (m_bt 58 (m_bt 54 (m_lf 51 (s_icmp 54 89 (fun x y => y ≤ x))) (m_bt 55 (m_lf 54 (s_ald 55 0)) (m_lf 55 (s_get 58 1 6)))) (m_bt 61 (m_lf 58 (s_get 61 0 2)) (m_bt 63 (m_lf 61 (s_ild 63 4)) (m_lf 63 (s_iald 64)))))) (m_bt 75 (m_bt 69 (m_bt 65 (m_lf 64 (s_ild 65 2)) (m_bt 68 (m_lf 65 (s_icmp 68 89 (fun x y => y < x))) (m_lf 68 (s_ald 69 0)))) (m_bt 71 (m_lf 69 (s_ild 71 4)) (m_bt 72 (m_lf 71 (s_ild 72 2)) (m_lf 72 (s_callV 75 3 1 wX1_admit))))) (m_bt 79 (m_bt 76 (m_lf 75 (s_ald 76 0)) (m_bt 78 (m_lf 76 (s_ild 78 4)) (m_lf 78 (s_push 79 (.inl (1)))))) (m_bt 80 (m_lf 79 (s_bin 80 (fun x y => m_wrap (x + y)))) (m_bt 83 (m_lf 80 (s_put 83 1 9)) (m_lf 83 (s_inc 86 4 (1))))))))) (m_bt 131 (m_bt 109 (m_bt 95 (m_bt 90 (m_bt 89 (m_lf 86 (s_goto 42)) (m_lf 89 (s_push 90 (.inl (0))))) (m_bt 92 (m_lf 90 (s_ist 92 4)) (m_bt 94 (m_lf 92 (s_ild 94 4)) (m_lf 94 (s_ald 95 0))))) (m_bt 104 (m_bt 98 (m_lf 95 (s_get 98 1 7)) (m_bt 101 (m_lf 98 (s_get 101 2 1)) (m_lf 101 (s_icmp 104 134 (fun x y => y ≤ x))))) (m_bt 105 (m_lf 104 (s_ald 105 0)) (m_bt 106 (m_lf 105 (s_ald 106 0)) (m_lf 106 (s_get 109 1 3)))))) (m_bt 118 (m_bt 113 (m_bt 111 (m_lf 109 (s_ild 111 4)) (m_bt 112 (m_lf 111 (s_aald 112)) (m_lf 112 (s_ild 113 2)))) (m_bt 116 (m_lf 113 (s_callV 116 3 1 wX1_leaveLine)) (m_bt 117 (m_lf 116 (s_ald 117 0)) (m_lf 117 (s_ald 118 0))))) (m_bt 124 (m_bt 121 (m_lf 118 (s_get 121 1 3)) (m_bt 123 (m_lf 121 (s_ild 123 4)) (m_lf 123 (s_aald 124)))) (m_bt 125 (m_lf 124 (s_ild 125 2)) (m_bt 128 (m_lf 125 (s_callV 128 3 1 wX1_serveLine)) (m_lf 128 (s_inc 131 4 (1)))))))) (m_bt 150 (m_bt 140 (m_bt 135 (m_bt 134 (m_lf 131 (s_goto 92)) (m_lf 134 (s_ald 135 0))) (m_bt 136 (m_lf 135 (s_ild 136 2)) (m_bt 139 (m_lf 136 (s_callV 139 2 1 wX1_nextSecond)) (m_lf 139 (s_ist 140 2))))) (m_bt 147 (m_bt 143 (m_lf 140 (s_inc 143 3 (1))) (m_bt 146 (m_lf 143 (s_goto 17)) (m_lf 146 (s_push 147 (.inl (0)))))) (m_bt 148 (m_lf 147 (s_ist 148 3)) (m_bt 149 (m_lf 148 (s_ild 149 3)) (m_lf 149 (s_ald 150 0)))))) (m_bt 164 (m_bt 159 (m_bt 153 (m_lf 150 (s_get 153 1 7)) (m_bt 156 (m_lf 153 (s_get 156 2 1)) (m_lf 156 (s_icmp 159 175 (fun x y => y ≤ x))))) (m_bt 160 (m_lf 159 (s_ald 160 0)) (m_bt 161 (m_lf 160 (s_ald 161 0)) (m_lf 161 (s_get 164 1 3))))) (m_bt 169 (m_bt 165 (m_lf 164 (s_ild 165 3)) (m_bt 166 (m_lf 165 (s_aald 166)) (m_lf 166 (s_callV 169 2 1 wX1_closeLine)))) (m_bt 172 (m_lf 169 (s_inc 172 3 (1))) (m_bt 175 (m_lf 172 (s_goto 148)) (m_lf 175 (s_retv))))))))
theorem kX1_run_0 : kX1_run 0 = some (s_ald 1 0) := rfl
theorem kX1_run_1 : kX1_run 1 = some (s_ald 2 1) := rfl
theorem kX1_run_2 : kX1_run 2 = some (s_callV 5 2 1 wX1_begin) := rfl
theorem kX1_run_5 : kX1_run 5 = some (s_ald 6 0) := rfl
theorem kX1_run_6 : kX1_run 6 = some (s_get 9 1 6) := rfl
theorem kX1_run_9 : kX1_run 9 = some (s_ald 10 1) := rfl
theorem kX1_run_10 : kX1_run 10 = some (s_callV 13 2 0 wX0_gather) := rfl
theorem kX1_run_13 : kX1_run 13 = some (s_push 14 (.inl (0))) := rfl
theorem kX1_run_14 : kX1_run 14 = some (s_ist 15 2) := rfl
theorem kX1_run_15 : kX1_run 15 = some (s_push 16 (.inl (0))) := rfl
theorem kX1_run_16 : kX1_run 16 = some (s_ist 17 3) := rfl
theorem kX1_run_17 : kX1_run 17 = some (s_ild 18 3) := rfl
theorem kX1_run_18 : kX1_run 18 = some (s_push 21 (.inl (7200))) := rfl
theorem kX1_run_21 : kX1_run 21 = some (s_icmp 24 146 (fun x y => y ≤ x)) := rfl
theorem kX1_run_24 : kX1_run 24 = some (s_ild 25 2) := rfl
theorem kX1_run_25 : kX1_run 25 = some (s_push 28 (.inl (7200))) := rfl
theorem kX1_run_28 : kX1_run 28 = some (s_icmp 31 146 (fun x y => y ≤ x)) := rfl
theorem kX1_run_31 : kX1_run 31 = some (s_ald 32 0) := rfl
theorem kX1_run_32 : kX1_run 32 = some (s_ild 33 2) := rfl
theorem kX1_run_33 : kX1_run 33 = some (s_callV 36 2 1 wX1_enterQuarter) := rfl
theorem kX1_run_36 : kX1_run 36 = some (s_ald 37 0) := rfl
theorem kX1_run_37 : kX1_run 37 = some (s_get 40 1 9) := rfl
theorem kX1_run_40 : kX1_run 40 = some (s_ist 42 4) := rfl
theorem kX1_run_42 : kX1_run 42 = some (s_ild 44 4) := rfl
theorem kX1_run_44 : kX1_run 44 = some (s_ald 45 0) := rfl
theorem kX1_run_45 : kX1_run 45 = some (s_get 48 1 6) := rfl
theorem kX1_run_48 : kX1_run 48 = some (s_get 51 0 0) := rfl
theorem kX1_run_51 : kX1_run 51 = some (s_icmp 54 89 (fun x y => y ≤ x)) := rfl
theorem kX1_run_54 : kX1_run 54 = some (s_ald 55 0) := rfl
theorem kX1_run_55 : kX1_run 55 = some (s_get 58 1 6) := rfl
theorem kX1_run_58 : kX1_run 58 = some (s_get 61 0 2) := rfl
theorem kX1_run_61 : kX1_run 61 = some (s_ild 63 4) := rfl
theorem kX1_run_63 : kX1_run 63 = some (s_iald 64) := rfl
theorem kX1_run_64 : kX1_run 64 = some (s_ild 65 2) := rfl
theorem kX1_run_65 : kX1_run 65 = some (s_icmp 68 89 (fun x y => y < x)) := rfl
theorem kX1_run_68 : kX1_run 68 = some (s_ald 69 0) := rfl
theorem kX1_run_69 : kX1_run 69 = some (s_ild 71 4) := rfl
theorem kX1_run_71 : kX1_run 71 = some (s_ild 72 2) := rfl
theorem kX1_run_72 : kX1_run 72 = some (s_callV 75 3 1 wX1_admit) := rfl
theorem kX1_run_75 : kX1_run 75 = some (s_ald 76 0) := rfl
theorem kX1_run_76 : kX1_run 76 = some (s_ild 78 4) := rfl
theorem kX1_run_78 : kX1_run 78 = some (s_push 79 (.inl (1))) := rfl
theorem kX1_run_79 : kX1_run 79 = some (s_bin 80 (fun x y => m_wrap (x + y))) := rfl
theorem kX1_run_80 : kX1_run 80 = some (s_put 83 1 9) := rfl
theorem kX1_run_83 : kX1_run 83 = some (s_inc 86 4 (1)) := rfl
theorem kX1_run_86 : kX1_run 86 = some (s_goto 42) := rfl
theorem kX1_run_89 : kX1_run 89 = some (s_push 90 (.inl (0))) := rfl
theorem kX1_run_90 : kX1_run 90 = some (s_ist 92 4) := rfl
theorem kX1_run_92 : kX1_run 92 = some (s_ild 94 4) := rfl
theorem kX1_run_94 : kX1_run 94 = some (s_ald 95 0) := rfl
theorem kX1_run_95 : kX1_run 95 = some (s_get 98 1 7) := rfl
theorem kX1_run_98 : kX1_run 98 = some (s_get 101 2 1) := rfl
theorem kX1_run_101 : kX1_run 101 = some (s_icmp 104 134 (fun x y => y ≤ x)) := rfl
theorem kX1_run_104 : kX1_run 104 = some (s_ald 105 0) := rfl
theorem kX1_run_105 : kX1_run 105 = some (s_ald 106 0) := rfl
theorem kX1_run_106 : kX1_run 106 = some (s_get 109 1 3) := rfl
theorem kX1_run_109 : kX1_run 109 = some (s_ild 111 4) := rfl
theorem kX1_run_111 : kX1_run 111 = some (s_aald 112) := rfl
theorem kX1_run_112 : kX1_run 112 = some (s_ild 113 2) := rfl
theorem kX1_run_113 : kX1_run 113 = some (s_callV 116 3 1 wX1_leaveLine) := rfl
theorem kX1_run_116 : kX1_run 116 = some (s_ald 117 0) := rfl
theorem kX1_run_117 : kX1_run 117 = some (s_ald 118 0) := rfl
theorem kX1_run_118 : kX1_run 118 = some (s_get 121 1 3) := rfl
theorem kX1_run_121 : kX1_run 121 = some (s_ild 123 4) := rfl
theorem kX1_run_123 : kX1_run 123 = some (s_aald 124) := rfl
theorem kX1_run_124 : kX1_run 124 = some (s_ild 125 2) := rfl
theorem kX1_run_125 : kX1_run 125 = some (s_callV 128 3 1 wX1_serveLine) := rfl
theorem kX1_run_128 : kX1_run 128 = some (s_inc 131 4 (1)) := rfl
theorem kX1_run_131 : kX1_run 131 = some (s_goto 92) := rfl
theorem kX1_run_134 : kX1_run 134 = some (s_ald 135 0) := rfl
theorem kX1_run_135 : kX1_run 135 = some (s_ild 136 2) := rfl
theorem kX1_run_136 : kX1_run 136 = some (s_callV 139 2 1 wX1_nextSecond) := rfl
theorem kX1_run_139 : kX1_run 139 = some (s_ist 140 2) := rfl
theorem kX1_run_140 : kX1_run 140 = some (s_inc 143 3 (1)) := rfl
theorem kX1_run_143 : kX1_run 143 = some (s_goto 17) := rfl
theorem kX1_run_146 : kX1_run 146 = some (s_push 147 (.inl (0))) := rfl
theorem kX1_run_147 : kX1_run 147 = some (s_ist 148 3) := rfl
theorem kX1_run_148 : kX1_run 148 = some (s_ild 149 3) := rfl
theorem kX1_run_149 : kX1_run 149 = some (s_ald 150 0) := rfl
theorem kX1_run_150 : kX1_run 150 = some (s_get 153 1 7) := rfl
theorem kX1_run_153 : kX1_run 153 = some (s_get 156 2 1) := rfl
theorem kX1_run_156 : kX1_run 156 = some (s_icmp 159 175 (fun x y => y ≤ x)) := rfl
theorem kX1_run_159 : kX1_run 159 = some (s_ald 160 0) := rfl
theorem kX1_run_160 : kX1_run 160 = some (s_ald 161 0) := rfl
theorem kX1_run_161 : kX1_run 161 = some (s_get 164 1 3) := rfl
theorem kX1_run_164 : kX1_run 164 = some (s_ild 165 3) := rfl
theorem kX1_run_165 : kX1_run 165 = some (s_aald 166) := rfl
theorem kX1_run_166 : kX1_run 166 = some (s_callV 169 2 1 wX1_closeLine) := rfl
theorem kX1_run_169 : kX1_run 169 = some (s_inc 172 3 (1)) := rfl
theorem kX1_run_172 : kX1_run 172 = some (s_goto 148) := rfl
theorem kX1_run_175 : kX1_run 175 = some (s_retv) := rfl
def wX1_run : m_GK := m_wp 5 kX1_run
set_option maxRecDepth 100000 in
set_option maxHeartbeats 4000000 in
theorem sX1_run (l : Launch) (X : m_X) (hX : m_inj X.1) : m_Sound l X 5 yX1_run cX1_run 5 none wX1_run := m_sound_of hX (by decide) (fun p e s m args below meth c q C hr => m_bt_all (m_bt_all (m_bt_all (m_bt_all (m_bt_all (m_bt_all (m_lf_all (o_aload_n C (i := 0) rfl dX1_run_0 rfl)) (m_lf_all (o_aload_n C (i := 1) rfl dX1_run_1 rfl))) (m_bt_all (m_lf_all (o_callV C (T := TX1) (N := 11) (sX1_begin l X hX) rfl (m_in_of [598, 600, 8, 75] (by decide +kernel) (by decide +kernel)) (m_tb_of 601 (by decide +kernel) rfl) (by decide +kernel) rfl ⟨Nat.le_of_ble_eq_true rfl, Nat.le_of_ble_eq_true rfl⟩ dX1_run_2 rfl)) (m_bt_all (m_lf_all (o_aload_n C (i := 0) rfl dX1_run_5 rfl)) (m_lf_all (o_get C (ci := 1) (k := 6) (N := 11) (rf := RX1) (T := TX1) rfl ginX1 (Nat.le_of_ble_eq_true rfl) (m_tb_of 292 (by decide +kernel) rfl) dX1_run_6 rfl))))) (m_bt_all (m_bt_all (m_lf_all (o_aload_n C (i := 1) rfl dX1_run_9 rfl)) (m_bt_all (m_lf_all (o_callV C (T := TX0) (N := 8) (sX0_gather l X hX) rfl (m_in_of [606, 607, 608, 77] (by decide +kernel) (by decide +kernel)) (m_tb_of 609 (by decide +kernel) rfl) (by decide +kernel) rfl ⟨Nat.le_of_ble_eq_true rfl, Nat.le_of_ble_eq_true rfl⟩ dX1_run_10 rfl)) (m_lf_all (o_iconst C (x := (0)) (m_rngd rfl) dX1_run_13 rfl)))) (m_bt_all (m_lf_all (o_istore_n C (i := 2) rfl dX1_run_14 rfl)) (m_bt_all (m_lf_all (o_iconst C (x := (0)) (m_rngd rfl) dX1_run_15 rfl)) (m_lf_all (o_istore_n C (i := 3) rfl dX1_run_16 rfl)))))) (m_bt_all (m_bt_all (m_bt_all (m_lf_all (o_iload_n C (i := 3) rfl dX1_run_17 rfl)) (m_lf_all (o_sipush C (x := (7200)) (m_rngd rfl) rfl dX1_run_18 rfl))) (m_bt_all (m_lf_all (o_icmp_ge C dX1_run_21 rfl rfl)) (m_bt_all (m_lf_all (o_iload_n C (i := 2) rfl dX1_run_24 rfl)) (m_lf_all (o_sipush C (x := (7200)) (m_rngd rfl) rfl dX1_run_25 rfl))))) (m_bt_all (m_bt_all (m_lf_all (o_icmp_ge C dX1_run_28 rfl rfl)) (m_bt_all (m_lf_all (o_aload_n C (i := 0) rfl dX1_run_31 rfl)) (m_lf_all (o_iload_n C (i := 2) rfl dX1_run_32 rfl)))) (m_bt_all (m_lf_all (o_callV C (T := TX1) (N := 11) (sX1_enterQuarter l X hX) rfl (m_in_of [629, 631, 11, 75] (by decide +kernel) (by decide +kernel)) (m_tb_of 632 (by decide +kernel) rfl) (by decide +kernel) rfl ⟨Nat.le_of_ble_eq_true rfl, Nat.le_of_ble_eq_true rfl⟩ dX1_run_33 rfl)) (m_bt_all (m_lf_all (o_aload_n C (i := 0) rfl dX1_run_36 rfl)) (m_lf_all (o_get C (ci := 1) (k := 9) (N := 11) (rf := RX1) (T := TX1) rfl ginX1 (Nat.le_of_ble_eq_true rfl) (m_tb_of 295 (by decide +kernel) rfl) dX1_run_37 rfl))))))) (m_bt_all (m_bt_all (m_bt_all (m_bt_all (m_lf_all (o_istore C dX1_run_40 rfl)) (m_lf_all (o_iload C dX1_run_42 rfl))) (m_bt_all (m_lf_all (o_aload_n C (i := 0) rfl dX1_run_44 rfl)) (m_bt_all (m_lf_all (o_get C (ci := 1) (k := 6) (N := 11) (rf := RX1) (T := TX1) rfl ginX1 (Nat.le_of_ble_eq_true rfl) (m_tb_of 292 (by decide +kernel) rfl) dX1_run_45 rfl)) (m_lf_all (o_get C (ci := 0) (k := 0) (N := 8) (rf := RX0) (T := TX0) rfl ginX0 (Nat.le_of_ble_eq_true rfl) (m_tb_of 244 (by decide +kernel) rfl) dX1_run_48 rfl))))) (m_bt_all (m_bt_all (m_lf_all (o_icmp_ge C dX1_run_51 rfl rfl)) (m_bt_all (m_lf_all (o_aload_n C (i := 0) rfl dX1_run_54 rfl)) (m_lf_all (o_get C (ci := 1) (k := 6) (N := 11) (rf := RX1) (T := TX1) rfl ginX1 (Nat.le_of_ble_eq_true rfl) (m_tb_of 292 (by decide +kernel) rfl) dX1_run_55 rfl)))) (m_bt_all (m_lf_all (o_get C (ci := 0) (k := 2) (N := 8) (rf := RX0) (T := TX0) rfl ginX0 (Nat.le_of_ble_eq_true rfl) (m_tb_of 249 (by decide +kernel) rfl) dX1_run_58 rfl)) (m_bt_all (m_lf_all (o_iload C dX1_run_61 rfl)) (m_lf_all (o_iald C dX1_run_63 rfl)))))) (m_bt_all (m_bt_all (m_bt_all (m_lf_all (o_iload_n C (i := 2) rfl dX1_run_64 rfl)) (m_bt_all (m_lf_all (o_icmp_gt C dX1_run_65 rfl rfl)) (m_lf_all (o_aload_n C (i := 0) rfl dX1_run_68 rfl)))) (m_bt_all (m_lf_all (o_iload C dX1_run_69 rfl)) (m_bt_all (m_lf_all (o_iload_n C (i := 2) rfl dX1_run_71 rfl)) (m_lf_all (o_callV C (T := TX1) (N := 11) (sX1_admit l X hX) rfl (m_in_of [641, 643, 12, 75] (by decide +kernel) (by decide +kernel)) (m_tb_of 644 (by decide +kernel) rfl) (by decide +kernel) rfl ⟨Nat.le_of_ble_eq_true rfl, Nat.le_of_ble_eq_true rfl⟩ dX1_run_72 rfl))))) (m_bt_all (m_bt_all (m_lf_all (o_aload_n C (i := 0) rfl dX1_run_75 rfl)) (m_bt_all (m_lf_all (o_iload C dX1_run_76 rfl)) (m_lf_all (o_iconst C (x := (1)) (m_rngd rfl) dX1_run_78 rfl)))) (m_bt_all (m_lf_all (o_iadd C dX1_run_79 rfl)) (m_bt_all (m_lf_all (o_put C (ci := 1) (k := 9) (N := 11) (rf := RX1) (T := TX1) rfl ginX1 (Nat.le_of_ble_eq_true rfl) (m_tb_of 295 (by decide +kernel) rfl) (ty0 := tyX1) tyX1_ok nmX1 rfl rfl dX1_run_80 rfl)) (m_lf_all (o_iinc C dX1_run_83 rfl)))))))) (m_bt_all (m_bt_all (m_bt_all (m_bt_all (m_bt_all (m_lf_all (o_goto C dX1_run_86 rfl)) (m_lf_all (o_iconst C (x := (0)) (m_rngd rfl) dX1_run_89 rfl))) (m_bt_all (m_lf_all (o_istore C dX1_run_90 rfl)) (m_bt_all (m_lf_all (o_iload C dX1_run_92 rfl)) (m_lf_all (o_aload_n C (i := 0) rfl dX1_run_94 rfl))))) (m_bt_all (m_bt_all (m_lf_all (o_get C (ci := 1) (k := 7) (N := 11) (rf := RX1) (T := TX1) rfl ginX1 (Nat.le_of_ble_eq_true rfl) (m_tb_of 293 (by decide +kernel) rfl) dX1_run_95 rfl)) (m_bt_all (m_lf_all (o_get C (ci := 2) (k := 1) (N := 8) (rf := RX2) (T := TX2) rfl ginX2 (Nat.le_of_ble_eq_true rfl) (m_tb_of 112 (by decide +kernel) rfl) dX1_run_98 rfl)) (m_lf_all (o_icmp_ge C dX1_run_101 rfl rfl)))) (m_bt_all (m_lf_all (o_aload_n C (i := 0) rfl dX1_run_104 rfl)) (m_bt_all (m_lf_all (o_aload_n C (i := 0) rfl dX1_run_105 rfl)) (m_lf_all (o_get C (ci := 1) (k := 3) (N := 11) (rf := RX1) (T := TX1) rfl ginX1 (Nat.le_of_ble_eq_true rfl) (m_tb_of 286 (by decide +kernel) rfl) dX1_run_106 rfl)))))) (m_bt_all (m_bt_all (m_bt_all (m_lf_all (o_iload C dX1_run_109 rfl)) (m_bt_all (m_lf_all (o_aald C dX1_run_111 rfl)) (m_lf_all (o_iload_n C (i := 2) rfl dX1_run_112 rfl)))) (m_bt_all (m_lf_all (o_callV C (T := TX1) (N := 11) (sX1_leaveLine l X hX) rfl (m_in_of [678, 680, 17, 75] (by decide +kernel) (by decide +kernel)) (m_tb_of 681 (by decide +kernel) rfl) (by decide +kernel) rfl ⟨Nat.le_of_ble_eq_true rfl, Nat.le_of_ble_eq_true rfl⟩ dX1_run_113 rfl)) (m_bt_all (m_lf_all (o_aload_n C (i := 0) rfl dX1_run_116 rfl)) (m_lf_all (o_aload_n C (i := 0) rfl dX1_run_117 rfl))))) (m_bt_all (m_bt_all (m_lf_all (o_get C (ci := 1) (k := 3) (N := 11) (rf := RX1) (T := TX1) rfl ginX1 (Nat.le_of_ble_eq_true rfl) (m_tb_of 286 (by decide +kernel) rfl) dX1_run_118 rfl)) (m_bt_all (m_lf_all (o_iload C dX1_run_121 rfl)) (m_lf_all (o_aald C dX1_run_123 rfl)))) (m_bt_all (m_lf_all (o_iload_n C (i := 2) rfl dX1_run_124 rfl)) (m_bt_all (m_lf_all (o_callV C (T := TX1) (N := 11) (sX1_serveLine l X hX) rfl (m_in_of [686, 688, 18, 75] (by decide +kernel) (by decide +kernel)) (m_tb_of 689 (by decide +kernel) rfl) (by decide +kernel) rfl ⟨Nat.le_of_ble_eq_true rfl, Nat.le_of_ble_eq_true rfl⟩ dX1_run_125 rfl)) (m_lf_all (o_iinc C dX1_run_128 rfl))))))) (m_bt_all (m_bt_all (m_bt_all (m_bt_all (m_lf_all (o_goto C dX1_run_131 rfl)) (m_lf_all (o_aload_n C (i := 0) rfl dX1_run_134 rfl))) (m_bt_all (m_lf_all (o_iload_n C (i := 2) rfl dX1_run_135 rfl)) (m_bt_all (m_lf_all (o_callV C (T := TX1) (N := 11) (sX1_nextSecond l X hX) rfl (m_in_of [698, 700, 20, 75] (by decide +kernel) (by decide +kernel)) (m_tb_of 701 (by decide +kernel) rfl) (by decide +kernel) rfl ⟨Nat.le_of_ble_eq_true rfl, Nat.le_of_ble_eq_true rfl⟩ dX1_run_136 rfl)) (m_lf_all (o_istore_n C (i := 2) rfl dX1_run_139 rfl))))) (m_bt_all (m_bt_all (m_lf_all (o_iinc C dX1_run_140 rfl)) (m_bt_all (m_lf_all (o_goto C dX1_run_143 rfl)) (m_lf_all (o_iconst C (x := (0)) (m_rngd rfl) dX1_run_146 rfl)))) (m_bt_all (m_lf_all (o_istore_n C (i := 3) rfl dX1_run_147 rfl)) (m_bt_all (m_lf_all (o_iload_n C (i := 3) rfl dX1_run_148 rfl)) (m_lf_all (o_aload_n C (i := 0) rfl dX1_run_149 rfl)))))) (m_bt_all (m_bt_all (m_bt_all (m_lf_all (o_get C (ci := 1) (k := 7) (N := 11) (rf := RX1) (T := TX1) rfl ginX1 (Nat.le_of_ble_eq_true rfl) (m_tb_of 293 (by decide +kernel) rfl) dX1_run_150 rfl)) (m_bt_all (m_lf_all (o_get C (ci := 2) (k := 1) (N := 8) (rf := RX2) (T := TX2) rfl ginX2 (Nat.le_of_ble_eq_true rfl) (m_tb_of 112 (by decide +kernel) rfl) dX1_run_153 rfl)) (m_lf_all (o_icmp_ge C dX1_run_156 rfl rfl)))) (m_bt_all (m_lf_all (o_aload_n C (i := 0) rfl dX1_run_159 rfl)) (m_bt_all (m_lf_all (o_aload_n C (i := 0) rfl dX1_run_160 rfl)) (m_lf_all (o_get C (ci := 1) (k := 3) (N := 11) (rf := RX1) (T := TX1) rfl ginX1 (Nat.le_of_ble_eq_true rfl) (m_tb_of 286 (by decide +kernel) rfl) dX1_run_161 rfl))))) (m_bt_all (m_bt_all (m_lf_all (o_iload_n C (i := 3) rfl dX1_run_164 rfl)) (m_bt_all (m_lf_all (o_aald C dX1_run_165 rfl)) (m_lf_all (o_callV C (T := TX1) (N := 11) (sX1_closeLine l X hX) rfl (m_in_of [702, 704, 21, 75] (by decide +kernel) (by decide +kernel)) (m_tb_of 705 (by decide +kernel) rfl) (by decide +kernel) rfl ⟨Nat.le_of_ble_eq_true rfl, Nat.le_of_ble_eq_true rfl⟩ dX1_run_166 rfl)))) (m_bt_all (m_lf_all (o_iinc C dX1_run_169 rfl)) (m_bt_all (m_lf_all (o_goto C dX1_run_172 rfl)) (m_lf_all (o_vret C hr dX1_run_175)))))))))
set_option maxRecDepth 20000 in
def kX1_allCost : m_C := m_bt 26 (m_bt 12 (m_bt 4 (m_bt 2 (m_bt 1 (m_lf 0 (s_push 1 (.inl (0)))) (m_lf 1 (s_ist 2 1))) (m_bt 3 (m_lf 2 (s_push 3 (.inl (0)))) (m_lf 3 (s_ist 4 2)))) (m_bt 6 (m_bt 5 (m_lf 4 (s_ild 5 2)) (m_lf 5 (s_ald 6 0))) (m_bt 9 (m_lf 6 (s_get 9 1 7)) (m_lf 9 (s_get 12 2 0))))) (m_bt 20 (m_bt 16 (m_bt 15 (m_lf 12 (s_icmp 15 51 (fun x y => y ≤ x))) (m_lf 15 (s_ild 16 1))) (m_bt 17 (m_lf 16 (s_ald 17 0)) (m_lf 17 (s_get 20 1 0)))) (m_bt 22 (m_bt 21 (m_lf 20 (s_ild 21 2)) (m_lf 21 (s_iald 22))) (m_bt 23 (m_lf 22 (s_ald 23 0)) (m_lf 23 (s_get 26 1 7)))))) (m_bt 40 (m_bt 32 (m_bt 30 (m_bt 29 (m_lf 26 (s_get 29 2 3)) (m_lf 29 (s_ild 30 2))) (m_bt 31 (m_lf 30 (s_iald 31)) (m_lf 31 (s_bin 32 (fun x y => m_wrap (x * y)))))) (m_bt 36 (m_bt 35 (m_lf 32 (s_push 35 (.inl (1000)))) (m_lf 35 (s_ald 36 0))) (m_bt 39 (m_lf 36 (s_get 39 1 2)) (m_lf 39 (s_ild 40 2))))) (m_bt 44 (m_bt 42 (m_bt 41 (m_lf 40 (s_iald 41)) (m_lf 41 (s_bin 42 (fun x y => m_wrap (x * y))))) (m_bt 43 (m_lf 42 (s_bin 43 (fun x y => m_wrap (x + y)))) (m_lf 43 (s_bin 44 (fun x y => m_wrap (x + y)))))) (m_bt 48 (m_bt 45 (m_lf 44 (s_ist 45 1)) (m_lf 45 (s_inc 48 2 (1)))) (m_bt 51 (m_lf 48 (s_goto 4)) (m_bt 52 (m_lf 51 (s_ild 52 1)) (m_lf 52 (s_ret)))))))
theorem kX1_allCost_0 : kX1_allCost 0 = some (s_push 1 (.inl (0))) := rfl
theorem kX1_allCost_1 : kX1_allCost 1 = some (s_ist 2 1) := rfl
theorem kX1_allCost_2 : kX1_allCost 2 = some (s_push 3 (.inl (0))) := rfl
theorem kX1_allCost_3 : kX1_allCost 3 = some (s_ist 4 2) := rfl
theorem kX1_allCost_4 : kX1_allCost 4 = some (s_ild 5 2) := rfl
theorem kX1_allCost_5 : kX1_allCost 5 = some (s_ald 6 0) := rfl
theorem kX1_allCost_6 : kX1_allCost 6 = some (s_get 9 1 7) := rfl
theorem kX1_allCost_9 : kX1_allCost 9 = some (s_get 12 2 0) := rfl
theorem kX1_allCost_12 : kX1_allCost 12 = some (s_icmp 15 51 (fun x y => y ≤ x)) := rfl
theorem kX1_allCost_15 : kX1_allCost 15 = some (s_ild 16 1) := rfl
theorem kX1_allCost_16 : kX1_allCost 16 = some (s_ald 17 0) := rfl
theorem kX1_allCost_17 : kX1_allCost 17 = some (s_get 20 1 0) := rfl
theorem kX1_allCost_20 : kX1_allCost 20 = some (s_ild 21 2) := rfl
theorem kX1_allCost_21 : kX1_allCost 21 = some (s_iald 22) := rfl
theorem kX1_allCost_22 : kX1_allCost 22 = some (s_ald 23 0) := rfl
theorem kX1_allCost_23 : kX1_allCost 23 = some (s_get 26 1 7) := rfl
theorem kX1_allCost_26 : kX1_allCost 26 = some (s_get 29 2 3) := rfl
theorem kX1_allCost_29 : kX1_allCost 29 = some (s_ild 30 2) := rfl
theorem kX1_allCost_30 : kX1_allCost 30 = some (s_iald 31) := rfl
theorem kX1_allCost_31 : kX1_allCost 31 = some (s_bin 32 (fun x y => m_wrap (x * y))) := rfl
theorem kX1_allCost_32 : kX1_allCost 32 = some (s_push 35 (.inl (1000))) := rfl
theorem kX1_allCost_35 : kX1_allCost 35 = some (s_ald 36 0) := rfl
theorem kX1_allCost_36 : kX1_allCost 36 = some (s_get 39 1 2) := rfl
theorem kX1_allCost_39 : kX1_allCost 39 = some (s_ild 40 2) := rfl
theorem kX1_allCost_40 : kX1_allCost 40 = some (s_iald 41) := rfl
theorem kX1_allCost_41 : kX1_allCost 41 = some (s_bin 42 (fun x y => m_wrap (x * y))) := rfl
theorem kX1_allCost_42 : kX1_allCost 42 = some (s_bin 43 (fun x y => m_wrap (x + y))) := rfl
theorem kX1_allCost_43 : kX1_allCost 43 = some (s_bin 44 (fun x y => m_wrap (x + y))) := rfl
theorem kX1_allCost_44 : kX1_allCost 44 = some (s_ist 45 1) := rfl
theorem kX1_allCost_45 : kX1_allCost 45 = some (s_inc 48 2 (1)) := rfl
theorem kX1_allCost_48 : kX1_allCost 48 = some (s_goto 4) := rfl
theorem kX1_allCost_51 : kX1_allCost 51 = some (s_ild 52 1) := rfl
theorem kX1_allCost_52 : kX1_allCost 52 = some (s_ret) := rfl
def wX1_allCost : m_GK := m_wp 3 kX1_allCost
set_option maxRecDepth 100000 in
set_option maxHeartbeats 4000000 in
theorem sX1_allCost (l : Launch) (X : m_X) (hX : m_inj X.1) : m_Sound l X 1 yX1_allCost cX1_allCost 3 (some .int) wX1_allCost := m_sound_of hX (by decide) (fun p e s m args below meth c q C hr => m_bt_all (m_bt_all (m_bt_all (m_bt_all (m_bt_all (m_lf_all (o_iconst C (x := (0)) (m_rngd rfl) dX1_allCost_0 rfl)) (m_lf_all (o_istore_n C (i := 1) rfl dX1_allCost_1 rfl))) (m_bt_all (m_lf_all (o_iconst C (x := (0)) (m_rngd rfl) dX1_allCost_2 rfl)) (m_lf_all (o_istore_n C (i := 2) rfl dX1_allCost_3 rfl)))) (m_bt_all (m_bt_all (m_lf_all (o_iload_n C (i := 2) rfl dX1_allCost_4 rfl)) (m_lf_all (o_aload_n C (i := 0) rfl dX1_allCost_5 rfl))) (m_bt_all (m_lf_all (o_get C (ci := 1) (k := 7) (N := 11) (rf := RX1) (T := TX1) rfl ginX1 (Nat.le_of_ble_eq_true rfl) (m_tb_of 293 (by decide +kernel) rfl) dX1_allCost_6 rfl)) (m_lf_all (o_get C (ci := 2) (k := 0) (N := 8) (rf := RX2) (T := TX2) rfl ginX2 (Nat.le_of_ble_eq_true rfl) (m_tb_of 107 (by decide +kernel) rfl) dX1_allCost_9 rfl))))) (m_bt_all (m_bt_all (m_bt_all (m_lf_all (o_icmp_ge C dX1_allCost_12 rfl rfl)) (m_lf_all (o_iload_n C (i := 1) rfl dX1_allCost_15 rfl))) (m_bt_all (m_lf_all (o_aload_n C (i := 0) rfl dX1_allCost_16 rfl)) (m_lf_all (o_get C (ci := 1) (k := 0) (N := 11) (rf := RX1) (T := TX1) rfl ginX1 (Nat.le_of_ble_eq_true rfl) (m_tb_of 280 (by decide +kernel) rfl) dX1_allCost_17 rfl)))) (m_bt_all (m_bt_all (m_lf_all (o_iload_n C (i := 2) rfl dX1_allCost_20 rfl)) (m_lf_all (o_iald C dX1_allCost_21 rfl))) (m_bt_all (m_lf_all (o_aload_n C (i := 0) rfl dX1_allCost_22 rfl)) (m_lf_all (o_get C (ci := 1) (k := 7) (N := 11) (rf := RX1) (T := TX1) rfl ginX1 (Nat.le_of_ble_eq_true rfl) (m_tb_of 293 (by decide +kernel) rfl) dX1_allCost_23 rfl)))))) (m_bt_all (m_bt_all (m_bt_all (m_bt_all (m_lf_all (o_get C (ci := 2) (k := 3) (N := 8) (rf := RX2) (T := TX2) rfl ginX2 (Nat.le_of_ble_eq_true rfl) (m_tb_of 120 (by decide +kernel) rfl) dX1_allCost_26 rfl)) (m_lf_all (o_iload_n C (i := 2) rfl dX1_allCost_29 rfl))) (m_bt_all (m_lf_all (o_iald C dX1_allCost_30 rfl)) (m_lf_all (o_imul C dX1_allCost_31 rfl)))) (m_bt_all (m_bt_all (m_lf_all (o_sipush C (x := (1000)) (m_rngd rfl) rfl dX1_allCost_32 rfl)) (m_lf_all (o_aload_n C (i := 0) rfl dX1_allCost_35 rfl))) (m_bt_all (m_lf_all (o_get C (ci := 1) (k := 2) (N := 11) (rf := RX1) (T := TX1) rfl ginX1 (Nat.le_of_ble_eq_true rfl) (m_tb_of 284 (by decide +kernel) rfl) dX1_allCost_36 rfl)) (m_lf_all (o_iload_n C (i := 2) rfl dX1_allCost_39 rfl))))) (m_bt_all (m_bt_all (m_bt_all (m_lf_all (o_iald C dX1_allCost_40 rfl)) (m_lf_all (o_imul C dX1_allCost_41 rfl))) (m_bt_all (m_lf_all (o_iadd C dX1_allCost_42 rfl)) (m_lf_all (o_iadd C dX1_allCost_43 rfl)))) (m_bt_all (m_bt_all (m_lf_all (o_istore_n C (i := 1) rfl dX1_allCost_44 rfl)) (m_lf_all (o_iinc C dX1_allCost_45 rfl))) (m_bt_all (m_lf_all (o_goto C dX1_allCost_48 rfl)) (m_bt_all (m_lf_all (o_iload_n C (i := 1) rfl dX1_allCost_51 rfl)) (m_lf_all (o_iret C hr dX1_allCost_52))))))))
set_option maxRecDepth 20000 in
def kX1_allLeft : m_C := m_bt 16 (m_bt 5 (m_bt 2 (m_bt 1 (m_lf 0 (s_push 1 (.inl (0)))) (m_lf 1 (s_ist 2 1))) (m_bt 3 (m_lf 2 (s_push 3 (.inl (0)))) (m_bt 4 (m_lf 3 (s_ist 4 2)) (m_lf 4 (s_ild 5 2))))) (m_bt 9 (m_bt 6 (m_lf 5 (s_ald 6 0)) (m_lf 6 (s_get 9 1 7))) (m_bt 12 (m_lf 9 (s_get 12 2 0)) (m_bt 15 (m_lf 12 (s_icmp 15 30 (fun x y => y ≤ x))) (m_lf 15 (s_ild 16 1)))))) (m_bt 23 (m_bt 20 (m_bt 17 (m_lf 16 (s_ald 17 0)) (m_lf 17 (s_get 20 1 1))) (m_bt 21 (m_lf 20 (s_ild 21 2)) (m_bt 22 (m_lf 21 (s_iald 22)) (m_lf 22 (s_bin 23 (fun x y => m_wrap (x + y))))))) (m_bt 27 (m_bt 24 (m_lf 23 (s_ist 24 1)) (m_lf 24 (s_inc 27 2 (1)))) (m_bt 30 (m_lf 27 (s_goto 4)) (m_bt 31 (m_lf 30 (s_ild 31 1)) (m_lf 31 (s_ret))))))
theorem kX1_allLeft_0 : kX1_allLeft 0 = some (s_push 1 (.inl (0))) := rfl
theorem kX1_allLeft_1 : kX1_allLeft 1 = some (s_ist 2 1) := rfl
theorem kX1_allLeft_2 : kX1_allLeft 2 = some (s_push 3 (.inl (0))) := rfl
theorem kX1_allLeft_3 : kX1_allLeft 3 = some (s_ist 4 2) := rfl
theorem kX1_allLeft_4 : kX1_allLeft 4 = some (s_ild 5 2) := rfl
theorem kX1_allLeft_5 : kX1_allLeft 5 = some (s_ald 6 0) := rfl
theorem kX1_allLeft_6 : kX1_allLeft 6 = some (s_get 9 1 7) := rfl
theorem kX1_allLeft_9 : kX1_allLeft 9 = some (s_get 12 2 0) := rfl
theorem kX1_allLeft_12 : kX1_allLeft 12 = some (s_icmp 15 30 (fun x y => y ≤ x)) := rfl
theorem kX1_allLeft_15 : kX1_allLeft 15 = some (s_ild 16 1) := rfl
theorem kX1_allLeft_16 : kX1_allLeft 16 = some (s_ald 17 0) := rfl
theorem kX1_allLeft_17 : kX1_allLeft 17 = some (s_get 20 1 1) := rfl
theorem kX1_allLeft_20 : kX1_allLeft 20 = some (s_ild 21 2) := rfl
theorem kX1_allLeft_21 : kX1_allLeft 21 = some (s_iald 22) := rfl
theorem kX1_allLeft_22 : kX1_allLeft 22 = some (s_bin 23 (fun x y => m_wrap (x + y))) := rfl
theorem kX1_allLeft_23 : kX1_allLeft 23 = some (s_ist 24 1) := rfl
theorem kX1_allLeft_24 : kX1_allLeft 24 = some (s_inc 27 2 (1)) := rfl
theorem kX1_allLeft_27 : kX1_allLeft 27 = some (s_goto 4) := rfl
theorem kX1_allLeft_30 : kX1_allLeft 30 = some (s_ild 31 1) := rfl
theorem kX1_allLeft_31 : kX1_allLeft 31 = some (s_ret) := rfl
def wX1_allLeft : m_GK := m_wp 3 kX1_allLeft
set_option maxRecDepth 100000 in
set_option maxHeartbeats 4000000 in
theorem sX1_allLeft (l : Launch) (X : m_X) (hX : m_inj X.1) : m_Sound l X 1 yX1_allLeft cX1_allLeft 3 (some .int) wX1_allLeft := m_sound_of hX (by decide) (fun p e s m args below meth c q C hr => m_bt_all (m_bt_all (m_bt_all (m_bt_all (m_lf_all (o_iconst C (x := (0)) (m_rngd rfl) dX1_allLeft_0 rfl)) (m_lf_all (o_istore_n C (i := 1) rfl dX1_allLeft_1 rfl))) (m_bt_all (m_lf_all (o_iconst C (x := (0)) (m_rngd rfl) dX1_allLeft_2 rfl)) (m_bt_all (m_lf_all (o_istore_n C (i := 2) rfl dX1_allLeft_3 rfl)) (m_lf_all (o_iload_n C (i := 2) rfl dX1_allLeft_4 rfl))))) (m_bt_all (m_bt_all (m_lf_all (o_aload_n C (i := 0) rfl dX1_allLeft_5 rfl)) (m_lf_all (o_get C (ci := 1) (k := 7) (N := 11) (rf := RX1) (T := TX1) rfl ginX1 (Nat.le_of_ble_eq_true rfl) (m_tb_of 293 (by decide +kernel) rfl) dX1_allLeft_6 rfl))) (m_bt_all (m_lf_all (o_get C (ci := 2) (k := 0) (N := 8) (rf := RX2) (T := TX2) rfl ginX2 (Nat.le_of_ble_eq_true rfl) (m_tb_of 107 (by decide +kernel) rfl) dX1_allLeft_9 rfl)) (m_bt_all (m_lf_all (o_icmp_ge C dX1_allLeft_12 rfl rfl)) (m_lf_all (o_iload_n C (i := 1) rfl dX1_allLeft_15 rfl)))))) (m_bt_all (m_bt_all (m_bt_all (m_lf_all (o_aload_n C (i := 0) rfl dX1_allLeft_16 rfl)) (m_lf_all (o_get C (ci := 1) (k := 1) (N := 11) (rf := RX1) (T := TX1) rfl ginX1 (Nat.le_of_ble_eq_true rfl) (m_tb_of 282 (by decide +kernel) rfl) dX1_allLeft_17 rfl))) (m_bt_all (m_lf_all (o_iload_n C (i := 2) rfl dX1_allLeft_20 rfl)) (m_bt_all (m_lf_all (o_iald C dX1_allLeft_21 rfl)) (m_lf_all (o_iadd C dX1_allLeft_22 rfl))))) (m_bt_all (m_bt_all (m_lf_all (o_istore_n C (i := 1) rfl dX1_allLeft_23 rfl)) (m_lf_all (o_iinc C dX1_allLeft_24 rfl))) (m_bt_all (m_lf_all (o_goto C dX1_allLeft_27 rfl)) (m_bt_all (m_lf_all (o_iload_n C (i := 1) rfl dX1_allLeft_30 rfl)) (m_lf_all (o_iret C hr dX1_allLeft_31)))))))
set_option maxRecDepth 20000 in
def kX2_comersOf : m_C := m_bt 19 (m_bt 8 (m_bt 2 (m_bt 1 (m_lf 0 (s_ald 1 0)) (m_lf 1 (s_ild 2 1))) (m_bt 5 (m_lf 2 (s_callV 5 2 2 wX2_hasSort)) (m_lf 5 (s_if 8 28 (fun x => x = 0))))) (m_bt 12 (m_bt 9 (m_lf 8 (s_ild 9 2)) (m_lf 9 (s_callS 12 1 wX8_isQuarter))) (m_bt 15 (m_lf 12 (s_if 15 28 (fun x => x = 0))) (m_bt 16 (m_lf 15 (s_ald 16 0)) (m_lf 16 (s_get 19 2 4)))))) (m_bt 23 (m_bt 21 (m_bt 20 (m_lf 19 (s_ild 20 1)) (m_lf 20 (s_push 21 (.inl (4))))) (m_bt 22 (m_lf 21 (s_bin 22 (fun x y => m_wrap (x * y)))) (m_lf 22 (s_ild 23 2)))) (m_bt 25 (m_bt 24 (m_lf 23 (s_bin 24 (fun x y => m_wrap (x + y)))) (m_lf 24 (s_iald 25))) (m_bt 28 (m_lf 25 (s_goto 29)) (m_bt 29 (m_lf 28 (s_push 29 (.inl (0)))) (m_lf 29 (s_ret))))))
theorem kX2_comersOf_0 : kX2_comersOf 0 = some (s_ald 1 0) := rfl
theorem kX2_comersOf_1 : kX2_comersOf 1 = some (s_ild 2 1) := rfl
theorem kX2_comersOf_2 : kX2_comersOf 2 = some (s_callV 5 2 2 wX2_hasSort) := rfl
theorem kX2_comersOf_5 : kX2_comersOf 5 = some (s_if 8 28 (fun x => x = 0)) := rfl
theorem kX2_comersOf_8 : kX2_comersOf 8 = some (s_ild 9 2) := rfl
theorem kX2_comersOf_9 : kX2_comersOf 9 = some (s_callS 12 1 wX8_isQuarter) := rfl
theorem kX2_comersOf_12 : kX2_comersOf 12 = some (s_if 15 28 (fun x => x = 0)) := rfl
theorem kX2_comersOf_15 : kX2_comersOf 15 = some (s_ald 16 0) := rfl
theorem kX2_comersOf_16 : kX2_comersOf 16 = some (s_get 19 2 4) := rfl
theorem kX2_comersOf_19 : kX2_comersOf 19 = some (s_ild 20 1) := rfl
theorem kX2_comersOf_20 : kX2_comersOf 20 = some (s_push 21 (.inl (4))) := rfl
theorem kX2_comersOf_21 : kX2_comersOf 21 = some (s_bin 22 (fun x y => m_wrap (x * y))) := rfl
theorem kX2_comersOf_22 : kX2_comersOf 22 = some (s_ild 23 2) := rfl
theorem kX2_comersOf_23 : kX2_comersOf 23 = some (s_bin 24 (fun x y => m_wrap (x + y))) := rfl
theorem kX2_comersOf_24 : kX2_comersOf 24 = some (s_iald 25) := rfl
theorem kX2_comersOf_25 : kX2_comersOf 25 = some (s_goto 29) := rfl
theorem kX2_comersOf_28 : kX2_comersOf 28 = some (s_push 29 (.inl (0))) := rfl
theorem kX2_comersOf_29 : kX2_comersOf 29 = some (s_ret) := rfl
def wX2_comersOf : m_GK := m_wp 3 kX2_comersOf
set_option maxRecDepth 100000 in
set_option maxHeartbeats 4000000 in
theorem sX2_comersOf (l : Launch) (X : m_X) (hX : m_inj X.1) : m_Sound l X 2 yX2_comersOf cX2_comersOf 3 (some .int) wX2_comersOf := m_sound_of hX (by decide) (fun p e s m args below meth c q C hr => m_bt_all (m_bt_all (m_bt_all (m_bt_all (m_lf_all (o_aload_n C (i := 0) rfl dX2_comersOf_0 rfl)) (m_lf_all (o_iload_n C (i := 1) rfl dX2_comersOf_1 rfl))) (m_bt_all (m_lf_all (o_callV C (T := TX2) (N := 8) (sX2_hasSort l X hX) rfl (m_in_of [532, 533, 534, 73] (by decide +kernel) (by decide +kernel)) (m_tb_of 535 (by decide +kernel) rfl) (by decide +kernel) rfl ⟨Nat.le_of_ble_eq_true rfl, Nat.le_of_ble_eq_true rfl⟩ dX2_comersOf_2 rfl)) (m_lf_all (o_if_eq C dX2_comersOf_5 rfl rfl)))) (m_bt_all (m_bt_all (m_lf_all (o_iload_n C (i := 2) rfl dX2_comersOf_8 rfl)) (m_lf_all (o_callN C (sX8_isQuarter l X hX) (fun h => h.2.1.2.1) (m_in_of [530, 72] (by decide +kernel) (by decide +kernel)) (m_tb_of 531 (by decide +kernel) rfl) (by decide +kernel) ⟨Nat.le_of_ble_eq_true rfl, Nat.le_of_ble_eq_true rfl⟩ dX2_comersOf_9 rfl))) (m_bt_all (m_lf_all (o_if_eq C dX2_comersOf_12 rfl rfl)) (m_bt_all (m_lf_all (o_aload_n C (i := 0) rfl dX2_comersOf_15 rfl)) (m_lf_all (o_get C (ci := 2) (k := 4) (N := 8) (rf := RX2) (T := TX2) rfl ginX2 (Nat.le_of_ble_eq_true rfl) (m_tb_of 122 (by decide +kernel) rfl) dX2_comersOf_16 rfl)))))) (m_bt_all (m_bt_all (m_bt_all (m_lf_all (o_iload_n C (i := 1) rfl dX2_comersOf_19 rfl)) (m_lf_all (o_iconst C (x := (4)) (m_rngd rfl) dX2_comersOf_20 rfl))) (m_bt_all (m_lf_all (o_imul C dX2_comersOf_21 rfl)) (m_lf_all (o_iload_n C (i := 2) rfl dX2_comersOf_22 rfl)))) (m_bt_all (m_bt_all (m_lf_all (o_iadd C dX2_comersOf_23 rfl)) (m_lf_all (o_iald C dX2_comersOf_24 rfl))) (m_bt_all (m_lf_all (o_goto C dX2_comersOf_25 rfl)) (m_bt_all (m_lf_all (o_iconst C (x := (0)) (m_rngd rfl) dX2_comersOf_28 rfl)) (m_lf_all (o_iret C hr dX2_comersOf_29)))))))
set_option maxRecDepth 20000 in
def kX1_keptOf : m_C := m_bt 16 (m_bt 6 (m_bt 3 (m_bt 1 (m_lf 0 (s_push 1 (.inl (0)))) (m_bt 2 (m_lf 1 (s_ist 2 2)) (m_lf 2 (s_push 3 (.inl (0)))))) (m_bt 4 (m_lf 3 (s_ist 4 3)) (m_bt 5 (m_lf 4 (s_ild 5 3)) (m_lf 5 (s_push 6 (.inl (4))))))) (m_bt 11 (m_bt 9 (m_lf 6 (s_icmp 9 27 (fun x y => y ≤ x))) (m_bt 10 (m_lf 9 (s_ild 10 2)) (m_lf 10 (s_ald 11 0)))) (m_bt 14 (m_lf 11 (s_get 14 1 7)) (m_bt 15 (m_lf 14 (s_ild 15 1)) (m_lf 15 (s_ild 16 3)))))) (m_bt 28 (m_bt 21 (m_bt 19 (m_lf 16 (s_callV 19 3 2 wX2_comersOf)) (m_bt 20 (m_lf 19 (s_bin 20 (fun x y => m_wrap (x + y)))) (m_lf 20 (s_ist 21 2)))) (m_bt 24 (m_lf 21 (s_inc 24 3 (1))) (m_bt 27 (m_lf 24 (s_goto 4)) (m_lf 27 (s_ild 28 2))))) (m_bt 33 (m_bt 29 (m_lf 28 (s_ald 29 0)) (m_bt 32 (m_lf 29 (s_get 32 1 2)) (m_lf 32 (s_ild 33 1)))) (m_bt 34 (m_lf 33 (s_iald 34)) (m_bt 35 (m_lf 34 (s_bin 35 (fun x y => m_wrap (x - y)))) (m_lf 35 (s_ret))))))
theorem kX1_keptOf_0 : kX1_keptOf 0 = some (s_push 1 (.inl (0))) := rfl
theorem kX1_keptOf_1 : kX1_keptOf 1 = some (s_ist 2 2) := rfl
theorem kX1_keptOf_2 : kX1_keptOf 2 = some (s_push 3 (.inl (0))) := rfl
theorem kX1_keptOf_3 : kX1_keptOf 3 = some (s_ist 4 3) := rfl
theorem kX1_keptOf_4 : kX1_keptOf 4 = some (s_ild 5 3) := rfl
theorem kX1_keptOf_5 : kX1_keptOf 5 = some (s_push 6 (.inl (4))) := rfl
theorem kX1_keptOf_6 : kX1_keptOf 6 = some (s_icmp 9 27 (fun x y => y ≤ x)) := rfl
theorem kX1_keptOf_9 : kX1_keptOf 9 = some (s_ild 10 2) := rfl
theorem kX1_keptOf_10 : kX1_keptOf 10 = some (s_ald 11 0) := rfl
theorem kX1_keptOf_11 : kX1_keptOf 11 = some (s_get 14 1 7) := rfl
theorem kX1_keptOf_14 : kX1_keptOf 14 = some (s_ild 15 1) := rfl
theorem kX1_keptOf_15 : kX1_keptOf 15 = some (s_ild 16 3) := rfl
theorem kX1_keptOf_16 : kX1_keptOf 16 = some (s_callV 19 3 2 wX2_comersOf) := rfl
theorem kX1_keptOf_19 : kX1_keptOf 19 = some (s_bin 20 (fun x y => m_wrap (x + y))) := rfl
theorem kX1_keptOf_20 : kX1_keptOf 20 = some (s_ist 21 2) := rfl
theorem kX1_keptOf_21 : kX1_keptOf 21 = some (s_inc 24 3 (1)) := rfl
theorem kX1_keptOf_24 : kX1_keptOf 24 = some (s_goto 4) := rfl
theorem kX1_keptOf_27 : kX1_keptOf 27 = some (s_ild 28 2) := rfl
theorem kX1_keptOf_28 : kX1_keptOf 28 = some (s_ald 29 0) := rfl
theorem kX1_keptOf_29 : kX1_keptOf 29 = some (s_get 32 1 2) := rfl
theorem kX1_keptOf_32 : kX1_keptOf 32 = some (s_ild 33 1) := rfl
theorem kX1_keptOf_33 : kX1_keptOf 33 = some (s_iald 34) := rfl
theorem kX1_keptOf_34 : kX1_keptOf 34 = some (s_bin 35 (fun x y => m_wrap (x - y))) := rfl
theorem kX1_keptOf_35 : kX1_keptOf 35 = some (s_ret) := rfl
def wX1_keptOf : m_GK := m_wp 4 kX1_keptOf
set_option maxRecDepth 100000 in
set_option maxHeartbeats 4000000 in
theorem sX1_keptOf (l : Launch) (X : m_X) (hX : m_inj X.1) : m_Sound l X 3 yX1_keptOf cX1_keptOf 4 (some .int) wX1_keptOf := m_sound_of hX (by decide) (fun p e s m args below meth c q C hr => m_bt_all (m_bt_all (m_bt_all (m_bt_all (m_lf_all (o_iconst C (x := (0)) (m_rngd rfl) dX1_keptOf_0 rfl)) (m_bt_all (m_lf_all (o_istore_n C (i := 2) rfl dX1_keptOf_1 rfl)) (m_lf_all (o_iconst C (x := (0)) (m_rngd rfl) dX1_keptOf_2 rfl)))) (m_bt_all (m_lf_all (o_istore_n C (i := 3) rfl dX1_keptOf_3 rfl)) (m_bt_all (m_lf_all (o_iload_n C (i := 3) rfl dX1_keptOf_4 rfl)) (m_lf_all (o_iconst C (x := (4)) (m_rngd rfl) dX1_keptOf_5 rfl))))) (m_bt_all (m_bt_all (m_lf_all (o_icmp_ge C dX1_keptOf_6 rfl rfl)) (m_bt_all (m_lf_all (o_iload_n C (i := 2) rfl dX1_keptOf_9 rfl)) (m_lf_all (o_aload_n C (i := 0) rfl dX1_keptOf_10 rfl)))) (m_bt_all (m_lf_all (o_get C (ci := 1) (k := 7) (N := 11) (rf := RX1) (T := TX1) rfl ginX1 (Nat.le_of_ble_eq_true rfl) (m_tb_of 293 (by decide +kernel) rfl) dX1_keptOf_11 rfl)) (m_bt_all (m_lf_all (o_iload_n C (i := 1) rfl dX1_keptOf_14 rfl)) (m_lf_all (o_iload_n C (i := 3) rfl dX1_keptOf_15 rfl)))))) (m_bt_all (m_bt_all (m_bt_all (m_lf_all (o_callV C (T := TX2) (N := 8) (sX2_comersOf l X hX) rfl (m_in_of [746, 559, 560, 73] (by decide +kernel) (by decide +kernel)) (m_tb_of 561 (by decide +kernel) rfl) (by decide +kernel) rfl ⟨Nat.le_of_ble_eq_true rfl, Nat.le_of_ble_eq_true rfl⟩ dX1_keptOf_16 rfl)) (m_bt_all (m_lf_all (o_iadd C dX1_keptOf_19 rfl)) (m_lf_all (o_istore_n C (i := 2) rfl dX1_keptOf_20 rfl)))) (m_bt_all (m_lf_all (o_iinc C dX1_keptOf_21 rfl)) (m_bt_all (m_lf_all (o_goto C dX1_keptOf_24 rfl)) (m_lf_all (o_iload_n C (i := 2) rfl dX1_keptOf_27 rfl))))) (m_bt_all (m_bt_all (m_lf_all (o_aload_n C (i := 0) rfl dX1_keptOf_28 rfl)) (m_bt_all (m_lf_all (o_get C (ci := 1) (k := 2) (N := 11) (rf := RX1) (T := TX1) rfl ginX1 (Nat.le_of_ble_eq_true rfl) (m_tb_of 284 (by decide +kernel) rfl) dX1_keptOf_29 rfl)) (m_lf_all (o_iload_n C (i := 1) rfl dX1_keptOf_32 rfl)))) (m_bt_all (m_lf_all (o_iald C dX1_keptOf_33 rfl)) (m_bt_all (m_lf_all (o_isub C dX1_keptOf_34 rfl)) (m_lf_all (o_iret C hr dX1_keptOf_35)))))))
set_option maxRecDepth 20000 in
def kX1_meanOf : m_C := m_bt 12 (m_bt 6 (m_bt 2 (m_bt 1 (m_lf 0 (s_ald 1 0)) (m_lf 1 (s_ild 2 1))) (m_bt 5 (m_lf 2 (s_callV 5 2 1 wX1_keptOf)) (m_lf 5 (s_ist 6 2)))) (m_bt 8 (m_bt 7 (m_lf 6 (s_ild 7 2)) (m_lf 7 (s_push 8 (.inl (1))))) (m_bt 11 (m_lf 8 (s_icmp 11 15 (fun x y => y ≤ x))) (m_lf 11 (s_push 12 (.inl (0))))))) (m_bt 20 (m_bt 16 (m_bt 15 (m_lf 12 (s_goto 23)) (m_lf 15 (s_ald 16 0))) (m_bt 19 (m_lf 16 (s_get 19 1 0)) (m_lf 19 (s_ild 20 1)))) (m_bt 22 (m_bt 21 (m_lf 20 (s_iald 21)) (m_lf 21 (s_ild 22 2))) (m_bt 23 (m_lf 22 (s_div 23)) (m_lf 23 (s_ret)))))
theorem kX1_meanOf_0 : kX1_meanOf 0 = some (s_ald 1 0) := rfl
theorem kX1_meanOf_1 : kX1_meanOf 1 = some (s_ild 2 1) := rfl
theorem kX1_meanOf_2 : kX1_meanOf 2 = some (s_callV 5 2 1 wX1_keptOf) := rfl
theorem kX1_meanOf_5 : kX1_meanOf 5 = some (s_ist 6 2) := rfl
theorem kX1_meanOf_6 : kX1_meanOf 6 = some (s_ild 7 2) := rfl
theorem kX1_meanOf_7 : kX1_meanOf 7 = some (s_push 8 (.inl (1))) := rfl
theorem kX1_meanOf_8 : kX1_meanOf 8 = some (s_icmp 11 15 (fun x y => y ≤ x)) := rfl
theorem kX1_meanOf_11 : kX1_meanOf 11 = some (s_push 12 (.inl (0))) := rfl
theorem kX1_meanOf_12 : kX1_meanOf 12 = some (s_goto 23) := rfl
theorem kX1_meanOf_15 : kX1_meanOf 15 = some (s_ald 16 0) := rfl
theorem kX1_meanOf_16 : kX1_meanOf 16 = some (s_get 19 1 0) := rfl
theorem kX1_meanOf_19 : kX1_meanOf 19 = some (s_ild 20 1) := rfl
theorem kX1_meanOf_20 : kX1_meanOf 20 = some (s_iald 21) := rfl
theorem kX1_meanOf_21 : kX1_meanOf 21 = some (s_ild 22 2) := rfl
theorem kX1_meanOf_22 : kX1_meanOf 22 = some (s_div 23) := rfl
theorem kX1_meanOf_23 : kX1_meanOf 23 = some (s_ret) := rfl
def wX1_meanOf : m_GK := m_wp 3 kX1_meanOf
set_option maxRecDepth 100000 in
set_option maxHeartbeats 4000000 in
theorem sX1_meanOf (l : Launch) (X : m_X) (hX : m_inj X.1) : m_Sound l X 4 yX1_meanOf cX1_meanOf 3 (some .int) wX1_meanOf := m_sound_of hX (by decide) (fun p e s m args below meth c q C hr => m_bt_all (m_bt_all (m_bt_all (m_bt_all (m_lf_all (o_aload_n C (i := 0) rfl dX1_meanOf_0 rfl)) (m_lf_all (o_iload_n C (i := 1) rfl dX1_meanOf_1 rfl))) (m_bt_all (m_lf_all (o_callV C (T := TX1) (N := 11) (sX1_keptOf l X hX) rfl (m_in_of [897, 743, 744, 75] (by decide +kernel) (by decide +kernel)) (m_tb_of 745 (by decide +kernel) rfl) (by decide +kernel) rfl ⟨Nat.le_of_ble_eq_true rfl, Nat.le_of_ble_eq_true rfl⟩ dX1_meanOf_2 rfl)) (m_lf_all (o_istore_n C (i := 2) rfl dX1_meanOf_5 rfl)))) (m_bt_all (m_bt_all (m_lf_all (o_iload_n C (i := 2) rfl dX1_meanOf_6 rfl)) (m_lf_all (o_iconst C (x := (1)) (m_rngd rfl) dX1_meanOf_7 rfl))) (m_bt_all (m_lf_all (o_icmp_ge C dX1_meanOf_8 rfl rfl)) (m_lf_all (o_iconst C (x := (0)) (m_rngd rfl) dX1_meanOf_11 rfl))))) (m_bt_all (m_bt_all (m_bt_all (m_lf_all (o_goto C dX1_meanOf_12 rfl)) (m_lf_all (o_aload_n C (i := 0) rfl dX1_meanOf_15 rfl))) (m_bt_all (m_lf_all (o_get C (ci := 1) (k := 0) (N := 11) (rf := RX1) (T := TX1) rfl ginX1 (Nat.le_of_ble_eq_true rfl) (m_tb_of 280 (by decide +kernel) rfl) dX1_meanOf_16 rfl)) (m_lf_all (o_iload_n C (i := 1) rfl dX1_meanOf_19 rfl)))) (m_bt_all (m_bt_all (m_lf_all (o_iald C dX1_meanOf_20 rfl)) (m_lf_all (o_iload_n C (i := 2) rfl dX1_meanOf_21 rfl))) (m_bt_all (m_lf_all (o_idiv C dX1_meanOf_22 rfl)) (m_lf_all (o_iret C hr dX1_meanOf_23))))))
set_option maxRecDepth 20000 in
def kX2_copy : m_C := m_bt 50 (m_bt 26 (m_bt 13 (m_bt 5 (m_bt 1 (m_lf 0 (s_ald 1 0)) (m_bt 2 (m_lf 1 (s_ald 2 1)) (m_lf 2 (s_get 5 2 0)))) (m_bt 9 (m_bt 8 (m_lf 5 (s_put 8 2 0)) (m_lf 8 (s_ald 9 0))) (m_bt 10 (m_lf 9 (s_ald 10 1)) (m_lf 10 (s_get 13 2 1))))) (m_bt 20 (m_bt 16 (m_lf 13 (s_put 16 2 1)) (m_bt 17 (m_lf 16 (s_ald 17 1)) (m_lf 17 (s_get 20 2 2)))) (m_bt 22 (m_bt 21 (m_lf 20 (s_push 21 (.inl (0)))) (m_lf 21 (s_ald 22 0))) (m_bt 25 (m_lf 22 (s_get 25 2 2)) (m_lf 25 (s_push 26 (.inl (0)))))))) (m_bt 39 (m_bt 31 (m_bt 27 (m_lf 26 (s_push 27 (.inl (5)))) (m_bt 30 (m_lf 27 (s_copy 30)) (m_lf 30 (s_ald 31 1)))) (m_bt 35 (m_bt 34 (m_lf 31 (s_get 34 2 3)) (m_lf 34 (s_push 35 (.inl (0))))) (m_bt 36 (m_lf 35 (s_ald 36 0)) (m_lf 36 (s_get 39 2 3))))) (m_bt 44 (m_bt 40 (m_lf 39 (s_push 40 (.inl (0)))) (m_bt 41 (m_lf 40 (s_push 41 (.inl (5)))) (m_lf 41 (s_copy 44)))) (m_bt 48 (m_bt 45 (m_lf 44 (s_ald 45 1)) (m_lf 45 (s_get 48 2 4))) (m_bt 49 (m_lf 48 (s_push 49 (.inl (0)))) (m_lf 49 (s_ald 50 0))))))) (m_bt 78 (m_bt 64 (m_bt 56 (m_bt 53 (m_lf 50 (s_get 53 2 4)) (m_bt 54 (m_lf 53 (s_push 54 (.inl (0)))) (m_lf 54 (s_push 56 (.inl (20)))))) (m_bt 60 (m_bt 59 (m_lf 56 (s_copy 59)) (m_lf 59 (s_ald 60 1))) (m_bt 63 (m_lf 60 (s_get 63 2 5)) (m_lf 63 (s_push 64 (.inl (0))))))) (m_bt 69 (m_bt 65 (m_lf 64 (s_ald 65 0)) (m_bt 68 (m_lf 65 (s_get 68 2 5)) (m_lf 68 (s_push 69 (.inl (0)))))) (m_bt 74 (m_bt 71 (m_lf 69 (s_push 71 (.inl (20)))) (m_lf 71 (s_copy 74))) (m_bt 75 (m_lf 74 (s_ald 75 1)) (m_lf 75 (s_get 78 2 6)))))) (m_bt 90 (m_bt 83 (m_bt 79 (m_lf 78 (s_push 79 (.inl (0)))) (m_bt 80 (m_lf 79 (s_ald 80 0)) (m_lf 80 (s_get 83 2 6)))) (m_bt 86 (m_bt 84 (m_lf 83 (s_push 84 (.inl (0)))) (m_lf 84 (s_push 86 (.inl (24))))) (m_bt 89 (m_lf 86 (s_copy 89)) (m_lf 89 (s_ald 90 1))))) (m_bt 98 (m_bt 94 (m_bt 93 (m_lf 90 (s_get 93 2 7)) (m_lf 93 (s_push 94 (.inl (0))))) (m_bt 95 (m_lf 94 (s_ald 95 0)) (m_lf 95 (s_get 98 2 7)))) (m_bt 101 (m_bt 99 (m_lf 98 (s_push 99 (.inl (0)))) (m_lf 99 (s_push 101 (.inl (8))))) (m_bt 104 (m_lf 101 (s_copy 104)) (m_lf 104 (s_retv)))))))
theorem kX2_copy_0 : kX2_copy 0 = some (s_ald 1 0) := rfl
theorem kX2_copy_1 : kX2_copy 1 = some (s_ald 2 1) := rfl
theorem kX2_copy_2 : kX2_copy 2 = some (s_get 5 2 0) := rfl
theorem kX2_copy_5 : kX2_copy 5 = some (s_put 8 2 0) := rfl
theorem kX2_copy_8 : kX2_copy 8 = some (s_ald 9 0) := rfl
theorem kX2_copy_9 : kX2_copy 9 = some (s_ald 10 1) := rfl
theorem kX2_copy_10 : kX2_copy 10 = some (s_get 13 2 1) := rfl
theorem kX2_copy_13 : kX2_copy 13 = some (s_put 16 2 1) := rfl
theorem kX2_copy_16 : kX2_copy 16 = some (s_ald 17 1) := rfl
theorem kX2_copy_17 : kX2_copy 17 = some (s_get 20 2 2) := rfl
theorem kX2_copy_20 : kX2_copy 20 = some (s_push 21 (.inl (0))) := rfl
theorem kX2_copy_21 : kX2_copy 21 = some (s_ald 22 0) := rfl
theorem kX2_copy_22 : kX2_copy 22 = some (s_get 25 2 2) := rfl
theorem kX2_copy_25 : kX2_copy 25 = some (s_push 26 (.inl (0))) := rfl
theorem kX2_copy_26 : kX2_copy 26 = some (s_push 27 (.inl (5))) := rfl
theorem kX2_copy_27 : kX2_copy 27 = some (s_copy 30) := rfl
theorem kX2_copy_30 : kX2_copy 30 = some (s_ald 31 1) := rfl
theorem kX2_copy_31 : kX2_copy 31 = some (s_get 34 2 3) := rfl
theorem kX2_copy_34 : kX2_copy 34 = some (s_push 35 (.inl (0))) := rfl
theorem kX2_copy_35 : kX2_copy 35 = some (s_ald 36 0) := rfl
theorem kX2_copy_36 : kX2_copy 36 = some (s_get 39 2 3) := rfl
theorem kX2_copy_39 : kX2_copy 39 = some (s_push 40 (.inl (0))) := rfl
theorem kX2_copy_40 : kX2_copy 40 = some (s_push 41 (.inl (5))) := rfl
theorem kX2_copy_41 : kX2_copy 41 = some (s_copy 44) := rfl
theorem kX2_copy_44 : kX2_copy 44 = some (s_ald 45 1) := rfl
theorem kX2_copy_45 : kX2_copy 45 = some (s_get 48 2 4) := rfl
theorem kX2_copy_48 : kX2_copy 48 = some (s_push 49 (.inl (0))) := rfl
theorem kX2_copy_49 : kX2_copy 49 = some (s_ald 50 0) := rfl
theorem kX2_copy_50 : kX2_copy 50 = some (s_get 53 2 4) := rfl
theorem kX2_copy_53 : kX2_copy 53 = some (s_push 54 (.inl (0))) := rfl
theorem kX2_copy_54 : kX2_copy 54 = some (s_push 56 (.inl (20))) := rfl
theorem kX2_copy_56 : kX2_copy 56 = some (s_copy 59) := rfl
theorem kX2_copy_59 : kX2_copy 59 = some (s_ald 60 1) := rfl
theorem kX2_copy_60 : kX2_copy 60 = some (s_get 63 2 5) := rfl
theorem kX2_copy_63 : kX2_copy 63 = some (s_push 64 (.inl (0))) := rfl
theorem kX2_copy_64 : kX2_copy 64 = some (s_ald 65 0) := rfl
theorem kX2_copy_65 : kX2_copy 65 = some (s_get 68 2 5) := rfl
theorem kX2_copy_68 : kX2_copy 68 = some (s_push 69 (.inl (0))) := rfl
theorem kX2_copy_69 : kX2_copy 69 = some (s_push 71 (.inl (20))) := rfl
theorem kX2_copy_71 : kX2_copy 71 = some (s_copy 74) := rfl
theorem kX2_copy_74 : kX2_copy 74 = some (s_ald 75 1) := rfl
theorem kX2_copy_75 : kX2_copy 75 = some (s_get 78 2 6) := rfl
theorem kX2_copy_78 : kX2_copy 78 = some (s_push 79 (.inl (0))) := rfl
theorem kX2_copy_79 : kX2_copy 79 = some (s_ald 80 0) := rfl
theorem kX2_copy_80 : kX2_copy 80 = some (s_get 83 2 6) := rfl
theorem kX2_copy_83 : kX2_copy 83 = some (s_push 84 (.inl (0))) := rfl
theorem kX2_copy_84 : kX2_copy 84 = some (s_push 86 (.inl (24))) := rfl
theorem kX2_copy_86 : kX2_copy 86 = some (s_copy 89) := rfl
theorem kX2_copy_89 : kX2_copy 89 = some (s_ald 90 1) := rfl
theorem kX2_copy_90 : kX2_copy 90 = some (s_get 93 2 7) := rfl
theorem kX2_copy_93 : kX2_copy 93 = some (s_push 94 (.inl (0))) := rfl
theorem kX2_copy_94 : kX2_copy 94 = some (s_ald 95 0) := rfl
theorem kX2_copy_95 : kX2_copy 95 = some (s_get 98 2 7) := rfl
theorem kX2_copy_98 : kX2_copy 98 = some (s_push 99 (.inl (0))) := rfl
theorem kX2_copy_99 : kX2_copy 99 = some (s_push 101 (.inl (8))) := rfl
theorem kX2_copy_101 : kX2_copy 101 = some (s_copy 104) := rfl
theorem kX2_copy_104 : kX2_copy 104 = some (s_retv) := rfl
def wX2_copy : m_GK := m_wp 2 kX2_copy
set_option maxRecDepth 100000 in
set_option maxHeartbeats 4000000 in
theorem sX2_copy (l : Launch) (X : m_X) (hX : m_inj X.1) : m_Sound l X 1 yX2_copy cX2_copy 2 none wX2_copy := m_sound_of hX (by decide) (fun p e s m args below meth c q C hr => m_bt_all (m_bt_all (m_bt_all (m_bt_all (m_bt_all (m_lf_all (o_aload_n C (i := 0) rfl dX2_copy_0 rfl)) (m_bt_all (m_lf_all (o_aload_n C (i := 1) rfl dX2_copy_1 rfl)) (m_lf_all (o_get C (ci := 2) (k := 0) (N := 8) (rf := RX2) (T := TX2) rfl ginX2 (Nat.le_of_ble_eq_true rfl) (m_tb_of 105 (by decide +kernel) rfl) dX2_copy_2 rfl)))) (m_bt_all (m_bt_all (m_lf_all (o_put C (ci := 2) (k := 0) (N := 8) (rf := RX2) (T := TX2) rfl ginX2 (Nat.le_of_ble_eq_true rfl) (m_tb_of 105 (by decide +kernel) rfl) (ty0 := tyX2) tyX2_ok nmX2 rfl rfl dX2_copy_5 rfl)) (m_lf_all (o_aload_n C (i := 0) rfl dX2_copy_8 rfl))) (m_bt_all (m_lf_all (o_aload_n C (i := 1) rfl dX2_copy_9 rfl)) (m_lf_all (o_get C (ci := 2) (k := 1) (N := 8) (rf := RX2) (T := TX2) rfl ginX2 (Nat.le_of_ble_eq_true rfl) (m_tb_of 110 (by decide +kernel) rfl) dX2_copy_10 rfl))))) (m_bt_all (m_bt_all (m_lf_all (o_put C (ci := 2) (k := 1) (N := 8) (rf := RX2) (T := TX2) rfl ginX2 (Nat.le_of_ble_eq_true rfl) (m_tb_of 110 (by decide +kernel) rfl) (ty0 := tyX2) tyX2_ok nmX2 rfl rfl dX2_copy_13 rfl)) (m_bt_all (m_lf_all (o_aload_n C (i := 1) rfl dX2_copy_16 rfl)) (m_lf_all (o_get C (ci := 2) (k := 2) (N := 8) (rf := RX2) (T := TX2) rfl ginX2 (Nat.le_of_ble_eq_true rfl) (m_tb_of 116 (by decide +kernel) rfl) dX2_copy_17 rfl)))) (m_bt_all (m_bt_all (m_lf_all (o_iconst C (x := (0)) (m_rngd rfl) dX2_copy_20 rfl)) (m_lf_all (o_aload_n C (i := 0) rfl dX2_copy_21 rfl))) (m_bt_all (m_lf_all (o_get C (ci := 2) (k := 2) (N := 8) (rf := RX2) (T := TX2) rfl ginX2 (Nat.le_of_ble_eq_true rfl) (m_tb_of 116 (by decide +kernel) rfl) dX2_copy_22 rfl)) (m_lf_all (o_iconst C (x := (0)) (m_rngd rfl) dX2_copy_25 rfl)))))) (m_bt_all (m_bt_all (m_bt_all (m_lf_all (o_iconst C (x := (5)) (m_rngd rfl) dX2_copy_26 rfl)) (m_bt_all (m_lf_all (o_copy C (m_tb_of 506 (by decide +kernel) rfl) (m_tb_of 508 (by decide +kernel) rfl) (m_tb_of 507 (by decide +kernel) rfl) (m_tb_of 86 (by decide +kernel) rfl) ⟨Nat.le_of_ble_eq_true rfl, Nat.le_of_ble_eq_true rfl⟩ dX2_copy_27 rfl)) (m_lf_all (o_aload_n C (i := 1) rfl dX2_copy_30 rfl)))) (m_bt_all (m_bt_all (m_lf_all (o_get C (ci := 2) (k := 3) (N := 8) (rf := RX2) (T := TX2) rfl ginX2 (Nat.le_of_ble_eq_true rfl) (m_tb_of 119 (by decide +kernel) rfl) dX2_copy_31 rfl)) (m_lf_all (o_iconst C (x := (0)) (m_rngd rfl) dX2_copy_34 rfl))) (m_bt_all (m_lf_all (o_aload_n C (i := 0) rfl dX2_copy_35 rfl)) (m_lf_all (o_get C (ci := 2) (k := 3) (N := 8) (rf := RX2) (T := TX2) rfl ginX2 (Nat.le_of_ble_eq_true rfl) (m_tb_of 119 (by decide +kernel) rfl) dX2_copy_36 rfl))))) (m_bt_all (m_bt_all (m_lf_all (o_iconst C (x := (0)) (m_rngd rfl) dX2_copy_39 rfl)) (m_bt_all (m_lf_all (o_iconst C (x := (5)) (m_rngd rfl) dX2_copy_40 rfl)) (m_lf_all (o_copy C (m_tb_of 506 (by decide +kernel) rfl) (m_tb_of 508 (by decide +kernel) rfl) (m_tb_of 507 (by decide +kernel) rfl) (m_tb_of 86 (by decide +kernel) rfl) ⟨Nat.le_of_ble_eq_true rfl, Nat.le_of_ble_eq_true rfl⟩ dX2_copy_41 rfl)))) (m_bt_all (m_bt_all (m_lf_all (o_aload_n C (i := 1) rfl dX2_copy_44 rfl)) (m_lf_all (o_get C (ci := 2) (k := 4) (N := 8) (rf := RX2) (T := TX2) rfl ginX2 (Nat.le_of_ble_eq_true rfl) (m_tb_of 122 (by decide +kernel) rfl) dX2_copy_45 rfl))) (m_bt_all (m_lf_all (o_iconst C (x := (0)) (m_rngd rfl) dX2_copy_48 rfl)) (m_lf_all (o_aload_n C (i := 0) rfl dX2_copy_49 rfl))))))) (m_bt_all (m_bt_all (m_bt_all (m_bt_all (m_lf_all (o_get C (ci := 2) (k := 4) (N := 8) (rf := RX2) (T := TX2) rfl ginX2 (Nat.le_of_ble_eq_true rfl) (m_tb_of 122 (by decide +kernel) rfl) dX2_copy_50 rfl)) (m_bt_all (m_lf_all (o_iconst C (x := (0)) (m_rngd rfl) dX2_copy_53 rfl)) (m_lf_all (o_bipush C (x := (20)) (m_rngd rfl) rfl dX2_copy_54 rfl)))) (m_bt_all (m_bt_all (m_lf_all (o_copy C (m_tb_of 506 (by decide +kernel) rfl) (m_tb_of 508 (by decide +kernel) rfl) (m_tb_of 507 (by decide +kernel) rfl) (m_tb_of 86 (by decide +kernel) rfl) ⟨Nat.le_of_ble_eq_true rfl, Nat.le_of_ble_eq_true rfl⟩ dX2_copy_56 rfl)) (m_lf_all (o_aload_n C (i := 1) rfl dX2_copy_59 rfl))) (m_bt_all (m_lf_all (o_get C (ci := 2) (k := 5) (N := 8) (rf := RX2) (T := TX2) rfl ginX2 (Nat.le_of_ble_eq_true rfl) (m_tb_of 124 (by decide +kernel) rfl) dX2_copy_60 rfl)) (m_lf_all (o_iconst C (x := (0)) (m_rngd rfl) dX2_copy_63 rfl))))) (m_bt_all (m_bt_all (m_lf_all (o_aload_n C (i := 0) rfl dX2_copy_64 rfl)) (m_bt_all (m_lf_all (o_get C (ci := 2) (k := 5) (N := 8) (rf := RX2) (T := TX2) rfl ginX2 (Nat.le_of_ble_eq_true rfl) (m_tb_of 124 (by decide +kernel) rfl) dX2_copy_65 rfl)) (m_lf_all (o_iconst C (x := (0)) (m_rngd rfl) dX2_copy_68 rfl)))) (m_bt_all (m_bt_all (m_lf_all (o_bipush C (x := (20)) (m_rngd rfl) rfl dX2_copy_69 rfl)) (m_lf_all (o_copy C (m_tb_of 506 (by decide +kernel) rfl) (m_tb_of 508 (by decide +kernel) rfl) (m_tb_of 507 (by decide +kernel) rfl) (m_tb_of 86 (by decide +kernel) rfl) ⟨Nat.le_of_ble_eq_true rfl, Nat.le_of_ble_eq_true rfl⟩ dX2_copy_71 rfl))) (m_bt_all (m_lf_all (o_aload_n C (i := 1) rfl dX2_copy_74 rfl)) (m_lf_all (o_get C (ci := 2) (k := 6) (N := 8) (rf := RX2) (T := TX2) rfl ginX2 (Nat.le_of_ble_eq_true rfl) (m_tb_of 125 (by decide +kernel) rfl) dX2_copy_75 rfl)))))) (m_bt_all (m_bt_all (m_bt_all (m_lf_all (o_iconst C (x := (0)) (m_rngd rfl) dX2_copy_78 rfl)) (m_bt_all (m_lf_all (o_aload_n C (i := 0) rfl dX2_copy_79 rfl)) (m_lf_all (o_get C (ci := 2) (k := 6) (N := 8) (rf := RX2) (T := TX2) rfl ginX2 (Nat.le_of_ble_eq_true rfl) (m_tb_of 125 (by decide +kernel) rfl) dX2_copy_80 rfl)))) (m_bt_all (m_bt_all (m_lf_all (o_iconst C (x := (0)) (m_rngd rfl) dX2_copy_83 rfl)) (m_lf_all (o_bipush C (x := (24)) (m_rngd rfl) rfl dX2_copy_84 rfl))) (m_bt_all (m_lf_all (o_copy C (m_tb_of 506 (by decide +kernel) rfl) (m_tb_of 508 (by decide +kernel) rfl) (m_tb_of 507 (by decide +kernel) rfl) (m_tb_of 86 (by decide +kernel) rfl) ⟨Nat.le_of_ble_eq_true rfl, Nat.le_of_ble_eq_true rfl⟩ dX2_copy_86 rfl)) (m_lf_all (o_aload_n C (i := 1) rfl dX2_copy_89 rfl))))) (m_bt_all (m_bt_all (m_bt_all (m_lf_all (o_get C (ci := 2) (k := 7) (N := 8) (rf := RX2) (T := TX2) rfl ginX2 (Nat.le_of_ble_eq_true rfl) (m_tb_of 126 (by decide +kernel) rfl) dX2_copy_90 rfl)) (m_lf_all (o_iconst C (x := (0)) (m_rngd rfl) dX2_copy_93 rfl))) (m_bt_all (m_lf_all (o_aload_n C (i := 0) rfl dX2_copy_94 rfl)) (m_lf_all (o_get C (ci := 2) (k := 7) (N := 8) (rf := RX2) (T := TX2) rfl ginX2 (Nat.le_of_ble_eq_true rfl) (m_tb_of 126 (by decide +kernel) rfl) dX2_copy_95 rfl)))) (m_bt_all (m_bt_all (m_lf_all (o_iconst C (x := (0)) (m_rngd rfl) dX2_copy_98 rfl)) (m_lf_all (o_bipush C (x := (8)) (m_rngd rfl) rfl dX2_copy_99 rfl))) (m_bt_all (m_lf_all (o_copy C (m_tb_of 506 (by decide +kernel) rfl) (m_tb_of 508 (by decide +kernel) rfl) (m_tb_of 507 (by decide +kernel) rfl) (m_tb_of 86 (by decide +kernel) rfl) ⟨Nat.le_of_ble_eq_true rfl, Nat.le_of_ble_eq_true rfl⟩ dX2_copy_101 rfl)) (m_lf_all (o_vret C hr dX2_copy_104))))))))
set_option maxRecDepth 20000 in
def kX2_addSort : m_C := m_bt 54 (m_bt 30 (m_bt 14 (m_bt 8 (m_bt 4 (m_bt 1 (m_lf 0 (s_ald 1 0)) (m_lf 1 (s_get 4 2 0))) (m_bt 5 (m_lf 4 (s_push 5 (.inl (5)))) (m_lf 5 (s_icmp 8 30 (fun x y => y ≤ x))))) (m_bt 10 (m_bt 9 (m_lf 8 (s_ild 9 1)) (m_lf 9 (s_push 10 (.inl (1))))) (m_bt 13 (m_lf 10 (s_icmp 13 30 (fun x y => x < y))) (m_lf 13 (s_ild 14 1))))) (m_bt 21 (m_bt 19 (m_bt 16 (m_lf 14 (s_push 16 (.inl (60)))) (m_lf 16 (s_icmp 19 30 (fun x y => y < x)))) (m_bt 20 (m_lf 19 (s_ild 20 2)) (m_lf 20 (s_push 21 (.inl (1)))))) (m_bt 25 (m_bt 24 (m_lf 21 (s_icmp 24 30 (fun x y => x < y))) (m_lf 24 (s_ild 25 2))) (m_bt 27 (m_lf 25 (s_push 27 (.inl (99)))) (m_lf 27 (s_icmp 30 32 (fun x y => x ≤ y))))))) (m_bt 42 (m_bt 36 (m_bt 32 (m_bt 31 (m_lf 30 (s_push 31 (.inl (0)))) (m_lf 31 (s_retz))) (m_bt 33 (m_lf 32 (s_ald 33 0)) (m_lf 33 (s_get 36 2 2)))) (m_bt 40 (m_bt 37 (m_lf 36 (s_ald 37 0)) (m_lf 37 (s_get 40 2 0))) (m_bt 41 (m_lf 40 (s_ild 41 1)) (m_lf 41 (s_iast 42))))) (m_bt 50 (m_bt 46 (m_bt 43 (m_lf 42 (s_ald 43 0)) (m_lf 43 (s_get 46 2 3))) (m_bt 47 (m_lf 46 (s_ald 47 0)) (m_lf 47 (s_get 50 2 0)))) (m_bt 52 (m_bt 51 (m_lf 50 (s_ild 51 2)) (m_lf 51 (s_iast 52))) (m_bt 53 (m_lf 52 (s_push 53 (.inl (0)))) (m_lf 53 (s_ist 54 3))))))) (m_bt 78 (m_bt 68 (m_bt 60 (m_bt 56 (m_bt 55 (m_lf 54 (s_ild 55 3)) (m_lf 55 (s_push 56 (.inl (4))))) (m_bt 59 (m_lf 56 (s_icmp 59 93 (fun x y => y ≤ x))) (m_lf 59 (s_ald 60 0)))) (m_bt 64 (m_bt 63 (m_lf 60 (s_get 63 2 4)) (m_lf 63 (s_ald 64 0))) (m_bt 67 (m_lf 64 (s_get 67 2 0)) (m_lf 67 (s_push 68 (.inl (4))))))) (m_bt 72 (m_bt 70 (m_bt 69 (m_lf 68 (s_bin 69 (fun x y => m_wrap (x * y)))) (m_lf 69 (s_ild 70 3))) (m_bt 71 (m_lf 70 (s_bin 71 (fun x y => m_wrap (x + y)))) (m_lf 71 (s_push 72 (.inl (0)))))) (m_bt 74 (m_bt 73 (m_lf 72 (s_iast 73)) (m_lf 73 (s_ald 74 0))) (m_bt 77 (m_lf 74 (s_get 77 2 5)) (m_lf 77 (s_ald 78 0)))))) (m_bt 90 (m_bt 84 (m_bt 82 (m_bt 81 (m_lf 78 (s_get 81 2 0)) (m_lf 81 (s_push 82 (.inl (4))))) (m_bt 83 (m_lf 82 (s_bin 83 (fun x y => m_wrap (x * y)))) (m_lf 83 (s_ild 84 3)))) (m_bt 86 (m_bt 85 (m_lf 84 (s_bin 85 (fun x y => m_wrap (x + y)))) (m_lf 85 (s_push 86 (.inl (0))))) (m_bt 87 (m_lf 86 (s_iast 87)) (m_lf 87 (s_inc 90 3 (1)))))) (m_bt 98 (m_bt 94 (m_bt 93 (m_lf 90 (s_goto 54)) (m_lf 93 (s_ald 94 0))) (m_bt 95 (m_lf 94 (s_dup 95)) (m_lf 95 (s_get 98 2 0)))) (m_bt 100 (m_bt 99 (m_lf 98 (s_push 99 (.inl (1)))) (m_lf 99 (s_bin 100 (fun x y => m_wrap (x + y))))) (m_bt 103 (m_lf 100 (s_put 103 2 0)) (m_bt 104 (m_lf 103 (s_push 104 (.inl (1)))) (m_lf 104 (s_retz))))))))
theorem kX2_addSort_0 : kX2_addSort 0 = some (s_ald 1 0) := rfl
theorem kX2_addSort_1 : kX2_addSort 1 = some (s_get 4 2 0) := rfl
theorem kX2_addSort_4 : kX2_addSort 4 = some (s_push 5 (.inl (5))) := rfl
theorem kX2_addSort_5 : kX2_addSort 5 = some (s_icmp 8 30 (fun x y => y ≤ x)) := rfl
theorem kX2_addSort_8 : kX2_addSort 8 = some (s_ild 9 1) := rfl
theorem kX2_addSort_9 : kX2_addSort 9 = some (s_push 10 (.inl (1))) := rfl
theorem kX2_addSort_10 : kX2_addSort 10 = some (s_icmp 13 30 (fun x y => x < y)) := rfl
theorem kX2_addSort_13 : kX2_addSort 13 = some (s_ild 14 1) := rfl
theorem kX2_addSort_14 : kX2_addSort 14 = some (s_push 16 (.inl (60))) := rfl
theorem kX2_addSort_16 : kX2_addSort 16 = some (s_icmp 19 30 (fun x y => y < x)) := rfl
theorem kX2_addSort_19 : kX2_addSort 19 = some (s_ild 20 2) := rfl
theorem kX2_addSort_20 : kX2_addSort 20 = some (s_push 21 (.inl (1))) := rfl
theorem kX2_addSort_21 : kX2_addSort 21 = some (s_icmp 24 30 (fun x y => x < y)) := rfl
theorem kX2_addSort_24 : kX2_addSort 24 = some (s_ild 25 2) := rfl
theorem kX2_addSort_25 : kX2_addSort 25 = some (s_push 27 (.inl (99))) := rfl
theorem kX2_addSort_27 : kX2_addSort 27 = some (s_icmp 30 32 (fun x y => x ≤ y)) := rfl
theorem kX2_addSort_30 : kX2_addSort 30 = some (s_push 31 (.inl (0))) := rfl
theorem kX2_addSort_31 : kX2_addSort 31 = some (s_retz) := rfl
theorem kX2_addSort_32 : kX2_addSort 32 = some (s_ald 33 0) := rfl
theorem kX2_addSort_33 : kX2_addSort 33 = some (s_get 36 2 2) := rfl
theorem kX2_addSort_36 : kX2_addSort 36 = some (s_ald 37 0) := rfl
theorem kX2_addSort_37 : kX2_addSort 37 = some (s_get 40 2 0) := rfl
theorem kX2_addSort_40 : kX2_addSort 40 = some (s_ild 41 1) := rfl
theorem kX2_addSort_41 : kX2_addSort 41 = some (s_iast 42) := rfl
theorem kX2_addSort_42 : kX2_addSort 42 = some (s_ald 43 0) := rfl
theorem kX2_addSort_43 : kX2_addSort 43 = some (s_get 46 2 3) := rfl
theorem kX2_addSort_46 : kX2_addSort 46 = some (s_ald 47 0) := rfl
theorem kX2_addSort_47 : kX2_addSort 47 = some (s_get 50 2 0) := rfl
theorem kX2_addSort_50 : kX2_addSort 50 = some (s_ild 51 2) := rfl
theorem kX2_addSort_51 : kX2_addSort 51 = some (s_iast 52) := rfl
theorem kX2_addSort_52 : kX2_addSort 52 = some (s_push 53 (.inl (0))) := rfl
theorem kX2_addSort_53 : kX2_addSort 53 = some (s_ist 54 3) := rfl
theorem kX2_addSort_54 : kX2_addSort 54 = some (s_ild 55 3) := rfl
theorem kX2_addSort_55 : kX2_addSort 55 = some (s_push 56 (.inl (4))) := rfl
theorem kX2_addSort_56 : kX2_addSort 56 = some (s_icmp 59 93 (fun x y => y ≤ x)) := rfl
theorem kX2_addSort_59 : kX2_addSort 59 = some (s_ald 60 0) := rfl
theorem kX2_addSort_60 : kX2_addSort 60 = some (s_get 63 2 4) := rfl
theorem kX2_addSort_63 : kX2_addSort 63 = some (s_ald 64 0) := rfl
theorem kX2_addSort_64 : kX2_addSort 64 = some (s_get 67 2 0) := rfl
theorem kX2_addSort_67 : kX2_addSort 67 = some (s_push 68 (.inl (4))) := rfl
theorem kX2_addSort_68 : kX2_addSort 68 = some (s_bin 69 (fun x y => m_wrap (x * y))) := rfl
theorem kX2_addSort_69 : kX2_addSort 69 = some (s_ild 70 3) := rfl
theorem kX2_addSort_70 : kX2_addSort 70 = some (s_bin 71 (fun x y => m_wrap (x + y))) := rfl
theorem kX2_addSort_71 : kX2_addSort 71 = some (s_push 72 (.inl (0))) := rfl
theorem kX2_addSort_72 : kX2_addSort 72 = some (s_iast 73) := rfl
theorem kX2_addSort_73 : kX2_addSort 73 = some (s_ald 74 0) := rfl
theorem kX2_addSort_74 : kX2_addSort 74 = some (s_get 77 2 5) := rfl
theorem kX2_addSort_77 : kX2_addSort 77 = some (s_ald 78 0) := rfl
theorem kX2_addSort_78 : kX2_addSort 78 = some (s_get 81 2 0) := rfl
theorem kX2_addSort_81 : kX2_addSort 81 = some (s_push 82 (.inl (4))) := rfl
theorem kX2_addSort_82 : kX2_addSort 82 = some (s_bin 83 (fun x y => m_wrap (x * y))) := rfl
theorem kX2_addSort_83 : kX2_addSort 83 = some (s_ild 84 3) := rfl
theorem kX2_addSort_84 : kX2_addSort 84 = some (s_bin 85 (fun x y => m_wrap (x + y))) := rfl
theorem kX2_addSort_85 : kX2_addSort 85 = some (s_push 86 (.inl (0))) := rfl
theorem kX2_addSort_86 : kX2_addSort 86 = some (s_iast 87) := rfl
theorem kX2_addSort_87 : kX2_addSort 87 = some (s_inc 90 3 (1)) := rfl
theorem kX2_addSort_90 : kX2_addSort 90 = some (s_goto 54) := rfl
theorem kX2_addSort_93 : kX2_addSort 93 = some (s_ald 94 0) := rfl
theorem kX2_addSort_94 : kX2_addSort 94 = some (s_dup 95) := rfl
theorem kX2_addSort_95 : kX2_addSort 95 = some (s_get 98 2 0) := rfl
theorem kX2_addSort_98 : kX2_addSort 98 = some (s_push 99 (.inl (1))) := rfl
theorem kX2_addSort_99 : kX2_addSort 99 = some (s_bin 100 (fun x y => m_wrap (x + y))) := rfl
theorem kX2_addSort_100 : kX2_addSort 100 = some (s_put 103 2 0) := rfl
theorem kX2_addSort_103 : kX2_addSort 103 = some (s_push 104 (.inl (1))) := rfl
theorem kX2_addSort_104 : kX2_addSort 104 = some (s_retz) := rfl
def wX2_addSort : m_GK := m_wp 4 kX2_addSort
set_option maxRecDepth 100000 in
set_option maxHeartbeats 4000000 in
theorem sX2_addSort (l : Launch) (X : m_X) (hX : m_inj X.1) : m_Sound l X 1 yX2_addSort cX2_addSort 4 (some .boolean) wX2_addSort := m_sound_of hX (by decide) (fun p e s m args below meth c q C hr => m_bt_all (m_bt_all (m_bt_all (m_bt_all (m_bt_all (m_bt_all (m_lf_all (o_aload_n C (i := 0) rfl dX2_addSort_0 rfl)) (m_lf_all (o_get C (ci := 2) (k := 0) (N := 8) (rf := RX2) (T := TX2) rfl ginX2 (Nat.le_of_ble_eq_true rfl) (m_tb_of 105 (by decide +kernel) rfl) dX2_addSort_1 rfl))) (m_bt_all (m_lf_all (o_iconst C (x := (5)) (m_rngd rfl) dX2_addSort_4 rfl)) (m_lf_all (o_icmp_ge C dX2_addSort_5 rfl rfl)))) (m_bt_all (m_bt_all (m_lf_all (o_iload_n C (i := 1) rfl dX2_addSort_8 rfl)) (m_lf_all (o_iconst C (x := (1)) (m_rngd rfl) dX2_addSort_9 rfl))) (m_bt_all (m_lf_all (o_icmp_lt C dX2_addSort_10 rfl rfl)) (m_lf_all (o_iload_n C (i := 1) rfl dX2_addSort_13 rfl))))) (m_bt_all (m_bt_all (m_bt_all (m_lf_all (o_bipush C (x := (60)) (m_rngd rfl) rfl dX2_addSort_14 rfl)) (m_lf_all (o_icmp_gt C dX2_addSort_16 rfl rfl))) (m_bt_all (m_lf_all (o_iload_n C (i := 2) rfl dX2_addSort_19 rfl)) (m_lf_all (o_iconst C (x := (1)) (m_rngd rfl) dX2_addSort_20 rfl)))) (m_bt_all (m_bt_all (m_lf_all (o_icmp_lt C dX2_addSort_21 rfl rfl)) (m_lf_all (o_iload_n C (i := 2) rfl dX2_addSort_24 rfl))) (m_bt_all (m_lf_all (o_bipush C (x := (99)) (m_rngd rfl) rfl dX2_addSort_25 rfl)) (m_lf_all (o_icmp_le C dX2_addSort_27 rfl rfl)))))) (m_bt_all (m_bt_all (m_bt_all (m_bt_all (m_lf_all (o_iconst C (x := (0)) (m_rngd rfl) dX2_addSort_30 rfl)) (m_lf_all (o_zret C hr dX2_addSort_31))) (m_bt_all (m_lf_all (o_aload_n C (i := 0) rfl dX2_addSort_32 rfl)) (m_lf_all (o_get C (ci := 2) (k := 2) (N := 8) (rf := RX2) (T := TX2) rfl ginX2 (Nat.le_of_ble_eq_true rfl) (m_tb_of 116 (by decide +kernel) rfl) dX2_addSort_33 rfl)))) (m_bt_all (m_bt_all (m_lf_all (o_aload_n C (i := 0) rfl dX2_addSort_36 rfl)) (m_lf_all (o_get C (ci := 2) (k := 0) (N := 8) (rf := RX2) (T := TX2) rfl ginX2 (Nat.le_of_ble_eq_true rfl) (m_tb_of 105 (by decide +kernel) rfl) dX2_addSort_37 rfl))) (m_bt_all (m_lf_all (o_iload_n C (i := 1) rfl dX2_addSort_40 rfl)) (m_lf_all (o_iast C dX2_addSort_41 rfl))))) (m_bt_all (m_bt_all (m_bt_all (m_lf_all (o_aload_n C (i := 0) rfl dX2_addSort_42 rfl)) (m_lf_all (o_get C (ci := 2) (k := 3) (N := 8) (rf := RX2) (T := TX2) rfl ginX2 (Nat.le_of_ble_eq_true rfl) (m_tb_of 119 (by decide +kernel) rfl) dX2_addSort_43 rfl))) (m_bt_all (m_lf_all (o_aload_n C (i := 0) rfl dX2_addSort_46 rfl)) (m_lf_all (o_get C (ci := 2) (k := 0) (N := 8) (rf := RX2) (T := TX2) rfl ginX2 (Nat.le_of_ble_eq_true rfl) (m_tb_of 105 (by decide +kernel) rfl) dX2_addSort_47 rfl)))) (m_bt_all (m_bt_all (m_lf_all (o_iload_n C (i := 2) rfl dX2_addSort_50 rfl)) (m_lf_all (o_iast C dX2_addSort_51 rfl))) (m_bt_all (m_lf_all (o_iconst C (x := (0)) (m_rngd rfl) dX2_addSort_52 rfl)) (m_lf_all (o_istore_n C (i := 3) rfl dX2_addSort_53 rfl))))))) (m_bt_all (m_bt_all (m_bt_all (m_bt_all (m_bt_all (m_lf_all (o_iload_n C (i := 3) rfl dX2_addSort_54 rfl)) (m_lf_all (o_iconst C (x := (4)) (m_rngd rfl) dX2_addSort_55 rfl))) (m_bt_all (m_lf_all (o_icmp_ge C dX2_addSort_56 rfl rfl)) (m_lf_all (o_aload_n C (i := 0) rfl dX2_addSort_59 rfl)))) (m_bt_all (m_bt_all (m_lf_all (o_get C (ci := 2) (k := 4) (N := 8) (rf := RX2) (T := TX2) rfl ginX2 (Nat.le_of_ble_eq_true rfl) (m_tb_of 122 (by decide +kernel) rfl) dX2_addSort_60 rfl)) (m_lf_all (o_aload_n C (i := 0) rfl dX2_addSort_63 rfl))) (m_bt_all (m_lf_all (o_get C (ci := 2) (k := 0) (N := 8) (rf := RX2) (T := TX2) rfl ginX2 (Nat.le_of_ble_eq_true rfl) (m_tb_of 105 (by decide +kernel) rfl) dX2_addSort_64 rfl)) (m_lf_all (o_iconst C (x := (4)) (m_rngd rfl) dX2_addSort_67 rfl))))) (m_bt_all (m_bt_all (m_bt_all (m_lf_all (o_imul C dX2_addSort_68 rfl)) (m_lf_all (o_iload_n C (i := 3) rfl dX2_addSort_69 rfl))) (m_bt_all (m_lf_all (o_iadd C dX2_addSort_70 rfl)) (m_lf_all (o_iconst C (x := (0)) (m_rngd rfl) dX2_addSort_71 rfl)))) (m_bt_all (m_bt_all (m_lf_all (o_iast C dX2_addSort_72 rfl)) (m_lf_all (o_aload_n C (i := 0) rfl dX2_addSort_73 rfl))) (m_bt_all (m_lf_all (o_get C (ci := 2) (k := 5) (N := 8) (rf := RX2) (T := TX2) rfl ginX2 (Nat.le_of_ble_eq_true rfl) (m_tb_of 124 (by decide +kernel) rfl) dX2_addSort_74 rfl)) (m_lf_all (o_aload_n C (i := 0) rfl dX2_addSort_77 rfl)))))) (m_bt_all (m_bt_all (m_bt_all (m_bt_all (m_lf_all (o_get C (ci := 2) (k := 0) (N := 8) (rf := RX2) (T := TX2) rfl ginX2 (Nat.le_of_ble_eq_true rfl) (m_tb_of 105 (by decide +kernel) rfl) dX2_addSort_78 rfl)) (m_lf_all (o_iconst C (x := (4)) (m_rngd rfl) dX2_addSort_81 rfl))) (m_bt_all (m_lf_all (o_imul C dX2_addSort_82 rfl)) (m_lf_all (o_iload_n C (i := 3) rfl dX2_addSort_83 rfl)))) (m_bt_all (m_bt_all (m_lf_all (o_iadd C dX2_addSort_84 rfl)) (m_lf_all (o_iconst C (x := (0)) (m_rngd rfl) dX2_addSort_85 rfl))) (m_bt_all (m_lf_all (o_iast C dX2_addSort_86 rfl)) (m_lf_all (o_iinc C dX2_addSort_87 rfl))))) (m_bt_all (m_bt_all (m_bt_all (m_lf_all (o_goto C dX2_addSort_90 rfl)) (m_lf_all (o_aload_n C (i := 0) rfl dX2_addSort_93 rfl))) (m_bt_all (m_lf_all (o_dup C dX2_addSort_94 rfl)) (m_lf_all (o_get C (ci := 2) (k := 0) (N := 8) (rf := RX2) (T := TX2) rfl ginX2 (Nat.le_of_ble_eq_true rfl) (m_tb_of 105 (by decide +kernel) rfl) dX2_addSort_95 rfl)))) (m_bt_all (m_bt_all (m_lf_all (o_iconst C (x := (1)) (m_rngd rfl) dX2_addSort_98 rfl)) (m_lf_all (o_iadd C dX2_addSort_99 rfl))) (m_bt_all (m_lf_all (o_put C (ci := 2) (k := 0) (N := 8) (rf := RX2) (T := TX2) rfl ginX2 (Nat.le_of_ble_eq_true rfl) (m_tb_of 105 (by decide +kernel) rfl) (ty0 := tyX2) tyX2_ok nmX2 rfl rfl dX2_addSort_100 rfl)) (m_bt_all (m_lf_all (o_iconst C (x := (1)) (m_rngd rfl) dX2_addSort_103 rfl)) (m_lf_all (o_zret C hr dX2_addSort_104)))))))))
set_option maxRecDepth 20000 in
def kX2_tellWordAlone : m_C := m_bt 23 (m_bt 13 (m_bt 5 (m_bt 1 (m_lf 0 (s_ild 1 1)) (m_bt 4 (m_lf 1 (s_if 4 12 (fun x => x < 0))) (m_lf 4 (s_ild 5 1)))) (m_bt 9 (m_bt 6 (m_lf 5 (s_ald 6 0)) (m_lf 6 (s_get 9 2 1))) (m_bt 12 (m_lf 9 (s_icmp 12 13 (fun x y => x < y))) (m_lf 12 (s_retv))))) (m_bt 19 (m_bt 17 (m_bt 14 (m_lf 13 (s_ald 14 0)) (m_lf 14 (s_get 17 2 6))) (m_bt 18 (m_lf 17 (s_ild 18 1)) (m_lf 18 (s_push 19 (.inl (4)))))) (m_bt 21 (m_bt 20 (m_lf 19 (s_bin 20 (fun x y => m_wrap (x * y)))) (m_lf 20 (s_ild 21 2))) (m_bt 22 (m_lf 21 (s_iast 22)) (m_lf 22 (s_push 23 (.inl (1)))))))) (m_bt 35 (m_bt 29 (m_bt 25 (m_bt 24 (m_lf 23 (s_ist 24 3)) (m_lf 24 (s_ild 25 3))) (m_bt 26 (m_lf 25 (s_push 26 (.inl (4)))) (m_lf 26 (s_icmp 29 46 (fun x y => y ≤ x))))) (m_bt 33 (m_bt 30 (m_lf 29 (s_ald 30 0)) (m_lf 30 (s_get 33 2 6))) (m_bt 34 (m_lf 33 (s_ild 34 1)) (m_lf 34 (s_push 35 (.inl (4))))))) (m_bt 39 (m_bt 37 (m_bt 36 (m_lf 35 (s_bin 36 (fun x y => m_wrap (x * y)))) (m_lf 36 (s_ild 37 3))) (m_bt 38 (m_lf 37 (s_bin 38 (fun x y => m_wrap (x + y)))) (m_lf 38 (s_push 39 (.inl (-1)))))) (m_bt 43 (m_bt 40 (m_lf 39 (s_iast 40)) (m_lf 40 (s_inc 43 3 (1)))) (m_bt 46 (m_lf 43 (s_goto 24)) (m_lf 46 (s_retv))))))
theorem kX2_tellWordAlone_0 : kX2_tellWordAlone 0 = some (s_ild 1 1) := rfl
theorem kX2_tellWordAlone_1 : kX2_tellWordAlone 1 = some (s_if 4 12 (fun x => x < 0)) := rfl
theorem kX2_tellWordAlone_4 : kX2_tellWordAlone 4 = some (s_ild 5 1) := rfl
theorem kX2_tellWordAlone_5 : kX2_tellWordAlone 5 = some (s_ald 6 0) := rfl
theorem kX2_tellWordAlone_6 : kX2_tellWordAlone 6 = some (s_get 9 2 1) := rfl
theorem kX2_tellWordAlone_9 : kX2_tellWordAlone 9 = some (s_icmp 12 13 (fun x y => x < y)) := rfl
theorem kX2_tellWordAlone_12 : kX2_tellWordAlone 12 = some (s_retv) := rfl
theorem kX2_tellWordAlone_13 : kX2_tellWordAlone 13 = some (s_ald 14 0) := rfl
theorem kX2_tellWordAlone_14 : kX2_tellWordAlone 14 = some (s_get 17 2 6) := rfl
theorem kX2_tellWordAlone_17 : kX2_tellWordAlone 17 = some (s_ild 18 1) := rfl
theorem kX2_tellWordAlone_18 : kX2_tellWordAlone 18 = some (s_push 19 (.inl (4))) := rfl
theorem kX2_tellWordAlone_19 : kX2_tellWordAlone 19 = some (s_bin 20 (fun x y => m_wrap (x * y))) := rfl
theorem kX2_tellWordAlone_20 : kX2_tellWordAlone 20 = some (s_ild 21 2) := rfl
theorem kX2_tellWordAlone_21 : kX2_tellWordAlone 21 = some (s_iast 22) := rfl
theorem kX2_tellWordAlone_22 : kX2_tellWordAlone 22 = some (s_push 23 (.inl (1))) := rfl
theorem kX2_tellWordAlone_23 : kX2_tellWordAlone 23 = some (s_ist 24 3) := rfl
theorem kX2_tellWordAlone_24 : kX2_tellWordAlone 24 = some (s_ild 25 3) := rfl
theorem kX2_tellWordAlone_25 : kX2_tellWordAlone 25 = some (s_push 26 (.inl (4))) := rfl
theorem kX2_tellWordAlone_26 : kX2_tellWordAlone 26 = some (s_icmp 29 46 (fun x y => y ≤ x)) := rfl
theorem kX2_tellWordAlone_29 : kX2_tellWordAlone 29 = some (s_ald 30 0) := rfl
theorem kX2_tellWordAlone_30 : kX2_tellWordAlone 30 = some (s_get 33 2 6) := rfl
theorem kX2_tellWordAlone_33 : kX2_tellWordAlone 33 = some (s_ild 34 1) := rfl
theorem kX2_tellWordAlone_34 : kX2_tellWordAlone 34 = some (s_push 35 (.inl (4))) := rfl
theorem kX2_tellWordAlone_35 : kX2_tellWordAlone 35 = some (s_bin 36 (fun x y => m_wrap (x * y))) := rfl
theorem kX2_tellWordAlone_36 : kX2_tellWordAlone 36 = some (s_ild 37 3) := rfl
theorem kX2_tellWordAlone_37 : kX2_tellWordAlone 37 = some (s_bin 38 (fun x y => m_wrap (x + y))) := rfl
theorem kX2_tellWordAlone_38 : kX2_tellWordAlone 38 = some (s_push 39 (.inl (-1))) := rfl
theorem kX2_tellWordAlone_39 : kX2_tellWordAlone 39 = some (s_iast 40) := rfl
theorem kX2_tellWordAlone_40 : kX2_tellWordAlone 40 = some (s_inc 43 3 (1)) := rfl
theorem kX2_tellWordAlone_43 : kX2_tellWordAlone 43 = some (s_goto 24) := rfl
theorem kX2_tellWordAlone_46 : kX2_tellWordAlone 46 = some (s_retv) := rfl
def wX2_tellWordAlone : m_GK := m_wp 4 kX2_tellWordAlone
set_option maxRecDepth 100000 in
set_option maxHeartbeats 4000000 in
theorem sX2_tellWordAlone (l : Launch) (X : m_X) (hX : m_inj X.1) : m_Sound l X 1 yX2_tellWordAlone cX2_tellWordAlone 4 none wX2_tellWordAlone := m_sound_of hX (by decide) (fun p e s m args below meth c q C hr => m_bt_all (m_bt_all (m_bt_all (m_bt_all (m_lf_all (o_iload_n C (i := 1) rfl dX2_tellWordAlone_0 rfl)) (m_bt_all (m_lf_all (o_if_lt C dX2_tellWordAlone_1 rfl rfl)) (m_lf_all (o_iload_n C (i := 1) rfl dX2_tellWordAlone_4 rfl)))) (m_bt_all (m_bt_all (m_lf_all (o_aload_n C (i := 0) rfl dX2_tellWordAlone_5 rfl)) (m_lf_all (o_get C (ci := 2) (k := 1) (N := 8) (rf := RX2) (T := TX2) rfl ginX2 (Nat.le_of_ble_eq_true rfl) (m_tb_of 110 (by decide +kernel) rfl) dX2_tellWordAlone_6 rfl))) (m_bt_all (m_lf_all (o_icmp_lt C dX2_tellWordAlone_9 rfl rfl)) (m_lf_all (o_vret C hr dX2_tellWordAlone_12))))) (m_bt_all (m_bt_all (m_bt_all (m_lf_all (o_aload_n C (i := 0) rfl dX2_tellWordAlone_13 rfl)) (m_lf_all (o_get C (ci := 2) (k := 6) (N := 8) (rf := RX2) (T := TX2) rfl ginX2 (Nat.le_of_ble_eq_true rfl) (m_tb_of 125 (by decide +kernel) rfl) dX2_tellWordAlone_14 rfl))) (m_bt_all (m_lf_all (o_iload_n C (i := 1) rfl dX2_tellWordAlone_17 rfl)) (m_lf_all (o_iconst C (x := (4)) (m_rngd rfl) dX2_tellWordAlone_18 rfl)))) (m_bt_all (m_bt_all (m_lf_all (o_imul C dX2_tellWordAlone_19 rfl)) (m_lf_all (o_iload_n C (i := 2) rfl dX2_tellWordAlone_20 rfl))) (m_bt_all (m_lf_all (o_iast C dX2_tellWordAlone_21 rfl)) (m_lf_all (o_iconst C (x := (1)) (m_rngd rfl) dX2_tellWordAlone_22 rfl)))))) (m_bt_all (m_bt_all (m_bt_all (m_bt_all (m_lf_all (o_istore_n C (i := 3) rfl dX2_tellWordAlone_23 rfl)) (m_lf_all (o_iload_n C (i := 3) rfl dX2_tellWordAlone_24 rfl))) (m_bt_all (m_lf_all (o_iconst C (x := (4)) (m_rngd rfl) dX2_tellWordAlone_25 rfl)) (m_lf_all (o_icmp_ge C dX2_tellWordAlone_26 rfl rfl)))) (m_bt_all (m_bt_all (m_lf_all (o_aload_n C (i := 0) rfl dX2_tellWordAlone_29 rfl)) (m_lf_all (o_get C (ci := 2) (k := 6) (N := 8) (rf := RX2) (T := TX2) rfl ginX2 (Nat.le_of_ble_eq_true rfl) (m_tb_of 125 (by decide +kernel) rfl) dX2_tellWordAlone_30 rfl))) (m_bt_all (m_lf_all (o_iload_n C (i := 1) rfl dX2_tellWordAlone_33 rfl)) (m_lf_all (o_iconst C (x := (4)) (m_rngd rfl) dX2_tellWordAlone_34 rfl))))) (m_bt_all (m_bt_all (m_bt_all (m_lf_all (o_imul C dX2_tellWordAlone_35 rfl)) (m_lf_all (o_iload_n C (i := 3) rfl dX2_tellWordAlone_36 rfl))) (m_bt_all (m_lf_all (o_iadd C dX2_tellWordAlone_37 rfl)) (m_lf_all (o_iconst C (x := (-1)) (m_rngd rfl) dX2_tellWordAlone_38 rfl)))) (m_bt_all (m_bt_all (m_lf_all (o_iast C dX2_tellWordAlone_39 rfl)) (m_lf_all (o_iinc C dX2_tellWordAlone_40 rfl))) (m_bt_all (m_lf_all (o_goto C dX2_tellWordAlone_43 rfl)) (m_lf_all (o_vret C hr dX2_tellWordAlone_46)))))))
set_option maxRecDepth 20000 in
def kX2_addLane : m_C := m_bt 23 (m_bt 13 (m_bt 6 (m_bt 1 (m_lf 0 (s_ald 1 0)) (m_bt 4 (m_lf 1 (s_get 4 2 1)) (m_lf 4 (s_push 6 (.inl (6)))))) (m_bt 9 (m_lf 6 (s_icmp 9 19 (fun x y => y ≤ x))) (m_bt 10 (m_lf 9 (s_ild 10 1)) (m_lf 10 (s_if 13 19 (fun x => x < 0)))))) (m_bt 19 (m_bt 14 (m_lf 13 (s_ild 14 1)) (m_bt 16 (m_lf 14 (s_push 16 (.inl (31)))) (m_lf 16 (s_icmp 19 21 (fun x y => x ≤ y))))) (m_bt 21 (m_bt 20 (m_lf 19 (s_push 20 (.inl (0)))) (m_lf 20 (s_retz))) (m_bt 22 (m_lf 21 (s_ald 22 0)) (m_lf 22 (s_dup 23)))))) (m_bt 33 (m_bt 28 (m_bt 26 (m_lf 23 (s_get 26 2 1)) (m_bt 27 (m_lf 26 (s_push 27 (.inl (1)))) (m_lf 27 (s_bin 28 (fun x y => m_wrap (x + y)))))) (m_bt 31 (m_lf 28 (s_put 31 2 1)) (m_bt 32 (m_lf 31 (s_ald 32 0)) (m_lf 32 (s_ald 33 0))))) (m_bt 38 (m_bt 36 (m_lf 33 (s_get 36 2 1)) (m_bt 37 (m_lf 36 (s_push 37 (.inl (1)))) (m_lf 37 (s_bin 38 (fun x y => m_wrap (x - y)))))) (m_bt 42 (m_bt 39 (m_lf 38 (s_ild 39 1)) (m_lf 39 (s_callV 42 3 2 wX2_tellWordAlone))) (m_bt 43 (m_lf 42 (s_push 43 (.inl (1)))) (m_lf 43 (s_retz))))))
theorem kX2_addLane_0 : kX2_addLane 0 = some (s_ald 1 0) := rfl
theorem kX2_addLane_1 : kX2_addLane 1 = some (s_get 4 2 1) := rfl
theorem kX2_addLane_4 : kX2_addLane 4 = some (s_push 6 (.inl (6))) := rfl
theorem kX2_addLane_6 : kX2_addLane 6 = some (s_icmp 9 19 (fun x y => y ≤ x)) := rfl
theorem kX2_addLane_9 : kX2_addLane 9 = some (s_ild 10 1) := rfl
theorem kX2_addLane_10 : kX2_addLane 10 = some (s_if 13 19 (fun x => x < 0)) := rfl
theorem kX2_addLane_13 : kX2_addLane 13 = some (s_ild 14 1) := rfl
theorem kX2_addLane_14 : kX2_addLane 14 = some (s_push 16 (.inl (31))) := rfl
theorem kX2_addLane_16 : kX2_addLane 16 = some (s_icmp 19 21 (fun x y => x ≤ y)) := rfl
theorem kX2_addLane_19 : kX2_addLane 19 = some (s_push 20 (.inl (0))) := rfl
theorem kX2_addLane_20 : kX2_addLane 20 = some (s_retz) := rfl
theorem kX2_addLane_21 : kX2_addLane 21 = some (s_ald 22 0) := rfl
theorem kX2_addLane_22 : kX2_addLane 22 = some (s_dup 23) := rfl
theorem kX2_addLane_23 : kX2_addLane 23 = some (s_get 26 2 1) := rfl
theorem kX2_addLane_26 : kX2_addLane 26 = some (s_push 27 (.inl (1))) := rfl
theorem kX2_addLane_27 : kX2_addLane 27 = some (s_bin 28 (fun x y => m_wrap (x + y))) := rfl
theorem kX2_addLane_28 : kX2_addLane 28 = some (s_put 31 2 1) := rfl
theorem kX2_addLane_31 : kX2_addLane 31 = some (s_ald 32 0) := rfl
theorem kX2_addLane_32 : kX2_addLane 32 = some (s_ald 33 0) := rfl
theorem kX2_addLane_33 : kX2_addLane 33 = some (s_get 36 2 1) := rfl
theorem kX2_addLane_36 : kX2_addLane 36 = some (s_push 37 (.inl (1))) := rfl
theorem kX2_addLane_37 : kX2_addLane 37 = some (s_bin 38 (fun x y => m_wrap (x - y))) := rfl
theorem kX2_addLane_38 : kX2_addLane 38 = some (s_ild 39 1) := rfl
theorem kX2_addLane_39 : kX2_addLane 39 = some (s_callV 42 3 2 wX2_tellWordAlone) := rfl
theorem kX2_addLane_42 : kX2_addLane 42 = some (s_push 43 (.inl (1))) := rfl
theorem kX2_addLane_43 : kX2_addLane 43 = some (s_retz) := rfl
def wX2_addLane : m_GK := m_wp 2 kX2_addLane
set_option maxRecDepth 100000 in
set_option maxHeartbeats 4000000 in
theorem sX2_addLane (l : Launch) (X : m_X) (hX : m_inj X.1) : m_Sound l X 2 yX2_addLane cX2_addLane 2 (some .boolean) wX2_addLane := m_sound_of hX (by decide) (fun p e s m args below meth c q C hr => m_bt_all (m_bt_all (m_bt_all (m_bt_all (m_lf_all (o_aload_n C (i := 0) rfl dX2_addLane_0 rfl)) (m_bt_all (m_lf_all (o_get C (ci := 2) (k := 1) (N := 8) (rf := RX2) (T := TX2) rfl ginX2 (Nat.le_of_ble_eq_true rfl) (m_tb_of 110 (by decide +kernel) rfl) dX2_addLane_1 rfl)) (m_lf_all (o_bipush C (x := (6)) (m_rngd rfl) rfl dX2_addLane_4 rfl)))) (m_bt_all (m_lf_all (o_icmp_ge C dX2_addLane_6 rfl rfl)) (m_bt_all (m_lf_all (o_iload_n C (i := 1) rfl dX2_addLane_9 rfl)) (m_lf_all (o_if_lt C dX2_addLane_10 rfl rfl))))) (m_bt_all (m_bt_all (m_lf_all (o_iload_n C (i := 1) rfl dX2_addLane_13 rfl)) (m_bt_all (m_lf_all (o_bipush C (x := (31)) (m_rngd rfl) rfl dX2_addLane_14 rfl)) (m_lf_all (o_icmp_le C dX2_addLane_16 rfl rfl)))) (m_bt_all (m_bt_all (m_lf_all (o_iconst C (x := (0)) (m_rngd rfl) dX2_addLane_19 rfl)) (m_lf_all (o_zret C hr dX2_addLane_20))) (m_bt_all (m_lf_all (o_aload_n C (i := 0) rfl dX2_addLane_21 rfl)) (m_lf_all (o_dup C dX2_addLane_22 rfl)))))) (m_bt_all (m_bt_all (m_bt_all (m_lf_all (o_get C (ci := 2) (k := 1) (N := 8) (rf := RX2) (T := TX2) rfl ginX2 (Nat.le_of_ble_eq_true rfl) (m_tb_of 110 (by decide +kernel) rfl) dX2_addLane_23 rfl)) (m_bt_all (m_lf_all (o_iconst C (x := (1)) (m_rngd rfl) dX2_addLane_26 rfl)) (m_lf_all (o_iadd C dX2_addLane_27 rfl)))) (m_bt_all (m_lf_all (o_put C (ci := 2) (k := 1) (N := 8) (rf := RX2) (T := TX2) rfl ginX2 (Nat.le_of_ble_eq_true rfl) (m_tb_of 110 (by decide +kernel) rfl) (ty0 := tyX2) tyX2_ok nmX2 rfl rfl dX2_addLane_28 rfl)) (m_bt_all (m_lf_all (o_aload_n C (i := 0) rfl dX2_addLane_31 rfl)) (m_lf_all (o_aload_n C (i := 0) rfl dX2_addLane_32 rfl))))) (m_bt_all (m_bt_all (m_lf_all (o_get C (ci := 2) (k := 1) (N := 8) (rf := RX2) (T := TX2) rfl ginX2 (Nat.le_of_ble_eq_true rfl) (m_tb_of 110 (by decide +kernel) rfl) dX2_addLane_33 rfl)) (m_bt_all (m_lf_all (o_iconst C (x := (1)) (m_rngd rfl) dX2_addLane_36 rfl)) (m_lf_all (o_isub C dX2_addLane_37 rfl)))) (m_bt_all (m_bt_all (m_lf_all (o_iload_n C (i := 1) rfl dX2_addLane_38 rfl)) (m_lf_all (o_callV C (T := TX2) (N := 8) (sX2_tellWordAlone l X hX) rfl (m_in_of [521, 522, 523, 73] (by decide +kernel) (by decide +kernel)) (m_tb_of 524 (by decide +kernel) rfl) (by decide +kernel) rfl ⟨Nat.le_of_ble_eq_true rfl, Nat.le_of_ble_eq_true rfl⟩ dX2_addLane_39 rfl))) (m_bt_all (m_lf_all (o_iconst C (x := (1)) (m_rngd rfl) dX2_addLane_42 rfl)) (m_lf_all (o_zret C hr dX2_addLane_43)))))))
set_option maxRecDepth 20000 in
def kX2_tellComers : m_C := m_bt 16 (m_bt 8 (m_bt 2 (m_bt 1 (m_lf 0 (s_ald 1 0)) (m_lf 1 (s_ild 2 1))) (m_bt 5 (m_lf 2 (s_callV 5 2 2 wX2_hasSort)) (m_lf 5 (s_if 8 26 (fun x => x = 0))))) (m_bt 12 (m_bt 9 (m_lf 8 (s_ild 9 2)) (m_lf 9 (s_callS 12 1 wX8_isQuarter))) (m_bt 15 (m_lf 12 (s_if 15 26 (fun x => x = 0))) (m_lf 15 (s_ald 16 0))))) (m_bt 22 (m_bt 20 (m_bt 19 (m_lf 16 (s_get 19 2 4)) (m_lf 19 (s_ild 20 1))) (m_bt 21 (m_lf 20 (s_push 21 (.inl (4)))) (m_lf 21 (s_bin 22 (fun x y => m_wrap (x * y)))))) (m_bt 24 (m_bt 23 (m_lf 22 (s_ild 23 2)) (m_lf 23 (s_bin 24 (fun x y => m_wrap (x + y))))) (m_bt 25 (m_lf 24 (s_ild 25 3)) (m_bt 26 (m_lf 25 (s_iast 26)) (m_lf 26 (s_retv))))))
theorem kX2_tellComers_0 : kX2_tellComers 0 = some (s_ald 1 0) := rfl
theorem kX2_tellComers_1 : kX2_tellComers 1 = some (s_ild 2 1) := rfl
theorem kX2_tellComers_2 : kX2_tellComers 2 = some (s_callV 5 2 2 wX2_hasSort) := rfl
theorem kX2_tellComers_5 : kX2_tellComers 5 = some (s_if 8 26 (fun x => x = 0)) := rfl
theorem kX2_tellComers_8 : kX2_tellComers 8 = some (s_ild 9 2) := rfl
theorem kX2_tellComers_9 : kX2_tellComers 9 = some (s_callS 12 1 wX8_isQuarter) := rfl
theorem kX2_tellComers_12 : kX2_tellComers 12 = some (s_if 15 26 (fun x => x = 0)) := rfl
theorem kX2_tellComers_15 : kX2_tellComers 15 = some (s_ald 16 0) := rfl
theorem kX2_tellComers_16 : kX2_tellComers 16 = some (s_get 19 2 4) := rfl
theorem kX2_tellComers_19 : kX2_tellComers 19 = some (s_ild 20 1) := rfl
theorem kX2_tellComers_20 : kX2_tellComers 20 = some (s_push 21 (.inl (4))) := rfl
theorem kX2_tellComers_21 : kX2_tellComers 21 = some (s_bin 22 (fun x y => m_wrap (x * y))) := rfl
theorem kX2_tellComers_22 : kX2_tellComers 22 = some (s_ild 23 2) := rfl
theorem kX2_tellComers_23 : kX2_tellComers 23 = some (s_bin 24 (fun x y => m_wrap (x + y))) := rfl
theorem kX2_tellComers_24 : kX2_tellComers 24 = some (s_ild 25 3) := rfl
theorem kX2_tellComers_25 : kX2_tellComers 25 = some (s_iast 26) := rfl
theorem kX2_tellComers_26 : kX2_tellComers 26 = some (s_retv) := rfl
def wX2_tellComers : m_GK := m_wp 4 kX2_tellComers
set_option maxRecDepth 100000 in
set_option maxHeartbeats 4000000 in
theorem sX2_tellComers (l : Launch) (X : m_X) (hX : m_inj X.1) : m_Sound l X 2 yX2_tellComers cX2_tellComers 4 none wX2_tellComers := m_sound_of hX (by decide) (fun p e s m args below meth c q C hr => m_bt_all (m_bt_all (m_bt_all (m_bt_all (m_lf_all (o_aload_n C (i := 0) rfl dX2_tellComers_0 rfl)) (m_lf_all (o_iload_n C (i := 1) rfl dX2_tellComers_1 rfl))) (m_bt_all (m_lf_all (o_callV C (T := TX2) (N := 8) (sX2_hasSort l X hX) rfl (m_in_of [532, 533, 534, 73] (by decide +kernel) (by decide +kernel)) (m_tb_of 535 (by decide +kernel) rfl) (by decide +kernel) rfl ⟨Nat.le_of_ble_eq_true rfl, Nat.le_of_ble_eq_true rfl⟩ dX2_tellComers_2 rfl)) (m_lf_all (o_if_eq C dX2_tellComers_5 rfl rfl)))) (m_bt_all (m_bt_all (m_lf_all (o_iload_n C (i := 2) rfl dX2_tellComers_8 rfl)) (m_lf_all (o_callN C (sX8_isQuarter l X hX) (fun h => h.2.1.2.1) (m_in_of [530, 72] (by decide +kernel) (by decide +kernel)) (m_tb_of 531 (by decide +kernel) rfl) (by decide +kernel) ⟨Nat.le_of_ble_eq_true rfl, Nat.le_of_ble_eq_true rfl⟩ dX2_tellComers_9 rfl))) (m_bt_all (m_lf_all (o_if_eq C dX2_tellComers_12 rfl rfl)) (m_lf_all (o_aload_n C (i := 0) rfl dX2_tellComers_15 rfl))))) (m_bt_all (m_bt_all (m_bt_all (m_lf_all (o_get C (ci := 2) (k := 4) (N := 8) (rf := RX2) (T := TX2) rfl ginX2 (Nat.le_of_ble_eq_true rfl) (m_tb_of 122 (by decide +kernel) rfl) dX2_tellComers_16 rfl)) (m_lf_all (o_iload_n C (i := 1) rfl dX2_tellComers_19 rfl))) (m_bt_all (m_lf_all (o_iconst C (x := (4)) (m_rngd rfl) dX2_tellComers_20 rfl)) (m_lf_all (o_imul C dX2_tellComers_21 rfl)))) (m_bt_all (m_bt_all (m_lf_all (o_iload_n C (i := 2) rfl dX2_tellComers_22 rfl)) (m_lf_all (o_iadd C dX2_tellComers_23 rfl))) (m_bt_all (m_lf_all (o_iload_n C (i := 3) rfl dX2_tellComers_24 rfl)) (m_bt_all (m_lf_all (o_iast C dX2_tellComers_25 rfl)) (m_lf_all (o_vret C hr dX2_tellComers_26)))))))
set_option maxRecDepth 20000 in
def kX2_addComers : m_C := m_bt 20 (m_bt 9 (m_bt 4 (m_bt 1 (m_lf 0 (s_ild 1 1)) (m_lf 1 (s_callS 4 1 wX8_isQuarter))) (m_bt 7 (m_lf 4 (s_if 7 25 (fun x => x = 0))) (m_bt 8 (m_lf 7 (s_ald 8 0)) (m_lf 8 (s_ild 9 2))))) (m_bt 15 (m_bt 12 (m_lf 9 (s_callV 12 2 2 wX2_hasSort)) (m_lf 12 (s_if 15 25 (fun x => x = 0)))) (m_bt 16 (m_lf 15 (s_ild 16 3)) (m_bt 19 (m_lf 16 (s_if 19 25 (fun x => x < 0))) (m_lf 19 (s_ild 20 3)))))) (m_bt 28 (m_bt 25 (m_bt 22 (m_lf 20 (s_push 22 (.inl (25)))) (m_lf 22 (s_icmp 25 27 (fun x y => x ≤ y)))) (m_bt 26 (m_lf 25 (s_push 26 (.inl (0)))) (m_bt 27 (m_lf 26 (s_retz)) (m_lf 27 (s_ald 28 0))))) (m_bt 31 (m_bt 29 (m_lf 28 (s_ild 29 2)) (m_bt 30 (m_lf 29 (s_ild 30 1)) (m_lf 30 (s_ild 31 3)))) (m_bt 34 (m_lf 31 (s_callV 34 4 2 wX2_tellComers)) (m_bt 35 (m_lf 34 (s_push 35 (.inl (1)))) (m_lf 35 (s_retz))))))
theorem kX2_addComers_0 : kX2_addComers 0 = some (s_ild 1 1) := rfl
theorem kX2_addComers_1 : kX2_addComers 1 = some (s_callS 4 1 wX8_isQuarter) := rfl
theorem kX2_addComers_4 : kX2_addComers 4 = some (s_if 7 25 (fun x => x = 0)) := rfl
theorem kX2_addComers_7 : kX2_addComers 7 = some (s_ald 8 0) := rfl
theorem kX2_addComers_8 : kX2_addComers 8 = some (s_ild 9 2) := rfl
theorem kX2_addComers_9 : kX2_addComers 9 = some (s_callV 12 2 2 wX2_hasSort) := rfl
theorem kX2_addComers_12 : kX2_addComers 12 = some (s_if 15 25 (fun x => x = 0)) := rfl
theorem kX2_addComers_15 : kX2_addComers 15 = some (s_ild 16 3) := rfl
theorem kX2_addComers_16 : kX2_addComers 16 = some (s_if 19 25 (fun x => x < 0)) := rfl
theorem kX2_addComers_19 : kX2_addComers 19 = some (s_ild 20 3) := rfl
theorem kX2_addComers_20 : kX2_addComers 20 = some (s_push 22 (.inl (25))) := rfl
theorem kX2_addComers_22 : kX2_addComers 22 = some (s_icmp 25 27 (fun x y => x ≤ y)) := rfl
theorem kX2_addComers_25 : kX2_addComers 25 = some (s_push 26 (.inl (0))) := rfl
theorem kX2_addComers_26 : kX2_addComers 26 = some (s_retz) := rfl
theorem kX2_addComers_27 : kX2_addComers 27 = some (s_ald 28 0) := rfl
theorem kX2_addComers_28 : kX2_addComers 28 = some (s_ild 29 2) := rfl
theorem kX2_addComers_29 : kX2_addComers 29 = some (s_ild 30 1) := rfl
theorem kX2_addComers_30 : kX2_addComers 30 = some (s_ild 31 3) := rfl
theorem kX2_addComers_31 : kX2_addComers 31 = some (s_callV 34 4 2 wX2_tellComers) := rfl
theorem kX2_addComers_34 : kX2_addComers 34 = some (s_push 35 (.inl (1))) := rfl
theorem kX2_addComers_35 : kX2_addComers 35 = some (s_retz) := rfl
def wX2_addComers : m_GK := m_wp 4 kX2_addComers
set_option maxRecDepth 100000 in
set_option maxHeartbeats 4000000 in
theorem sX2_addComers (l : Launch) (X : m_X) (hX : m_inj X.1) : m_Sound l X 3 yX2_addComers cX2_addComers 4 (some .boolean) wX2_addComers := m_sound_of hX (by decide) (fun p e s m args below meth c q C hr => m_bt_all (m_bt_all (m_bt_all (m_bt_all (m_lf_all (o_iload_n C (i := 1) rfl dX2_addComers_0 rfl)) (m_lf_all (o_callN C (sX8_isQuarter l X hX) (fun h => h.2.1.2.1) (m_in_of [530, 72] (by decide +kernel) (by decide +kernel)) (m_tb_of 531 (by decide +kernel) rfl) (by decide +kernel) ⟨Nat.le_of_ble_eq_true rfl, Nat.le_of_ble_eq_true rfl⟩ dX2_addComers_1 rfl))) (m_bt_all (m_lf_all (o_if_eq C dX2_addComers_4 rfl rfl)) (m_bt_all (m_lf_all (o_aload_n C (i := 0) rfl dX2_addComers_7 rfl)) (m_lf_all (o_iload_n C (i := 2) rfl dX2_addComers_8 rfl))))) (m_bt_all (m_bt_all (m_lf_all (o_callV C (T := TX2) (N := 8) (sX2_hasSort l X hX) rfl (m_in_of [532, 533, 534, 73] (by decide +kernel) (by decide +kernel)) (m_tb_of 535 (by decide +kernel) rfl) (by decide +kernel) rfl ⟨Nat.le_of_ble_eq_true rfl, Nat.le_of_ble_eq_true rfl⟩ dX2_addComers_9 rfl)) (m_lf_all (o_if_eq C dX2_addComers_12 rfl rfl))) (m_bt_all (m_lf_all (o_iload_n C (i := 3) rfl dX2_addComers_15 rfl)) (m_bt_all (m_lf_all (o_if_lt C dX2_addComers_16 rfl rfl)) (m_lf_all (o_iload_n C (i := 3) rfl dX2_addComers_19 rfl)))))) (m_bt_all (m_bt_all (m_bt_all (m_lf_all (o_bipush C (x := (25)) (m_rngd rfl) rfl dX2_addComers_20 rfl)) (m_lf_all (o_icmp_le C dX2_addComers_22 rfl rfl))) (m_bt_all (m_lf_all (o_iconst C (x := (0)) (m_rngd rfl) dX2_addComers_25 rfl)) (m_bt_all (m_lf_all (o_zret C hr dX2_addComers_26)) (m_lf_all (o_aload_n C (i := 0) rfl dX2_addComers_27 rfl))))) (m_bt_all (m_bt_all (m_lf_all (o_iload_n C (i := 2) rfl dX2_addComers_28 rfl)) (m_bt_all (m_lf_all (o_iload_n C (i := 1) rfl dX2_addComers_29 rfl)) (m_lf_all (o_iload_n C (i := 3) rfl dX2_addComers_30 rfl)))) (m_bt_all (m_lf_all (o_callV C (T := TX2) (N := 8) (sX2_tellComers l X hX) rfl (m_in_of [536, 537, 538, 73] (by decide +kernel) (by decide +kernel)) (m_tb_of 539 (by decide +kernel) rfl) (by decide +kernel) rfl ⟨Nat.le_of_ble_eq_true rfl, Nat.le_of_ble_eq_true rfl⟩ dX2_addComers_31 rfl)) (m_bt_all (m_lf_all (o_iconst C (x := (1)) (m_rngd rfl) dX2_addComers_34 rfl)) (m_lf_all (o_zret C hr dX2_addComers_35)))))))
set_option maxRecDepth 20000 in
def kX2_tellWord : m_C := m_bt 16 (m_bt 8 (m_bt 2 (m_bt 1 (m_lf 0 (s_ald 1 0)) (m_lf 1 (s_ild 2 1))) (m_bt 5 (m_lf 2 (s_callV 5 2 2 wX2_hasLane)) (m_lf 5 (s_if 8 26 (fun x => x = 0))))) (m_bt 12 (m_bt 9 (m_lf 8 (s_ild 9 2)) (m_lf 9 (s_callS 12 1 wX8_isQuarter))) (m_bt 15 (m_lf 12 (s_if 15 26 (fun x => x = 0))) (m_lf 15 (s_ald 16 0))))) (m_bt 22 (m_bt 20 (m_bt 19 (m_lf 16 (s_get 19 2 6)) (m_lf 19 (s_ild 20 1))) (m_bt 21 (m_lf 20 (s_push 21 (.inl (4)))) (m_lf 21 (s_bin 22 (fun x y => m_wrap (x * y)))))) (m_bt 24 (m_bt 23 (m_lf 22 (s_ild 23 2)) (m_lf 23 (s_bin 24 (fun x y => m_wrap (x + y))))) (m_bt 25 (m_lf 24 (s_ild 25 3)) (m_bt 26 (m_lf 25 (s_iast 26)) (m_lf 26 (s_retv))))))
theorem kX2_tellWord_0 : kX2_tellWord 0 = some (s_ald 1 0) := rfl
theorem kX2_tellWord_1 : kX2_tellWord 1 = some (s_ild 2 1) := rfl
theorem kX2_tellWord_2 : kX2_tellWord 2 = some (s_callV 5 2 2 wX2_hasLane) := rfl
theorem kX2_tellWord_5 : kX2_tellWord 5 = some (s_if 8 26 (fun x => x = 0)) := rfl
theorem kX2_tellWord_8 : kX2_tellWord 8 = some (s_ild 9 2) := rfl
theorem kX2_tellWord_9 : kX2_tellWord 9 = some (s_callS 12 1 wX8_isQuarter) := rfl
theorem kX2_tellWord_12 : kX2_tellWord 12 = some (s_if 15 26 (fun x => x = 0)) := rfl
theorem kX2_tellWord_15 : kX2_tellWord 15 = some (s_ald 16 0) := rfl
theorem kX2_tellWord_16 : kX2_tellWord 16 = some (s_get 19 2 6) := rfl
theorem kX2_tellWord_19 : kX2_tellWord 19 = some (s_ild 20 1) := rfl
theorem kX2_tellWord_20 : kX2_tellWord 20 = some (s_push 21 (.inl (4))) := rfl
theorem kX2_tellWord_21 : kX2_tellWord 21 = some (s_bin 22 (fun x y => m_wrap (x * y))) := rfl
theorem kX2_tellWord_22 : kX2_tellWord 22 = some (s_ild 23 2) := rfl
theorem kX2_tellWord_23 : kX2_tellWord 23 = some (s_bin 24 (fun x y => m_wrap (x + y))) := rfl
theorem kX2_tellWord_24 : kX2_tellWord 24 = some (s_ild 25 3) := rfl
theorem kX2_tellWord_25 : kX2_tellWord 25 = some (s_iast 26) := rfl
theorem kX2_tellWord_26 : kX2_tellWord 26 = some (s_retv) := rfl
def wX2_tellWord : m_GK := m_wp 4 kX2_tellWord
set_option maxRecDepth 100000 in
set_option maxHeartbeats 4000000 in
theorem sX2_tellWord (l : Launch) (X : m_X) (hX : m_inj X.1) : m_Sound l X 2 yX2_tellWord cX2_tellWord 4 none wX2_tellWord := m_sound_of hX (by decide) (fun p e s m args below meth c q C hr => m_bt_all (m_bt_all (m_bt_all (m_bt_all (m_lf_all (o_aload_n C (i := 0) rfl dX2_tellWord_0 rfl)) (m_lf_all (o_iload_n C (i := 1) rfl dX2_tellWord_1 rfl))) (m_bt_all (m_lf_all (o_callV C (T := TX2) (N := 8) (sX2_hasLane l X hX) rfl (m_in_of [544, 545, 546, 73] (by decide +kernel) (by decide +kernel)) (m_tb_of 547 (by decide +kernel) rfl) (by decide +kernel) rfl ⟨Nat.le_of_ble_eq_true rfl, Nat.le_of_ble_eq_true rfl⟩ dX2_tellWord_2 rfl)) (m_lf_all (o_if_eq C dX2_tellWord_5 rfl rfl)))) (m_bt_all (m_bt_all (m_lf_all (o_iload_n C (i := 2) rfl dX2_tellWord_8 rfl)) (m_lf_all (o_callN C (sX8_isQuarter l X hX) (fun h => h.2.1.2.1) (m_in_of [530, 72] (by decide +kernel) (by decide +kernel)) (m_tb_of 531 (by decide +kernel) rfl) (by decide +kernel) ⟨Nat.le_of_ble_eq_true rfl, Nat.le_of_ble_eq_true rfl⟩ dX2_tellWord_9 rfl))) (m_bt_all (m_lf_all (o_if_eq C dX2_tellWord_12 rfl rfl)) (m_lf_all (o_aload_n C (i := 0) rfl dX2_tellWord_15 rfl))))) (m_bt_all (m_bt_all (m_bt_all (m_lf_all (o_get C (ci := 2) (k := 6) (N := 8) (rf := RX2) (T := TX2) rfl ginX2 (Nat.le_of_ble_eq_true rfl) (m_tb_of 125 (by decide +kernel) rfl) dX2_tellWord_16 rfl)) (m_lf_all (o_iload_n C (i := 1) rfl dX2_tellWord_19 rfl))) (m_bt_all (m_lf_all (o_iconst C (x := (4)) (m_rngd rfl) dX2_tellWord_20 rfl)) (m_lf_all (o_imul C dX2_tellWord_21 rfl)))) (m_bt_all (m_bt_all (m_lf_all (o_iload_n C (i := 2) rfl dX2_tellWord_22 rfl)) (m_lf_all (o_iadd C dX2_tellWord_23 rfl))) (m_bt_all (m_lf_all (o_iload_n C (i := 3) rfl dX2_tellWord_24 rfl)) (m_bt_all (m_lf_all (o_iast C dX2_tellWord_25 rfl)) (m_lf_all (o_vret C hr dX2_tellWord_26)))))))
set_option maxRecDepth 20000 in
def kX2_addChange : m_C := m_bt 24 (m_bt 12 (m_bt 5 (m_bt 1 (m_lf 0 (s_ild 1 1)) (m_bt 2 (m_lf 1 (s_push 2 (.inl (1)))) (m_lf 2 (s_icmp 5 30 (fun x y => x < y))))) (m_bt 6 (m_lf 5 (s_ild 6 1)) (m_bt 9 (m_lf 6 (s_callS 9 1 wX8_isQuarter)) (m_lf 9 (s_if 12 30 (fun x => x = 0)))))) (m_bt 17 (m_bt 13 (m_lf 12 (s_ald 13 0)) (m_bt 14 (m_lf 13 (s_ild 14 2)) (m_lf 14 (s_callV 17 2 2 wX2_hasLane)))) (m_bt 20 (m_lf 17 (s_if 20 30 (fun x => x = 0))) (m_bt 21 (m_lf 20 (s_ild 21 3)) (m_lf 21 (s_if 24 30 (fun x => x < 0))))))) (m_bt 33 (m_bt 30 (m_bt 25 (m_lf 24 (s_ild 25 3)) (m_bt 27 (m_lf 25 (s_push 27 (.inl (31)))) (m_lf 27 (s_icmp 30 32 (fun x y => x ≤ y))))) (m_bt 31 (m_lf 30 (s_push 31 (.inl (0)))) (m_bt 32 (m_lf 31 (s_retz)) (m_lf 32 (s_ald 33 0))))) (m_bt 36 (m_bt 34 (m_lf 33 (s_ild 34 2)) (m_bt 35 (m_lf 34 (s_ild 35 1)) (m_lf 35 (s_ild 36 3)))) (m_bt 39 (m_lf 36 (s_callV 39 4 2 wX2_tellWord)) (m_bt 40 (m_lf 39 (s_push 40 (.inl (1)))) (m_lf 40 (s_retz))))))
theorem kX2_addChange_0 : kX2_addChange 0 = some (s_ild 1 1) := rfl
theorem kX2_addChange_1 : kX2_addChange 1 = some (s_push 2 (.inl (1))) := rfl
theorem kX2_addChange_2 : kX2_addChange 2 = some (s_icmp 5 30 (fun x y => x < y)) := rfl
theorem kX2_addChange_5 : kX2_addChange 5 = some (s_ild 6 1) := rfl
theorem kX2_addChange_6 : kX2_addChange 6 = some (s_callS 9 1 wX8_isQuarter) := rfl
theorem kX2_addChange_9 : kX2_addChange 9 = some (s_if 12 30 (fun x => x = 0)) := rfl
theorem kX2_addChange_12 : kX2_addChange 12 = some (s_ald 13 0) := rfl
theorem kX2_addChange_13 : kX2_addChange 13 = some (s_ild 14 2) := rfl
theorem kX2_addChange_14 : kX2_addChange 14 = some (s_callV 17 2 2 wX2_hasLane) := rfl
theorem kX2_addChange_17 : kX2_addChange 17 = some (s_if 20 30 (fun x => x = 0)) := rfl
theorem kX2_addChange_20 : kX2_addChange 20 = some (s_ild 21 3) := rfl
theorem kX2_addChange_21 : kX2_addChange 21 = some (s_if 24 30 (fun x => x < 0)) := rfl
theorem kX2_addChange_24 : kX2_addChange 24 = some (s_ild 25 3) := rfl
theorem kX2_addChange_25 : kX2_addChange 25 = some (s_push 27 (.inl (31))) := rfl
theorem kX2_addChange_27 : kX2_addChange 27 = some (s_icmp 30 32 (fun x y => x ≤ y)) := rfl
theorem kX2_addChange_30 : kX2_addChange 30 = some (s_push 31 (.inl (0))) := rfl
theorem kX2_addChange_31 : kX2_addChange 31 = some (s_retz) := rfl
theorem kX2_addChange_32 : kX2_addChange 32 = some (s_ald 33 0) := rfl
theorem kX2_addChange_33 : kX2_addChange 33 = some (s_ild 34 2) := rfl
theorem kX2_addChange_34 : kX2_addChange 34 = some (s_ild 35 1) := rfl
theorem kX2_addChange_35 : kX2_addChange 35 = some (s_ild 36 3) := rfl
theorem kX2_addChange_36 : kX2_addChange 36 = some (s_callV 39 4 2 wX2_tellWord) := rfl
theorem kX2_addChange_39 : kX2_addChange 39 = some (s_push 40 (.inl (1))) := rfl
theorem kX2_addChange_40 : kX2_addChange 40 = some (s_retz) := rfl
def wX2_addChange : m_GK := m_wp 4 kX2_addChange
set_option maxRecDepth 100000 in
set_option maxHeartbeats 4000000 in
theorem sX2_addChange (l : Launch) (X : m_X) (hX : m_inj X.1) : m_Sound l X 3 yX2_addChange cX2_addChange 4 (some .boolean) wX2_addChange := m_sound_of hX (by decide) (fun p e s m args below meth c q C hr => m_bt_all (m_bt_all (m_bt_all (m_bt_all (m_lf_all (o_iload_n C (i := 1) rfl dX2_addChange_0 rfl)) (m_bt_all (m_lf_all (o_iconst C (x := (1)) (m_rngd rfl) dX2_addChange_1 rfl)) (m_lf_all (o_icmp_lt C dX2_addChange_2 rfl rfl)))) (m_bt_all (m_lf_all (o_iload_n C (i := 1) rfl dX2_addChange_5 rfl)) (m_bt_all (m_lf_all (o_callN C (sX8_isQuarter l X hX) (fun h => h.2.1.2.1) (m_in_of [530, 72] (by decide +kernel) (by decide +kernel)) (m_tb_of 531 (by decide +kernel) rfl) (by decide +kernel) ⟨Nat.le_of_ble_eq_true rfl, Nat.le_of_ble_eq_true rfl⟩ dX2_addChange_6 rfl)) (m_lf_all (o_if_eq C dX2_addChange_9 rfl rfl))))) (m_bt_all (m_bt_all (m_lf_all (o_aload_n C (i := 0) rfl dX2_addChange_12 rfl)) (m_bt_all (m_lf_all (o_iload_n C (i := 2) rfl dX2_addChange_13 rfl)) (m_lf_all (o_callV C (T := TX2) (N := 8) (sX2_hasLane l X hX) rfl (m_in_of [544, 545, 546, 73] (by decide +kernel) (by decide +kernel)) (m_tb_of 547 (by decide +kernel) rfl) (by decide +kernel) rfl ⟨Nat.le_of_ble_eq_true rfl, Nat.le_of_ble_eq_true rfl⟩ dX2_addChange_14 rfl)))) (m_bt_all (m_lf_all (o_if_eq C dX2_addChange_17 rfl rfl)) (m_bt_all (m_lf_all (o_iload_n C (i := 3) rfl dX2_addChange_20 rfl)) (m_lf_all (o_if_lt C dX2_addChange_21 rfl rfl)))))) (m_bt_all (m_bt_all (m_bt_all (m_lf_all (o_iload_n C (i := 3) rfl dX2_addChange_24 rfl)) (m_bt_all (m_lf_all (o_bipush C (x := (31)) (m_rngd rfl) rfl dX2_addChange_25 rfl)) (m_lf_all (o_icmp_le C dX2_addChange_27 rfl rfl)))) (m_bt_all (m_lf_all (o_iconst C (x := (0)) (m_rngd rfl) dX2_addChange_30 rfl)) (m_bt_all (m_lf_all (o_zret C hr dX2_addChange_31)) (m_lf_all (o_aload_n C (i := 0) rfl dX2_addChange_32 rfl))))) (m_bt_all (m_bt_all (m_lf_all (o_iload_n C (i := 2) rfl dX2_addChange_33 rfl)) (m_bt_all (m_lf_all (o_iload_n C (i := 1) rfl dX2_addChange_34 rfl)) (m_lf_all (o_iload_n C (i := 3) rfl dX2_addChange_35 rfl)))) (m_bt_all (m_lf_all (o_callV C (T := TX2) (N := 8) (sX2_tellWord l X hX) rfl (m_in_of [548, 549, 550, 73] (by decide +kernel) (by decide +kernel)) (m_tb_of 551 (by decide +kernel) rfl) (by decide +kernel) rfl ⟨Nat.le_of_ble_eq_true rfl, Nat.le_of_ble_eq_true rfl⟩ dX2_addChange_36 rfl)) (m_bt_all (m_lf_all (o_iconst C (x := (1)) (m_rngd rfl) dX2_addChange_39 rfl)) (m_lf_all (o_zret C hr dX2_addChange_40)))))))
set_option maxRecDepth 20000 in
def kX2_tellNeed : m_C := m_bt 16 (m_bt 8 (m_bt 2 (m_bt 1 (m_lf 0 (s_ald 1 0)) (m_lf 1 (s_ild 2 1))) (m_bt 5 (m_lf 2 (s_callV 5 2 2 wX2_hasSort)) (m_lf 5 (s_if 8 26 (fun x => x = 0))))) (m_bt 12 (m_bt 9 (m_lf 8 (s_ild 9 2)) (m_lf 9 (s_callS 12 1 wX8_isQuarter))) (m_bt 15 (m_lf 12 (s_if 15 26 (fun x => x = 0))) (m_lf 15 (s_ald 16 0))))) (m_bt 22 (m_bt 20 (m_bt 19 (m_lf 16 (s_get 19 2 5)) (m_lf 19 (s_ild 20 1))) (m_bt 21 (m_lf 20 (s_push 21 (.inl (4)))) (m_lf 21 (s_bin 22 (fun x y => m_wrap (x * y)))))) (m_bt 24 (m_bt 23 (m_lf 22 (s_ild 23 2)) (m_lf 23 (s_bin 24 (fun x y => m_wrap (x + y))))) (m_bt 25 (m_lf 24 (s_ild 25 3)) (m_bt 26 (m_lf 25 (s_iast 26)) (m_lf 26 (s_retv))))))
theorem kX2_tellNeed_0 : kX2_tellNeed 0 = some (s_ald 1 0) := rfl
theorem kX2_tellNeed_1 : kX2_tellNeed 1 = some (s_ild 2 1) := rfl
theorem kX2_tellNeed_2 : kX2_tellNeed 2 = some (s_callV 5 2 2 wX2_hasSort) := rfl
theorem kX2_tellNeed_5 : kX2_tellNeed 5 = some (s_if 8 26 (fun x => x = 0)) := rfl
theorem kX2_tellNeed_8 : kX2_tellNeed 8 = some (s_ild 9 2) := rfl
theorem kX2_tellNeed_9 : kX2_tellNeed 9 = some (s_callS 12 1 wX8_isQuarter) := rfl
theorem kX2_tellNeed_12 : kX2_tellNeed 12 = some (s_if 15 26 (fun x => x = 0)) := rfl
theorem kX2_tellNeed_15 : kX2_tellNeed 15 = some (s_ald 16 0) := rfl
theorem kX2_tellNeed_16 : kX2_tellNeed 16 = some (s_get 19 2 5) := rfl
theorem kX2_tellNeed_19 : kX2_tellNeed 19 = some (s_ild 20 1) := rfl
theorem kX2_tellNeed_20 : kX2_tellNeed 20 = some (s_push 21 (.inl (4))) := rfl
theorem kX2_tellNeed_21 : kX2_tellNeed 21 = some (s_bin 22 (fun x y => m_wrap (x * y))) := rfl
theorem kX2_tellNeed_22 : kX2_tellNeed 22 = some (s_ild 23 2) := rfl
theorem kX2_tellNeed_23 : kX2_tellNeed 23 = some (s_bin 24 (fun x y => m_wrap (x + y))) := rfl
theorem kX2_tellNeed_24 : kX2_tellNeed 24 = some (s_ild 25 3) := rfl
theorem kX2_tellNeed_25 : kX2_tellNeed 25 = some (s_iast 26) := rfl
theorem kX2_tellNeed_26 : kX2_tellNeed 26 = some (s_retv) := rfl
def wX2_tellNeed : m_GK := m_wp 4 kX2_tellNeed
set_option maxRecDepth 100000 in
set_option maxHeartbeats 4000000 in
theorem sX2_tellNeed (l : Launch) (X : m_X) (hX : m_inj X.1) : m_Sound l X 2 yX2_tellNeed cX2_tellNeed 4 none wX2_tellNeed := m_sound_of hX (by decide) (fun p e s m args below meth c q C hr => m_bt_all (m_bt_all (m_bt_all (m_bt_all (m_lf_all (o_aload_n C (i := 0) rfl dX2_tellNeed_0 rfl)) (m_lf_all (o_iload_n C (i := 1) rfl dX2_tellNeed_1 rfl))) (m_bt_all (m_lf_all (o_callV C (T := TX2) (N := 8) (sX2_hasSort l X hX) rfl (m_in_of [532, 533, 534, 73] (by decide +kernel) (by decide +kernel)) (m_tb_of 535 (by decide +kernel) rfl) (by decide +kernel) rfl ⟨Nat.le_of_ble_eq_true rfl, Nat.le_of_ble_eq_true rfl⟩ dX2_tellNeed_2 rfl)) (m_lf_all (o_if_eq C dX2_tellNeed_5 rfl rfl)))) (m_bt_all (m_bt_all (m_lf_all (o_iload_n C (i := 2) rfl dX2_tellNeed_8 rfl)) (m_lf_all (o_callN C (sX8_isQuarter l X hX) (fun h => h.2.1.2.1) (m_in_of [530, 72] (by decide +kernel) (by decide +kernel)) (m_tb_of 531 (by decide +kernel) rfl) (by decide +kernel) ⟨Nat.le_of_ble_eq_true rfl, Nat.le_of_ble_eq_true rfl⟩ dX2_tellNeed_9 rfl))) (m_bt_all (m_lf_all (o_if_eq C dX2_tellNeed_12 rfl rfl)) (m_lf_all (o_aload_n C (i := 0) rfl dX2_tellNeed_15 rfl))))) (m_bt_all (m_bt_all (m_bt_all (m_lf_all (o_get C (ci := 2) (k := 5) (N := 8) (rf := RX2) (T := TX2) rfl ginX2 (Nat.le_of_ble_eq_true rfl) (m_tb_of 124 (by decide +kernel) rfl) dX2_tellNeed_16 rfl)) (m_lf_all (o_iload_n C (i := 1) rfl dX2_tellNeed_19 rfl))) (m_bt_all (m_lf_all (o_iconst C (x := (4)) (m_rngd rfl) dX2_tellNeed_20 rfl)) (m_lf_all (o_imul C dX2_tellNeed_21 rfl)))) (m_bt_all (m_bt_all (m_lf_all (o_iload_n C (i := 2) rfl dX2_tellNeed_22 rfl)) (m_lf_all (o_iadd C dX2_tellNeed_23 rfl))) (m_bt_all (m_lf_all (o_iload_n C (i := 3) rfl dX2_tellNeed_24 rfl)) (m_bt_all (m_lf_all (o_iast C dX2_tellNeed_25 rfl)) (m_lf_all (o_vret C hr dX2_tellNeed_26)))))))
set_option maxRecDepth 20000 in
def kX2_changes : m_C := m_bt 25 (m_bt 12 (m_bt 4 (m_bt 2 (m_bt 1 (m_lf 0 (s_push 1 (.inl (0)))) (m_lf 1 (s_ist 2 1))) (m_bt 3 (m_lf 2 (s_push 3 (.inl (0)))) (m_lf 3 (s_ist 4 2)))) (m_bt 6 (m_bt 5 (m_lf 4 (s_ild 5 2)) (m_lf 5 (s_ald 6 0))) (m_bt 9 (m_lf 6 (s_get 9 2 1)) (m_lf 9 (s_icmp 12 53 (fun x y => y ≤ x)))))) (m_bt 16 (m_bt 14 (m_bt 13 (m_lf 12 (s_push 13 (.inl (1)))) (m_lf 13 (s_ist 14 3))) (m_bt 15 (m_lf 14 (s_ild 15 3)) (m_lf 15 (s_push 16 (.inl (4)))))) (m_bt 20 (m_bt 19 (m_lf 16 (s_icmp 19 47 (fun x y => y ≤ x))) (m_lf 19 (s_ild 20 1))) (m_bt 21 (m_lf 20 (s_ald 21 0)) (m_bt 24 (m_lf 21 (s_get 24 2 6)) (m_lf 24 (s_ild 25 2))))))) (m_bt 38 (m_bt 29 (m_bt 27 (m_bt 26 (m_lf 25 (s_push 26 (.inl (4)))) (m_lf 26 (s_bin 27 (fun x y => m_wrap (x * y))))) (m_bt 28 (m_lf 27 (s_ild 28 3)) (m_lf 28 (s_bin 29 (fun x y => m_wrap (x + y)))))) (m_bt 31 (m_bt 30 (m_lf 29 (s_iald 30)) (m_lf 30 (s_push 31 (.inl (-1))))) (m_bt 34 (m_lf 31 (s_icmp 34 38 (fun x y => ¬ x = y))) (m_bt 35 (m_lf 34 (s_push 35 (.inl (0)))) (m_lf 35 (s_goto 39)))))) (m_bt 44 (m_bt 40 (m_bt 39 (m_lf 38 (s_push 39 (.inl (1)))) (m_lf 39 (s_bin 40 (fun x y => m_wrap (x + y))))) (m_bt 41 (m_lf 40 (s_ist 41 1)) (m_lf 41 (s_inc 44 3 (1))))) (m_bt 50 (m_bt 47 (m_lf 44 (s_goto 14)) (m_lf 47 (s_inc 50 2 (1)))) (m_bt 53 (m_lf 50 (s_goto 4)) (m_bt 54 (m_lf 53 (s_ild 54 1)) (m_lf 54 (s_ret)))))))
theorem kX2_changes_0 : kX2_changes 0 = some (s_push 1 (.inl (0))) := rfl
theorem kX2_changes_1 : kX2_changes 1 = some (s_ist 2 1) := rfl
theorem kX2_changes_2 : kX2_changes 2 = some (s_push 3 (.inl (0))) := rfl
theorem kX2_changes_3 : kX2_changes 3 = some (s_ist 4 2) := rfl
theorem kX2_changes_4 : kX2_changes 4 = some (s_ild 5 2) := rfl
theorem kX2_changes_5 : kX2_changes 5 = some (s_ald 6 0) := rfl
theorem kX2_changes_6 : kX2_changes 6 = some (s_get 9 2 1) := rfl
theorem kX2_changes_9 : kX2_changes 9 = some (s_icmp 12 53 (fun x y => y ≤ x)) := rfl
theorem kX2_changes_12 : kX2_changes 12 = some (s_push 13 (.inl (1))) := rfl
theorem kX2_changes_13 : kX2_changes 13 = some (s_ist 14 3) := rfl
theorem kX2_changes_14 : kX2_changes 14 = some (s_ild 15 3) := rfl
theorem kX2_changes_15 : kX2_changes 15 = some (s_push 16 (.inl (4))) := rfl
theorem kX2_changes_16 : kX2_changes 16 = some (s_icmp 19 47 (fun x y => y ≤ x)) := rfl
theorem kX2_changes_19 : kX2_changes 19 = some (s_ild 20 1) := rfl
theorem kX2_changes_20 : kX2_changes 20 = some (s_ald 21 0) := rfl
theorem kX2_changes_21 : kX2_changes 21 = some (s_get 24 2 6) := rfl
theorem kX2_changes_24 : kX2_changes 24 = some (s_ild 25 2) := rfl
theorem kX2_changes_25 : kX2_changes 25 = some (s_push 26 (.inl (4))) := rfl
theorem kX2_changes_26 : kX2_changes 26 = some (s_bin 27 (fun x y => m_wrap (x * y))) := rfl
theorem kX2_changes_27 : kX2_changes 27 = some (s_ild 28 3) := rfl
theorem kX2_changes_28 : kX2_changes 28 = some (s_bin 29 (fun x y => m_wrap (x + y))) := rfl
theorem kX2_changes_29 : kX2_changes 29 = some (s_iald 30) := rfl
theorem kX2_changes_30 : kX2_changes 30 = some (s_push 31 (.inl (-1))) := rfl
theorem kX2_changes_31 : kX2_changes 31 = some (s_icmp 34 38 (fun x y => ¬ x = y)) := rfl
theorem kX2_changes_34 : kX2_changes 34 = some (s_push 35 (.inl (0))) := rfl
theorem kX2_changes_35 : kX2_changes 35 = some (s_goto 39) := rfl
theorem kX2_changes_38 : kX2_changes 38 = some (s_push 39 (.inl (1))) := rfl
theorem kX2_changes_39 : kX2_changes 39 = some (s_bin 40 (fun x y => m_wrap (x + y))) := rfl
theorem kX2_changes_40 : kX2_changes 40 = some (s_ist 41 1) := rfl
theorem kX2_changes_41 : kX2_changes 41 = some (s_inc 44 3 (1)) := rfl
theorem kX2_changes_44 : kX2_changes 44 = some (s_goto 14) := rfl
theorem kX2_changes_47 : kX2_changes 47 = some (s_inc 50 2 (1)) := rfl
theorem kX2_changes_50 : kX2_changes 50 = some (s_goto 4) := rfl
theorem kX2_changes_53 : kX2_changes 53 = some (s_ild 54 1) := rfl
theorem kX2_changes_54 : kX2_changes 54 = some (s_ret) := rfl
def wX2_changes : m_GK := m_wp 4 kX2_changes
set_option maxRecDepth 100000 in
set_option maxHeartbeats 4000000 in
theorem sX2_changes (l : Launch) (X : m_X) (hX : m_inj X.1) : m_Sound l X 1 yX2_changes cX2_changes 4 (some .int) wX2_changes := m_sound_of hX (by decide) (fun p e s m args below meth c q C hr => m_bt_all (m_bt_all (m_bt_all (m_bt_all (m_bt_all (m_lf_all (o_iconst C (x := (0)) (m_rngd rfl) dX2_changes_0 rfl)) (m_lf_all (o_istore_n C (i := 1) rfl dX2_changes_1 rfl))) (m_bt_all (m_lf_all (o_iconst C (x := (0)) (m_rngd rfl) dX2_changes_2 rfl)) (m_lf_all (o_istore_n C (i := 2) rfl dX2_changes_3 rfl)))) (m_bt_all (m_bt_all (m_lf_all (o_iload_n C (i := 2) rfl dX2_changes_4 rfl)) (m_lf_all (o_aload_n C (i := 0) rfl dX2_changes_5 rfl))) (m_bt_all (m_lf_all (o_get C (ci := 2) (k := 1) (N := 8) (rf := RX2) (T := TX2) rfl ginX2 (Nat.le_of_ble_eq_true rfl) (m_tb_of 110 (by decide +kernel) rfl) dX2_changes_6 rfl)) (m_lf_all (o_icmp_ge C dX2_changes_9 rfl rfl))))) (m_bt_all (m_bt_all (m_bt_all (m_lf_all (o_iconst C (x := (1)) (m_rngd rfl) dX2_changes_12 rfl)) (m_lf_all (o_istore_n C (i := 3) rfl dX2_changes_13 rfl))) (m_bt_all (m_lf_all (o_iload_n C (i := 3) rfl dX2_changes_14 rfl)) (m_lf_all (o_iconst C (x := (4)) (m_rngd rfl) dX2_changes_15 rfl)))) (m_bt_all (m_bt_all (m_lf_all (o_icmp_ge C dX2_changes_16 rfl rfl)) (m_lf_all (o_iload_n C (i := 1) rfl dX2_changes_19 rfl))) (m_bt_all (m_lf_all (o_aload_n C (i := 0) rfl dX2_changes_20 rfl)) (m_bt_all (m_lf_all (o_get C (ci := 2) (k := 6) (N := 8) (rf := RX2) (T := TX2) rfl ginX2 (Nat.le_of_ble_eq_true rfl) (m_tb_of 125 (by decide +kernel) rfl) dX2_changes_21 rfl)) (m_lf_all (o_iload_n C (i := 2) rfl dX2_changes_24 rfl))))))) (m_bt_all (m_bt_all (m_bt_all (m_bt_all (m_lf_all (o_iconst C (x := (4)) (m_rngd rfl) dX2_changes_25 rfl)) (m_lf_all (o_imul C dX2_changes_26 rfl))) (m_bt_all (m_lf_all (o_iload_n C (i := 3) rfl dX2_changes_27 rfl)) (m_lf_all (o_iadd C dX2_changes_28 rfl)))) (m_bt_all (m_bt_all (m_lf_all (o_iald C dX2_changes_29 rfl)) (m_lf_all (o_iconst C (x := (-1)) (m_rngd rfl) dX2_changes_30 rfl))) (m_bt_all (m_lf_all (o_icmp_ne C dX2_changes_31 rfl rfl)) (m_bt_all (m_lf_all (o_iconst C (x := (0)) (m_rngd rfl) dX2_changes_34 rfl)) (m_lf_all (o_goto C dX2_changes_35 rfl)))))) (m_bt_all (m_bt_all (m_bt_all (m_lf_all (o_iconst C (x := (1)) (m_rngd rfl) dX2_changes_38 rfl)) (m_lf_all (o_iadd C dX2_changes_39 rfl))) (m_bt_all (m_lf_all (o_istore_n C (i := 1) rfl dX2_changes_40 rfl)) (m_lf_all (o_iinc C dX2_changes_41 rfl)))) (m_bt_all (m_bt_all (m_lf_all (o_goto C dX2_changes_44 rfl)) (m_lf_all (o_iinc C dX2_changes_47 rfl))) (m_bt_all (m_lf_all (o_goto C dX2_changes_50 rfl)) (m_bt_all (m_lf_all (o_iload_n C (i := 1) rfl dX2_changes_53 rfl)) (m_lf_all (o_iret C hr dX2_changes_54))))))))
set_option maxRecDepth 20000 in
def kX2_narrowWords : m_C := m_bt 23 (m_bt 9 (m_bt 3 (m_bt 1 (m_lf 0 (s_push 1 (.inl (0)))) (m_bt 2 (m_lf 1 (s_ist 2 1)) (m_lf 2 (s_ild 3 1)))) (m_bt 7 (m_bt 4 (m_lf 3 (s_ald 4 0)) (m_lf 4 (s_get 7 2 1))) (m_bt 8 (m_lf 7 (s_push 8 (.inl (4)))) (m_lf 8 (s_bin 9 (fun x y => m_wrap (x * y))))))) (m_bt 17 (m_bt 13 (m_bt 12 (m_lf 9 (s_icmp 12 48 (fun x y => y ≤ x))) (m_lf 12 (s_ald 13 0))) (m_bt 16 (m_lf 13 (s_get 16 2 6)) (m_lf 16 (s_ild 17 1)))) (m_bt 19 (m_bt 18 (m_lf 17 (s_iald 18)) (m_lf 18 (s_push 19 (.inl (-1))))) (m_bt 22 (m_lf 19 (s_icmp 22 42 (fun x y => x = y))) (m_lf 22 (s_ald 23 0)))))) (m_bt 37 (m_bt 31 (m_bt 27 (m_bt 26 (m_lf 23 (s_get 26 2 6)) (m_lf 26 (s_ild 27 1))) (m_bt 28 (m_lf 27 (s_ald 28 0)) (m_lf 28 (s_get 31 2 6)))) (m_bt 33 (m_bt 32 (m_lf 31 (s_ild 32 1)) (m_lf 32 (s_iald 33))) (m_bt 34 (m_lf 33 (s_ald 34 0)) (m_lf 34 (s_get 37 2 6))))) (m_bt 41 (m_bt 39 (m_bt 38 (m_lf 37 (s_ild 38 1)) (m_lf 38 (s_iald 39))) (m_bt 40 (m_lf 39 (s_neg 40)) (m_lf 40 (s_bin 41 m_iand)))) (m_bt 45 (m_bt 42 (m_lf 41 (s_iast 42)) (m_lf 42 (s_inc 45 1 (1)))) (m_bt 48 (m_lf 45 (s_goto 2)) (m_lf 48 (s_retv))))))
theorem kX2_narrowWords_0 : kX2_narrowWords 0 = some (s_push 1 (.inl (0))) := rfl
theorem kX2_narrowWords_1 : kX2_narrowWords 1 = some (s_ist 2 1) := rfl
theorem kX2_narrowWords_2 : kX2_narrowWords 2 = some (s_ild 3 1) := rfl
theorem kX2_narrowWords_3 : kX2_narrowWords 3 = some (s_ald 4 0) := rfl
theorem kX2_narrowWords_4 : kX2_narrowWords 4 = some (s_get 7 2 1) := rfl
theorem kX2_narrowWords_7 : kX2_narrowWords 7 = some (s_push 8 (.inl (4))) := rfl
theorem kX2_narrowWords_8 : kX2_narrowWords 8 = some (s_bin 9 (fun x y => m_wrap (x * y))) := rfl
theorem kX2_narrowWords_9 : kX2_narrowWords 9 = some (s_icmp 12 48 (fun x y => y ≤ x)) := rfl
theorem kX2_narrowWords_12 : kX2_narrowWords 12 = some (s_ald 13 0) := rfl
theorem kX2_narrowWords_13 : kX2_narrowWords 13 = some (s_get 16 2 6) := rfl
theorem kX2_narrowWords_16 : kX2_narrowWords 16 = some (s_ild 17 1) := rfl
theorem kX2_narrowWords_17 : kX2_narrowWords 17 = some (s_iald 18) := rfl
theorem kX2_narrowWords_18 : kX2_narrowWords 18 = some (s_push 19 (.inl (-1))) := rfl
theorem kX2_narrowWords_19 : kX2_narrowWords 19 = some (s_icmp 22 42 (fun x y => x = y)) := rfl
theorem kX2_narrowWords_22 : kX2_narrowWords 22 = some (s_ald 23 0) := rfl
theorem kX2_narrowWords_23 : kX2_narrowWords 23 = some (s_get 26 2 6) := rfl
theorem kX2_narrowWords_26 : kX2_narrowWords 26 = some (s_ild 27 1) := rfl
theorem kX2_narrowWords_27 : kX2_narrowWords 27 = some (s_ald 28 0) := rfl
theorem kX2_narrowWords_28 : kX2_narrowWords 28 = some (s_get 31 2 6) := rfl
theorem kX2_narrowWords_31 : kX2_narrowWords 31 = some (s_ild 32 1) := rfl
theorem kX2_narrowWords_32 : kX2_narrowWords 32 = some (s_iald 33) := rfl
theorem kX2_narrowWords_33 : kX2_narrowWords 33 = some (s_ald 34 0) := rfl
theorem kX2_narrowWords_34 : kX2_narrowWords 34 = some (s_get 37 2 6) := rfl
theorem kX2_narrowWords_37 : kX2_narrowWords 37 = some (s_ild 38 1) := rfl
theorem kX2_narrowWords_38 : kX2_narrowWords 38 = some (s_iald 39) := rfl
theorem kX2_narrowWords_39 : kX2_narrowWords 39 = some (s_neg 40) := rfl
theorem kX2_narrowWords_40 : kX2_narrowWords 40 = some (s_bin 41 m_iand) := rfl
theorem kX2_narrowWords_41 : kX2_narrowWords 41 = some (s_iast 42) := rfl
theorem kX2_narrowWords_42 : kX2_narrowWords 42 = some (s_inc 45 1 (1)) := rfl
theorem kX2_narrowWords_45 : kX2_narrowWords 45 = some (s_goto 2) := rfl
theorem kX2_narrowWords_48 : kX2_narrowWords 48 = some (s_retv) := rfl
def wX2_narrowWords : m_GK := m_wp 2 kX2_narrowWords
set_option maxRecDepth 100000 in
set_option maxHeartbeats 4000000 in
theorem sX2_narrowWords (l : Launch) (X : m_X) (hX : m_inj X.1) : m_Sound l X 1 yX2_narrowWords cX2_narrowWords 2 none wX2_narrowWords := m_sound_of hX (by decide) (fun p e s m args below meth c q C hr => m_bt_all (m_bt_all (m_bt_all (m_bt_all (m_lf_all (o_iconst C (x := (0)) (m_rngd rfl) dX2_narrowWords_0 rfl)) (m_bt_all (m_lf_all (o_istore_n C (i := 1) rfl dX2_narrowWords_1 rfl)) (m_lf_all (o_iload_n C (i := 1) rfl dX2_narrowWords_2 rfl)))) (m_bt_all (m_bt_all (m_lf_all (o_aload_n C (i := 0) rfl dX2_narrowWords_3 rfl)) (m_lf_all (o_get C (ci := 2) (k := 1) (N := 8) (rf := RX2) (T := TX2) rfl ginX2 (Nat.le_of_ble_eq_true rfl) (m_tb_of 110 (by decide +kernel) rfl) dX2_narrowWords_4 rfl))) (m_bt_all (m_lf_all (o_iconst C (x := (4)) (m_rngd rfl) dX2_narrowWords_7 rfl)) (m_lf_all (o_imul C dX2_narrowWords_8 rfl))))) (m_bt_all (m_bt_all (m_bt_all (m_lf_all (o_icmp_ge C dX2_narrowWords_9 rfl rfl)) (m_lf_all (o_aload_n C (i := 0) rfl dX2_narrowWords_12 rfl))) (m_bt_all (m_lf_all (o_get C (ci := 2) (k := 6) (N := 8) (rf := RX2) (T := TX2) rfl ginX2 (Nat.le_of_ble_eq_true rfl) (m_tb_of 125 (by decide +kernel) rfl) dX2_narrowWords_13 rfl)) (m_lf_all (o_iload_n C (i := 1) rfl dX2_narrowWords_16 rfl)))) (m_bt_all (m_bt_all (m_lf_all (o_iald C dX2_narrowWords_17 rfl)) (m_lf_all (o_iconst C (x := (-1)) (m_rngd rfl) dX2_narrowWords_18 rfl))) (m_bt_all (m_lf_all (o_icmp_eq C dX2_narrowWords_19 rfl rfl)) (m_lf_all (o_aload_n C (i := 0) rfl dX2_narrowWords_22 rfl)))))) (m_bt_all (m_bt_all (m_bt_all (m_bt_all (m_lf_all (o_get C (ci := 2) (k := 6) (N := 8) (rf := RX2) (T := TX2) rfl ginX2 (Nat.le_of_ble_eq_true rfl) (m_tb_of 125 (by decide +kernel) rfl) dX2_narrowWords_23 rfl)) (m_lf_all (o_iload_n C (i := 1) rfl dX2_narrowWords_26 rfl))) (m_bt_all (m_lf_all (o_aload_n C (i := 0) rfl dX2_narrowWords_27 rfl)) (m_lf_all (o_get C (ci := 2) (k := 6) (N := 8) (rf := RX2) (T := TX2) rfl ginX2 (Nat.le_of_ble_eq_true rfl) (m_tb_of 125 (by decide +kernel) rfl) dX2_narrowWords_28 rfl)))) (m_bt_all (m_bt_all (m_lf_all (o_iload_n C (i := 1) rfl dX2_narrowWords_31 rfl)) (m_lf_all (o_iald C dX2_narrowWords_32 rfl))) (m_bt_all (m_lf_all (o_aload_n C (i := 0) rfl dX2_narrowWords_33 rfl)) (m_lf_all (o_get C (ci := 2) (k := 6) (N := 8) (rf := RX2) (T := TX2) rfl ginX2 (Nat.le_of_ble_eq_true rfl) (m_tb_of 125 (by decide +kernel) rfl) dX2_narrowWords_34 rfl))))) (m_bt_all (m_bt_all (m_bt_all (m_lf_all (o_iload_n C (i := 1) rfl dX2_narrowWords_37 rfl)) (m_lf_all (o_iald C dX2_narrowWords_38 rfl))) (m_bt_all (m_lf_all (o_ineg C dX2_narrowWords_39 rfl)) (m_lf_all (o_iand C dX2_narrowWords_40 rfl)))) (m_bt_all (m_bt_all (m_lf_all (o_iast C dX2_narrowWords_41 rfl)) (m_lf_all (o_iinc C dX2_narrowWords_42 rfl))) (m_bt_all (m_lf_all (o_goto C dX2_narrowWords_45 rfl)) (m_lf_all (o_vret C hr dX2_narrowWords_48)))))))
set_option maxRecDepth 20000 in
def kX4_wordOfLeastCost : m_C := m_bt 50 (m_bt 23 (m_bt 10 (m_bt 5 (m_bt 1 (m_lf 0 (s_ald 1 1)) (m_bt 2 (m_lf 1 (s_ald 2 2)) (m_lf 2 (s_callV 5 2 1 wX1_run)))) (m_bt 6 (m_lf 5 (s_ald 6 1)) (m_bt 9 (m_lf 6 (s_callV 9 1 1 wX1_allCost)) (m_lf 9 (s_ist 10 3))))) (m_bt 15 (m_bt 12 (m_lf 10 (s_push 12 (.inl (-9)))) (m_bt 14 (m_lf 12 (s_ist 14 4)) (m_lf 14 (s_push 15 (.inl (0)))))) (m_bt 19 (m_bt 17 (m_lf 15 (s_ist 17 5)) (m_lf 17 (s_ild 19 5))) (m_bt 20 (m_lf 19 (s_ald 20 2)) (m_lf 20 (s_get 23 2 1)))))) (m_bt 36 (m_bt 29 (m_bt 26 (m_lf 23 (s_icmp 26 100 (fun x y => y ≤ x))) (m_bt 27 (m_lf 26 (s_push 27 (.inl (0)))) (m_lf 27 (s_ist 29 6)))) (m_bt 31 (m_lf 29 (s_ild 31 6)) (m_bt 33 (m_lf 31 (s_push 33 (.inl (31)))) (m_lf 33 (s_icmp 36 94 (fun x y => y < x)))))) (m_bt 41 (m_bt 37 (m_lf 36 (s_ald 37 0)) (m_bt 40 (m_lf 37 (s_get 40 4 0)) (m_lf 40 (s_ald 41 2)))) (m_bt 45 (m_bt 44 (m_lf 41 (s_callV 44 2 2 wX2_copy)) (m_lf 44 (s_ald 45 0))) (m_bt 48 (m_lf 45 (s_get 48 4 0)) (m_lf 48 (s_ild 50 5))))))) (m_bt 77 (m_bt 63 (m_bt 56 (m_bt 52 (m_lf 50 (s_ild 52 6)) (m_bt 55 (m_lf 52 (s_callV 55 3 2 wX2_tellWordAlone)) (m_lf 55 (s_ald 56 1)))) (m_bt 57 (m_lf 56 (s_ald 57 0)) (m_bt 60 (m_lf 57 (s_get 60 4 0)) (m_lf 60 (s_callV 63 2 1 wX1_run))))) (m_bt 69 (m_bt 64 (m_lf 63 (s_ald 64 1)) (m_bt 67 (m_lf 64 (s_callV 67 1 1 wX1_allCost)) (m_lf 67 (s_ist 69 7)))) (m_bt 72 (m_bt 71 (m_lf 69 (s_ild 71 7)) (m_lf 71 (s_ild 72 3))) (m_bt 75 (m_lf 72 (s_icmp 75 88 (fun x y => y ≤ x))) (m_lf 75 (s_ild 77 7)))))) (m_bt 86 (m_bt 82 (m_bt 78 (m_lf 77 (s_ist 78 3)) (m_bt 80 (m_lf 78 (s_push 80 (.inl (100)))) (m_lf 80 (s_ild 82 5)))) (m_bt 83 (m_lf 82 (s_bin 83 (fun x y => m_wrap (x * y)))) (m_bt 85 (m_lf 83 (s_ild 85 6)) (m_lf 85 (s_bin 86 (fun x y => m_wrap (x + y))))))) (m_bt 94 (m_bt 88 (m_lf 86 (s_ist 88 4)) (m_bt 91 (m_lf 88 (s_inc 91 6 (1))) (m_lf 91 (s_goto 29)))) (m_bt 100 (m_bt 97 (m_lf 94 (s_inc 97 5 (1))) (m_lf 97 (s_goto 17))) (m_bt 102 (m_lf 100 (s_ild 102 4)) (m_lf 102 (s_ret)))))))
theorem kX4_wordOfLeastCost_0 : kX4_wordOfLeastCost 0 = some (s_ald 1 1) := rfl
theorem kX4_wordOfLeastCost_1 : kX4_wordOfLeastCost 1 = some (s_ald 2 2) := rfl
theorem kX4_wordOfLeastCost_2 : kX4_wordOfLeastCost 2 = some (s_callV 5 2 1 wX1_run) := rfl
theorem kX4_wordOfLeastCost_5 : kX4_wordOfLeastCost 5 = some (s_ald 6 1) := rfl
theorem kX4_wordOfLeastCost_6 : kX4_wordOfLeastCost 6 = some (s_callV 9 1 1 wX1_allCost) := rfl
theorem kX4_wordOfLeastCost_9 : kX4_wordOfLeastCost 9 = some (s_ist 10 3) := rfl
theorem kX4_wordOfLeastCost_10 : kX4_wordOfLeastCost 10 = some (s_push 12 (.inl (-9))) := rfl
theorem kX4_wordOfLeastCost_12 : kX4_wordOfLeastCost 12 = some (s_ist 14 4) := rfl
theorem kX4_wordOfLeastCost_14 : kX4_wordOfLeastCost 14 = some (s_push 15 (.inl (0))) := rfl
theorem kX4_wordOfLeastCost_15 : kX4_wordOfLeastCost 15 = some (s_ist 17 5) := rfl
theorem kX4_wordOfLeastCost_17 : kX4_wordOfLeastCost 17 = some (s_ild 19 5) := rfl
theorem kX4_wordOfLeastCost_19 : kX4_wordOfLeastCost 19 = some (s_ald 20 2) := rfl
theorem kX4_wordOfLeastCost_20 : kX4_wordOfLeastCost 20 = some (s_get 23 2 1) := rfl
theorem kX4_wordOfLeastCost_23 : kX4_wordOfLeastCost 23 = some (s_icmp 26 100 (fun x y => y ≤ x)) := rfl
theorem kX4_wordOfLeastCost_26 : kX4_wordOfLeastCost 26 = some (s_push 27 (.inl (0))) := rfl
theorem kX4_wordOfLeastCost_27 : kX4_wordOfLeastCost 27 = some (s_ist 29 6) := rfl
theorem kX4_wordOfLeastCost_29 : kX4_wordOfLeastCost 29 = some (s_ild 31 6) := rfl
theorem kX4_wordOfLeastCost_31 : kX4_wordOfLeastCost 31 = some (s_push 33 (.inl (31))) := rfl
theorem kX4_wordOfLeastCost_33 : kX4_wordOfLeastCost 33 = some (s_icmp 36 94 (fun x y => y < x)) := rfl
theorem kX4_wordOfLeastCost_36 : kX4_wordOfLeastCost 36 = some (s_ald 37 0) := rfl
theorem kX4_wordOfLeastCost_37 : kX4_wordOfLeastCost 37 = some (s_get 40 4 0) := rfl
theorem kX4_wordOfLeastCost_40 : kX4_wordOfLeastCost 40 = some (s_ald 41 2) := rfl
theorem kX4_wordOfLeastCost_41 : kX4_wordOfLeastCost 41 = some (s_callV 44 2 2 wX2_copy) := rfl
theorem kX4_wordOfLeastCost_44 : kX4_wordOfLeastCost 44 = some (s_ald 45 0) := rfl
theorem kX4_wordOfLeastCost_45 : kX4_wordOfLeastCost 45 = some (s_get 48 4 0) := rfl
theorem kX4_wordOfLeastCost_48 : kX4_wordOfLeastCost 48 = some (s_ild 50 5) := rfl
theorem kX4_wordOfLeastCost_50 : kX4_wordOfLeastCost 50 = some (s_ild 52 6) := rfl
theorem kX4_wordOfLeastCost_52 : kX4_wordOfLeastCost 52 = some (s_callV 55 3 2 wX2_tellWordAlone) := rfl
theorem kX4_wordOfLeastCost_55 : kX4_wordOfLeastCost 55 = some (s_ald 56 1) := rfl
theorem kX4_wordOfLeastCost_56 : kX4_wordOfLeastCost 56 = some (s_ald 57 0) := rfl
theorem kX4_wordOfLeastCost_57 : kX4_wordOfLeastCost 57 = some (s_get 60 4 0) := rfl
theorem kX4_wordOfLeastCost_60 : kX4_wordOfLeastCost 60 = some (s_callV 63 2 1 wX1_run) := rfl
theorem kX4_wordOfLeastCost_63 : kX4_wordOfLeastCost 63 = some (s_ald 64 1) := rfl
theorem kX4_wordOfLeastCost_64 : kX4_wordOfLeastCost 64 = some (s_callV 67 1 1 wX1_allCost) := rfl
theorem kX4_wordOfLeastCost_67 : kX4_wordOfLeastCost 67 = some (s_ist 69 7) := rfl
theorem kX4_wordOfLeastCost_69 : kX4_wordOfLeastCost 69 = some (s_ild 71 7) := rfl
theorem kX4_wordOfLeastCost_71 : kX4_wordOfLeastCost 71 = some (s_ild 72 3) := rfl
theorem kX4_wordOfLeastCost_72 : kX4_wordOfLeastCost 72 = some (s_icmp 75 88 (fun x y => y ≤ x)) := rfl
theorem kX4_wordOfLeastCost_75 : kX4_wordOfLeastCost 75 = some (s_ild 77 7) := rfl
theorem kX4_wordOfLeastCost_77 : kX4_wordOfLeastCost 77 = some (s_ist 78 3) := rfl
theorem kX4_wordOfLeastCost_78 : kX4_wordOfLeastCost 78 = some (s_push 80 (.inl (100))) := rfl
theorem kX4_wordOfLeastCost_80 : kX4_wordOfLeastCost 80 = some (s_ild 82 5) := rfl
theorem kX4_wordOfLeastCost_82 : kX4_wordOfLeastCost 82 = some (s_bin 83 (fun x y => m_wrap (x * y))) := rfl
theorem kX4_wordOfLeastCost_83 : kX4_wordOfLeastCost 83 = some (s_ild 85 6) := rfl
theorem kX4_wordOfLeastCost_85 : kX4_wordOfLeastCost 85 = some (s_bin 86 (fun x y => m_wrap (x + y))) := rfl
theorem kX4_wordOfLeastCost_86 : kX4_wordOfLeastCost 86 = some (s_ist 88 4) := rfl
theorem kX4_wordOfLeastCost_88 : kX4_wordOfLeastCost 88 = some (s_inc 91 6 (1)) := rfl
theorem kX4_wordOfLeastCost_91 : kX4_wordOfLeastCost 91 = some (s_goto 29) := rfl
theorem kX4_wordOfLeastCost_94 : kX4_wordOfLeastCost 94 = some (s_inc 97 5 (1)) := rfl
theorem kX4_wordOfLeastCost_97 : kX4_wordOfLeastCost 97 = some (s_goto 17) := rfl
theorem kX4_wordOfLeastCost_100 : kX4_wordOfLeastCost 100 = some (s_ild 102 4) := rfl
theorem kX4_wordOfLeastCost_102 : kX4_wordOfLeastCost 102 = some (s_ret) := rfl
def wX4_wordOfLeastCost : m_GK := m_wp 8 kX4_wordOfLeastCost
set_option maxRecDepth 100000 in
set_option maxHeartbeats 4000000 in
theorem sX4_wordOfLeastCost (l : Launch) (X : m_X) (hX : m_inj X.1) : m_Sound l X 6 yX4_wordOfLeastCost cX4_wordOfLeastCost 8 (some .int) wX4_wordOfLeastCost := m_sound_of hX (by decide) (fun p e s m args below meth c q C hr => m_bt_all (m_bt_all (m_bt_all (m_bt_all (m_bt_all (m_lf_all (o_aload_n C (i := 1) rfl dX4_wordOfLeastCost_0 rfl)) (m_bt_all (m_lf_all (o_aload_n C (i := 2) rfl dX4_wordOfLeastCost_1 rfl)) (m_lf_all (o_callV C (T := TX1) (N := 11) (sX1_run l X hX) rfl (m_in_of [758, 595, 596, 75] (by decide +kernel) (by decide +kernel)) (m_tb_of 597 (by decide +kernel) rfl) (by decide +kernel) rfl ⟨Nat.le_of_ble_eq_true rfl, Nat.le_of_ble_eq_true rfl⟩ dX4_wordOfLeastCost_2 rfl)))) (m_bt_all (m_lf_all (o_aload_n C (i := 1) rfl dX4_wordOfLeastCost_5 rfl)) (m_bt_all (m_lf_all (o_callV C (T := TX1) (N := 11) (sX1_allCost l X hX) rfl (m_in_of [759, 707, 708, 75] (by decide +kernel) (by decide +kernel)) (m_tb_of 709 (by decide +kernel) rfl) (by decide +kernel) rfl ⟨Nat.le_of_ble_eq_true rfl, Nat.le_of_ble_eq_true rfl⟩ dX4_wordOfLeastCost_6 rfl)) (m_lf_all (o_istore_n C (i := 3) rfl dX4_wordOfLeastCost_9 rfl))))) (m_bt_all (m_bt_all (m_lf_all (o_bipush C (x := (-9)) (m_rngd rfl) rfl dX4_wordOfLeastCost_10 rfl)) (m_bt_all (m_lf_all (o_istore C dX4_wordOfLeastCost_12 rfl)) (m_lf_all (o_iconst C (x := (0)) (m_rngd rfl) dX4_wordOfLeastCost_14 rfl)))) (m_bt_all (m_bt_all (m_lf_all (o_istore C dX4_wordOfLeastCost_15 rfl)) (m_lf_all (o_iload C dX4_wordOfLeastCost_17 rfl))) (m_bt_all (m_lf_all (o_aload_n C (i := 2) rfl dX4_wordOfLeastCost_19 rfl)) (m_lf_all (o_get C (ci := 2) (k := 1) (N := 8) (rf := RX2) (T := TX2) rfl ginX2 (Nat.le_of_ble_eq_true rfl) (m_tb_of 111 (by decide +kernel) rfl) dX4_wordOfLeastCost_20 rfl)))))) (m_bt_all (m_bt_all (m_bt_all (m_lf_all (o_icmp_ge C dX4_wordOfLeastCost_23 rfl rfl)) (m_bt_all (m_lf_all (o_iconst C (x := (0)) (m_rngd rfl) dX4_wordOfLeastCost_26 rfl)) (m_lf_all (o_istore C dX4_wordOfLeastCost_27 rfl)))) (m_bt_all (m_lf_all (o_iload C dX4_wordOfLeastCost_29 rfl)) (m_bt_all (m_lf_all (o_bipush C (x := (31)) (m_rngd rfl) rfl dX4_wordOfLeastCost_31 rfl)) (m_lf_all (o_icmp_gt C dX4_wordOfLeastCost_33 rfl rfl))))) (m_bt_all (m_bt_all (m_lf_all (o_aload_n C (i := 0) rfl dX4_wordOfLeastCost_36 rfl)) (m_bt_all (m_lf_all (o_get C (ci := 4) (k := 0) (N := 1) (rf := RX4) (T := TX4) rfl ginX4 (Nat.le_of_ble_eq_true rfl) (m_tb_of 328 (by decide +kernel) rfl) dX4_wordOfLeastCost_37 rfl)) (m_lf_all (o_aload_n C (i := 2) rfl dX4_wordOfLeastCost_40 rfl)))) (m_bt_all (m_bt_all (m_lf_all (o_callV C (T := TX2) (N := 8) (sX2_copy l X hX) rfl (m_in_of [760, 503, 504, 73] (by decide +kernel) (by decide +kernel)) (m_tb_of 505 (by decide +kernel) rfl) (by decide +kernel) rfl ⟨Nat.le_of_ble_eq_true rfl, Nat.le_of_ble_eq_true rfl⟩ dX4_wordOfLeastCost_41 rfl)) (m_lf_all (o_aload_n C (i := 0) rfl dX4_wordOfLeastCost_44 rfl))) (m_bt_all (m_lf_all (o_get C (ci := 4) (k := 0) (N := 1) (rf := RX4) (T := TX4) rfl ginX4 (Nat.le_of_ble_eq_true rfl) (m_tb_of 328 (by decide +kernel) rfl) dX4_wordOfLeastCost_45 rfl)) (m_lf_all (o_iload C dX4_wordOfLeastCost_48 rfl))))))) (m_bt_all (m_bt_all (m_bt_all (m_bt_all (m_lf_all (o_iload C dX4_wordOfLeastCost_50 rfl)) (m_bt_all (m_lf_all (o_callV C (T := TX2) (N := 8) (sX2_tellWordAlone l X hX) rfl (m_in_of [761, 522, 523, 73] (by decide +kernel) (by decide +kernel)) (m_tb_of 524 (by decide +kernel) rfl) (by decide +kernel) rfl ⟨Nat.le_of_ble_eq_true rfl, Nat.le_of_ble_eq_true rfl⟩ dX4_wordOfLeastCost_52 rfl)) (m_lf_all (o_aload_n C (i := 1) rfl dX4_wordOfLeastCost_55 rfl)))) (m_bt_all (m_lf_all (o_aload_n C (i := 0) rfl dX4_wordOfLeastCost_56 rfl)) (m_bt_all (m_lf_all (o_get C (ci := 4) (k := 0) (N := 1) (rf := RX4) (T := TX4) rfl ginX4 (Nat.le_of_ble_eq_true rfl) (m_tb_of 328 (by decide +kernel) rfl) dX4_wordOfLeastCost_57 rfl)) (m_lf_all (o_callV C (T := TX1) (N := 11) (sX1_run l X hX) rfl (m_in_of [758, 595, 596, 75] (by decide +kernel) (by decide +kernel)) (m_tb_of 597 (by decide +kernel) rfl) (by decide +kernel) rfl ⟨Nat.le_of_ble_eq_true rfl, Nat.le_of_ble_eq_true rfl⟩ dX4_wordOfLeastCost_60 rfl))))) (m_bt_all (m_bt_all (m_lf_all (o_aload_n C (i := 1) rfl dX4_wordOfLeastCost_63 rfl)) (m_bt_all (m_lf_all (o_callV C (T := TX1) (N := 11) (sX1_allCost l X hX) rfl (m_in_of [759, 707, 708, 75] (by decide +kernel) (by decide +kernel)) (m_tb_of 709 (by decide +kernel) rfl) (by decide +kernel) rfl ⟨Nat.le_of_ble_eq_true rfl, Nat.le_of_ble_eq_true rfl⟩ dX4_wordOfLeastCost_64 rfl)) (m_lf_all (o_istore C dX4_wordOfLeastCost_67 rfl)))) (m_bt_all (m_bt_all (m_lf_all (o_iload C dX4_wordOfLeastCost_69 rfl)) (m_lf_all (o_iload_n C (i := 3) rfl dX4_wordOfLeastCost_71 rfl))) (m_bt_all (m_lf_all (o_icmp_ge C dX4_wordOfLeastCost_72 rfl rfl)) (m_lf_all (o_iload C dX4_wordOfLeastCost_75 rfl)))))) (m_bt_all (m_bt_all (m_bt_all (m_lf_all (o_istore_n C (i := 3) rfl dX4_wordOfLeastCost_77 rfl)) (m_bt_all (m_lf_all (o_bipush C (x := (100)) (m_rngd rfl) rfl dX4_wordOfLeastCost_78 rfl)) (m_lf_all (o_iload C dX4_wordOfLeastCost_80 rfl)))) (m_bt_all (m_lf_all (o_imul C dX4_wordOfLeastCost_82 rfl)) (m_bt_all (m_lf_all (o_iload C dX4_wordOfLeastCost_83 rfl)) (m_lf_all (o_iadd C dX4_wordOfLeastCost_85 rfl))))) (m_bt_all (m_bt_all (m_lf_all (o_istore C dX4_wordOfLeastCost_86 rfl)) (m_bt_all (m_lf_all (o_iinc C dX4_wordOfLeastCost_88 rfl)) (m_lf_all (o_goto C dX4_wordOfLeastCost_91 rfl)))) (m_bt_all (m_bt_all (m_lf_all (o_iinc C dX4_wordOfLeastCost_94 rfl)) (m_lf_all (o_goto C dX4_wordOfLeastCost_97 rfl))) (m_bt_all (m_lf_all (o_iload C dX4_wordOfLeastCost_100 rfl)) (m_lf_all (o_iret C hr dX4_wordOfLeastCost_102))))))))
set_option maxRecDepth 20000 in
def kX4_lanesForCost : m_C := m_bt 29 (m_bt 13 (m_bt 5 (m_bt 1 (m_lf 0 (s_ald 1 0)) (m_bt 4 (m_lf 1 (s_get 4 4 0)) (m_lf 4 (s_ald 5 2)))) (m_bt 9 (m_bt 8 (m_lf 5 (s_callV 8 2 2 wX2_copy)) (m_lf 8 (s_push 9 (.inl (1))))) (m_bt 11 (m_lf 9 (s_ist 11 4)) (m_lf 11 (s_ild 13 4))))) (m_bt 20 (m_bt 14 (m_lf 13 (s_ald 14 2)) (m_bt 17 (m_lf 14 (s_get 17 2 1)) (m_lf 17 (s_icmp 20 54 (fun x y => y < x))))) (m_bt 24 (m_bt 21 (m_lf 20 (s_ald 21 0)) (m_lf 21 (s_get 24 4 0))) (m_bt 26 (m_lf 24 (s_ild 26 4)) (m_lf 26 (s_put 29 2 1)))))) (m_bt 42 (m_bt 34 (m_bt 30 (m_lf 29 (s_ald 30 1)) (m_bt 31 (m_lf 30 (s_ald 31 0)) (m_lf 31 (s_get 34 4 0)))) (m_bt 38 (m_bt 37 (m_lf 34 (s_callV 37 2 1 wX1_run)) (m_lf 37 (s_ald 38 1))) (m_bt 41 (m_lf 38 (s_callV 41 1 1 wX1_allCost)) (m_lf 41 (s_ild 42 3))))) (m_bt 48 (m_bt 45 (m_lf 42 (s_icmp 45 48 (fun x y => y < x))) (m_bt 47 (m_lf 45 (s_ild 47 4)) (m_lf 47 (s_ret)))) (m_bt 54 (m_bt 51 (m_lf 48 (s_inc 51 4 (1))) (m_lf 51 (s_goto 11))) (m_bt 56 (m_lf 54 (s_push 56 (.inl (-9)))) (m_lf 56 (s_ret))))))
theorem kX4_lanesForCost_0 : kX4_lanesForCost 0 = some (s_ald 1 0) := rfl
theorem kX4_lanesForCost_1 : kX4_lanesForCost 1 = some (s_get 4 4 0) := rfl
theorem kX4_lanesForCost_4 : kX4_lanesForCost 4 = some (s_ald 5 2) := rfl
theorem kX4_lanesForCost_5 : kX4_lanesForCost 5 = some (s_callV 8 2 2 wX2_copy) := rfl
theorem kX4_lanesForCost_8 : kX4_lanesForCost 8 = some (s_push 9 (.inl (1))) := rfl
theorem kX4_lanesForCost_9 : kX4_lanesForCost 9 = some (s_ist 11 4) := rfl
theorem kX4_lanesForCost_11 : kX4_lanesForCost 11 = some (s_ild 13 4) := rfl
theorem kX4_lanesForCost_13 : kX4_lanesForCost 13 = some (s_ald 14 2) := rfl
theorem kX4_lanesForCost_14 : kX4_lanesForCost 14 = some (s_get 17 2 1) := rfl
theorem kX4_lanesForCost_17 : kX4_lanesForCost 17 = some (s_icmp 20 54 (fun x y => y < x)) := rfl
theorem kX4_lanesForCost_20 : kX4_lanesForCost 20 = some (s_ald 21 0) := rfl
theorem kX4_lanesForCost_21 : kX4_lanesForCost 21 = some (s_get 24 4 0) := rfl
theorem kX4_lanesForCost_24 : kX4_lanesForCost 24 = some (s_ild 26 4) := rfl
theorem kX4_lanesForCost_26 : kX4_lanesForCost 26 = some (s_put 29 2 1) := rfl
theorem kX4_lanesForCost_29 : kX4_lanesForCost 29 = some (s_ald 30 1) := rfl
theorem kX4_lanesForCost_30 : kX4_lanesForCost 30 = some (s_ald 31 0) := rfl
theorem kX4_lanesForCost_31 : kX4_lanesForCost 31 = some (s_get 34 4 0) := rfl
theorem kX4_lanesForCost_34 : kX4_lanesForCost 34 = some (s_callV 37 2 1 wX1_run) := rfl
theorem kX4_lanesForCost_37 : kX4_lanesForCost 37 = some (s_ald 38 1) := rfl
theorem kX4_lanesForCost_38 : kX4_lanesForCost 38 = some (s_callV 41 1 1 wX1_allCost) := rfl
theorem kX4_lanesForCost_41 : kX4_lanesForCost 41 = some (s_ild 42 3) := rfl
theorem kX4_lanesForCost_42 : kX4_lanesForCost 42 = some (s_icmp 45 48 (fun x y => y < x)) := rfl
theorem kX4_lanesForCost_45 : kX4_lanesForCost 45 = some (s_ild 47 4) := rfl
theorem kX4_lanesForCost_47 : kX4_lanesForCost 47 = some (s_ret) := rfl
theorem kX4_lanesForCost_48 : kX4_lanesForCost 48 = some (s_inc 51 4 (1)) := rfl
theorem kX4_lanesForCost_51 : kX4_lanesForCost 51 = some (s_goto 11) := rfl
theorem kX4_lanesForCost_54 : kX4_lanesForCost 54 = some (s_push 56 (.inl (-9))) := rfl
theorem kX4_lanesForCost_56 : kX4_lanesForCost 56 = some (s_ret) := rfl
def wX4_lanesForCost : m_GK := m_wp 5 kX4_lanesForCost
set_option maxRecDepth 100000 in
set_option maxHeartbeats 4000000 in
theorem sX4_lanesForCost (l : Launch) (X : m_X) (hX : m_inj X.1) : m_Sound l X 6 yX4_lanesForCost cX4_lanesForCost 5 (some .int) wX4_lanesForCost := m_sound_of hX (by decide) (fun p e s m args below meth c q C hr => m_bt_all (m_bt_all (m_bt_all (m_bt_all (m_lf_all (o_aload_n C (i := 0) rfl dX4_lanesForCost_0 rfl)) (m_bt_all (m_lf_all (o_get C (ci := 4) (k := 0) (N := 1) (rf := RX4) (T := TX4) rfl ginX4 (Nat.le_of_ble_eq_true rfl) (m_tb_of 328 (by decide +kernel) rfl) dX4_lanesForCost_1 rfl)) (m_lf_all (o_aload_n C (i := 2) rfl dX4_lanesForCost_4 rfl)))) (m_bt_all (m_bt_all (m_lf_all (o_callV C (T := TX2) (N := 8) (sX2_copy l X hX) rfl (m_in_of [760, 503, 504, 73] (by decide +kernel) (by decide +kernel)) (m_tb_of 505 (by decide +kernel) rfl) (by decide +kernel) rfl ⟨Nat.le_of_ble_eq_true rfl, Nat.le_of_ble_eq_true rfl⟩ dX4_lanesForCost_5 rfl)) (m_lf_all (o_iconst C (x := (1)) (m_rngd rfl) dX4_lanesForCost_8 rfl))) (m_bt_all (m_lf_all (o_istore C dX4_lanesForCost_9 rfl)) (m_lf_all (o_iload C dX4_lanesForCost_11 rfl))))) (m_bt_all (m_bt_all (m_lf_all (o_aload_n C (i := 2) rfl dX4_lanesForCost_13 rfl)) (m_bt_all (m_lf_all (o_get C (ci := 2) (k := 1) (N := 8) (rf := RX2) (T := TX2) rfl ginX2 (Nat.le_of_ble_eq_true rfl) (m_tb_of 111 (by decide +kernel) rfl) dX4_lanesForCost_14 rfl)) (m_lf_all (o_icmp_gt C dX4_lanesForCost_17 rfl rfl)))) (m_bt_all (m_bt_all (m_lf_all (o_aload_n C (i := 0) rfl dX4_lanesForCost_20 rfl)) (m_lf_all (o_get C (ci := 4) (k := 0) (N := 1) (rf := RX4) (T := TX4) rfl ginX4 (Nat.le_of_ble_eq_true rfl) (m_tb_of 328 (by decide +kernel) rfl) dX4_lanesForCost_21 rfl))) (m_bt_all (m_lf_all (o_iload C dX4_lanesForCost_24 rfl)) (m_lf_all (o_put C (ci := 2) (k := 1) (N := 8) (rf := RX2) (T := TX2) rfl ginX2 (Nat.le_of_ble_eq_true rfl) (m_tb_of 111 (by decide +kernel) rfl) (ty0 := tyX2) tyX2_ok nmX2 rfl rfl dX4_lanesForCost_26 rfl)))))) (m_bt_all (m_bt_all (m_bt_all (m_lf_all (o_aload_n C (i := 1) rfl dX4_lanesForCost_29 rfl)) (m_bt_all (m_lf_all (o_aload_n C (i := 0) rfl dX4_lanesForCost_30 rfl)) (m_lf_all (o_get C (ci := 4) (k := 0) (N := 1) (rf := RX4) (T := TX4) rfl ginX4 (Nat.le_of_ble_eq_true rfl) (m_tb_of 328 (by decide +kernel) rfl) dX4_lanesForCost_31 rfl)))) (m_bt_all (m_bt_all (m_lf_all (o_callV C (T := TX1) (N := 11) (sX1_run l X hX) rfl (m_in_of [758, 595, 596, 75] (by decide +kernel) (by decide +kernel)) (m_tb_of 597 (by decide +kernel) rfl) (by decide +kernel) rfl ⟨Nat.le_of_ble_eq_true rfl, Nat.le_of_ble_eq_true rfl⟩ dX4_lanesForCost_34 rfl)) (m_lf_all (o_aload_n C (i := 1) rfl dX4_lanesForCost_37 rfl))) (m_bt_all (m_lf_all (o_callV C (T := TX1) (N := 11) (sX1_allCost l X hX) rfl (m_in_of [759, 707, 708, 75] (by decide +kernel) (by decide +kernel)) (m_tb_of 709 (by decide +kernel) rfl) (by decide +kernel) rfl ⟨Nat.le_of_ble_eq_true rfl, Nat.le_of_ble_eq_true rfl⟩ dX4_lanesForCost_38 rfl)) (m_lf_all (o_iload_n C (i := 3) rfl dX4_lanesForCost_41 rfl))))) (m_bt_all (m_bt_all (m_lf_all (o_icmp_gt C dX4_lanesForCost_42 rfl rfl)) (m_bt_all (m_lf_all (o_iload C dX4_lanesForCost_45 rfl)) (m_lf_all (o_iret C hr dX4_lanesForCost_47)))) (m_bt_all (m_bt_all (m_lf_all (o_iinc C dX4_lanesForCost_48 rfl)) (m_lf_all (o_goto C dX4_lanesForCost_51 rfl))) (m_bt_all (m_lf_all (o_bipush C (x := (-9)) (m_rngd rfl) rfl dX4_lanesForCost_54 rfl)) (m_lf_all (o_iret C hr dX4_lanesForCost_56)))))))
set_option maxRecDepth 20000 in
def kX4_switchThatParts : m_C := m_bt 34 (m_bt 16 (m_bt 7 (m_bt 2 (m_bt 1 (m_lf 0 (s_push 1 (.inl (0)))) (m_lf 1 (s_ist 2 3))) (m_bt 3 (m_lf 2 (s_ild 3 3)) (m_bt 6 (m_lf 3 (s_push 6 (.inr (.inr 401)))) (m_lf 6 (s_push 7 (.inl (0))))))) (m_bt 11 (m_bt 8 (m_lf 7 (s_tald 8)) (m_lf 8 (s_icmp 11 75 (fun x y => y < x)))) (m_bt 12 (m_lf 11 (s_ald 12 0)) (m_bt 15 (m_lf 12 (s_get 15 4 0)) (m_lf 15 (s_ald 16 2)))))) (m_bt 27 (m_bt 20 (m_bt 19 (m_lf 16 (s_callV 19 2 2 wX2_copy)) (m_lf 19 (s_ald 20 0))) (m_bt 23 (m_lf 20 (s_get 23 4 0)) (m_bt 26 (m_lf 23 (s_get 26 2 7)) (m_lf 26 (s_push 27 (.inl (0))))))) (m_bt 29 (m_bt 28 (m_lf 27 (s_ild 28 3)) (m_lf 28 (s_iast 29))) (m_bt 30 (m_lf 29 (s_ald 30 1)) (m_bt 31 (m_lf 30 (s_ald 31 0)) (m_lf 31 (s_get 34 4 0))))))) (m_bt 55 (m_bt 44 (m_bt 38 (m_bt 37 (m_lf 34 (s_callV 37 2 1 wX1_run)) (m_lf 37 (s_ald 38 1))) (m_bt 41 (m_lf 38 (s_callV 41 1 1 wX1_allCost)) (m_bt 43 (m_lf 41 (s_ist 43 4)) (m_lf 43 (s_ald 44 0))))) (m_bt 50 (m_bt 47 (m_lf 44 (s_get 47 4 0)) (m_lf 47 (s_callV 50 1 2 wX2_narrowWords))) (m_bt 51 (m_lf 50 (s_ald 51 1)) (m_bt 52 (m_lf 51 (s_ald 52 0)) (m_lf 52 (s_get 55 4 0)))))) (m_bt 67 (m_bt 60 (m_bt 58 (m_lf 55 (s_callV 58 2 1 wX1_run)) (m_lf 58 (s_ild 60 4))) (m_bt 61 (m_lf 60 (s_ald 61 1)) (m_bt 64 (m_lf 61 (s_callV 64 1 1 wX1_allCost)) (m_lf 64 (s_icmp 67 69 (fun x y => x ≤ y)))))) (m_bt 72 (m_bt 68 (m_lf 67 (s_ild 68 3)) (m_bt 69 (m_lf 68 (s_ret)) (m_lf 69 (s_inc 72 3 (1))))) (m_bt 75 (m_lf 72 (s_goto 2)) (m_bt 77 (m_lf 75 (s_push 77 (.inl (-9)))) (m_lf 77 (s_ret)))))))
theorem kX4_switchThatParts_0 : kX4_switchThatParts 0 = some (s_push 1 (.inl (0))) := rfl
theorem kX4_switchThatParts_1 : kX4_switchThatParts 1 = some (s_ist 2 3) := rfl
theorem kX4_switchThatParts_2 : kX4_switchThatParts 2 = some (s_ild 3 3) := rfl
theorem kX4_switchThatParts_3 : kX4_switchThatParts 3 = some (s_push 6 (.inr (.inr 401))) := rfl
theorem kX4_switchThatParts_6 : kX4_switchThatParts 6 = some (s_push 7 (.inl (0))) := rfl
theorem kX4_switchThatParts_7 : kX4_switchThatParts 7 = some (s_tald 8) := rfl
theorem kX4_switchThatParts_8 : kX4_switchThatParts 8 = some (s_icmp 11 75 (fun x y => y < x)) := rfl
theorem kX4_switchThatParts_11 : kX4_switchThatParts 11 = some (s_ald 12 0) := rfl
theorem kX4_switchThatParts_12 : kX4_switchThatParts 12 = some (s_get 15 4 0) := rfl
theorem kX4_switchThatParts_15 : kX4_switchThatParts 15 = some (s_ald 16 2) := rfl
theorem kX4_switchThatParts_16 : kX4_switchThatParts 16 = some (s_callV 19 2 2 wX2_copy) := rfl
theorem kX4_switchThatParts_19 : kX4_switchThatParts 19 = some (s_ald 20 0) := rfl
theorem kX4_switchThatParts_20 : kX4_switchThatParts 20 = some (s_get 23 4 0) := rfl
theorem kX4_switchThatParts_23 : kX4_switchThatParts 23 = some (s_get 26 2 7) := rfl
theorem kX4_switchThatParts_26 : kX4_switchThatParts 26 = some (s_push 27 (.inl (0))) := rfl
theorem kX4_switchThatParts_27 : kX4_switchThatParts 27 = some (s_ild 28 3) := rfl
theorem kX4_switchThatParts_28 : kX4_switchThatParts 28 = some (s_iast 29) := rfl
theorem kX4_switchThatParts_29 : kX4_switchThatParts 29 = some (s_ald 30 1) := rfl
theorem kX4_switchThatParts_30 : kX4_switchThatParts 30 = some (s_ald 31 0) := rfl
theorem kX4_switchThatParts_31 : kX4_switchThatParts 31 = some (s_get 34 4 0) := rfl
theorem kX4_switchThatParts_34 : kX4_switchThatParts 34 = some (s_callV 37 2 1 wX1_run) := rfl
theorem kX4_switchThatParts_37 : kX4_switchThatParts 37 = some (s_ald 38 1) := rfl
theorem kX4_switchThatParts_38 : kX4_switchThatParts 38 = some (s_callV 41 1 1 wX1_allCost) := rfl
theorem kX4_switchThatParts_41 : kX4_switchThatParts 41 = some (s_ist 43 4) := rfl
theorem kX4_switchThatParts_43 : kX4_switchThatParts 43 = some (s_ald 44 0) := rfl
theorem kX4_switchThatParts_44 : kX4_switchThatParts 44 = some (s_get 47 4 0) := rfl
theorem kX4_switchThatParts_47 : kX4_switchThatParts 47 = some (s_callV 50 1 2 wX2_narrowWords) := rfl
theorem kX4_switchThatParts_50 : kX4_switchThatParts 50 = some (s_ald 51 1) := rfl
theorem kX4_switchThatParts_51 : kX4_switchThatParts 51 = some (s_ald 52 0) := rfl
theorem kX4_switchThatParts_52 : kX4_switchThatParts 52 = some (s_get 55 4 0) := rfl
theorem kX4_switchThatParts_55 : kX4_switchThatParts 55 = some (s_callV 58 2 1 wX1_run) := rfl
theorem kX4_switchThatParts_58 : kX4_switchThatParts 58 = some (s_ild 60 4) := rfl
theorem kX4_switchThatParts_60 : kX4_switchThatParts 60 = some (s_ald 61 1) := rfl
theorem kX4_switchThatParts_61 : kX4_switchThatParts 61 = some (s_callV 64 1 1 wX1_allCost) := rfl
theorem kX4_switchThatParts_64 : kX4_switchThatParts 64 = some (s_icmp 67 69 (fun x y => x ≤ y)) := rfl
theorem kX4_switchThatParts_67 : kX4_switchThatParts 67 = some (s_ild 68 3) := rfl
theorem kX4_switchThatParts_68 : kX4_switchThatParts 68 = some (s_ret) := rfl
theorem kX4_switchThatParts_69 : kX4_switchThatParts 69 = some (s_inc 72 3 (1)) := rfl
theorem kX4_switchThatParts_72 : kX4_switchThatParts 72 = some (s_goto 2) := rfl
theorem kX4_switchThatParts_75 : kX4_switchThatParts 75 = some (s_push 77 (.inl (-9))) := rfl
theorem kX4_switchThatParts_77 : kX4_switchThatParts 77 = some (s_ret) := rfl
def wX4_switchThatParts : m_GK := m_wp 5 kX4_switchThatParts
set_option maxRecDepth 100000 in
set_option maxHeartbeats 4000000 in
theorem sX4_switchThatParts (l : Launch) (X : m_X) (hX : m_inj X.1) : m_Sound l X 6 yX4_switchThatParts cX4_switchThatParts 5 (some .int) wX4_switchThatParts := m_sound_of hX (by decide) (fun p e s m args below meth c q C hr => m_bt_all (m_bt_all (m_bt_all (m_bt_all (m_bt_all (m_lf_all (o_iconst C (x := (0)) (m_rngd rfl) dX4_switchThatParts_0 rfl)) (m_lf_all (o_istore_n C (i := 3) rfl dX4_switchThatParts_1 rfl))) (m_bt_all (m_lf_all (o_iload_n C (i := 3) rfl dX4_switchThatParts_2 rfl)) (m_bt_all (m_lf_all (o_getstaticN C (x := 401) (n0 := "MOST_SETTING") (fun h => h.2.1.2.2.2.2.1) (fun h => h.1.2.1.1) dX4_switchThatParts_3 rfl)) (m_lf_all (o_iconst C (x := (0)) (m_rngd rfl) dX4_switchThatParts_6 rfl))))) (m_bt_all (m_bt_all (m_lf_all (o_tald C dX4_switchThatParts_7 rfl)) (m_lf_all (o_icmp_gt C dX4_switchThatParts_8 rfl rfl))) (m_bt_all (m_lf_all (o_aload_n C (i := 0) rfl dX4_switchThatParts_11 rfl)) (m_bt_all (m_lf_all (o_get C (ci := 4) (k := 0) (N := 1) (rf := RX4) (T := TX4) rfl ginX4 (Nat.le_of_ble_eq_true rfl) (m_tb_of 328 (by decide +kernel) rfl) dX4_switchThatParts_12 rfl)) (m_lf_all (o_aload_n C (i := 2) rfl dX4_switchThatParts_15 rfl)))))) (m_bt_all (m_bt_all (m_bt_all (m_lf_all (o_callV C (T := TX2) (N := 8) (sX2_copy l X hX) rfl (m_in_of [760, 503, 504, 73] (by decide +kernel) (by decide +kernel)) (m_tb_of 505 (by decide +kernel) rfl) (by decide +kernel) rfl ⟨Nat.le_of_ble_eq_true rfl, Nat.le_of_ble_eq_true rfl⟩ dX4_switchThatParts_16 rfl)) (m_lf_all (o_aload_n C (i := 0) rfl dX4_switchThatParts_19 rfl))) (m_bt_all (m_lf_all (o_get C (ci := 4) (k := 0) (N := 1) (rf := RX4) (T := TX4) rfl ginX4 (Nat.le_of_ble_eq_true rfl) (m_tb_of 328 (by decide +kernel) rfl) dX4_switchThatParts_20 rfl)) (m_bt_all (m_lf_all (o_get C (ci := 2) (k := 7) (N := 8) (rf := RX2) (T := TX2) rfl ginX2 (Nat.le_of_ble_eq_true rfl) (m_tb_of 127 (by decide +kernel) rfl) dX4_switchThatParts_23 rfl)) (m_lf_all (o_iconst C (x := (0)) (m_rngd rfl) dX4_switchThatParts_26 rfl))))) (m_bt_all (m_bt_all (m_lf_all (o_iload_n C (i := 3) rfl dX4_switchThatParts_27 rfl)) (m_lf_all (o_iast C dX4_switchThatParts_28 rfl))) (m_bt_all (m_lf_all (o_aload_n C (i := 1) rfl dX4_switchThatParts_29 rfl)) (m_bt_all (m_lf_all (o_aload_n C (i := 0) rfl dX4_switchThatParts_30 rfl)) (m_lf_all (o_get C (ci := 4) (k := 0) (N := 1) (rf := RX4) (T := TX4) rfl ginX4 (Nat.le_of_ble_eq_true rfl) (m_tb_of 328 (by decide +kernel) rfl) dX4_switchThatParts_31 rfl))))))) (m_bt_all (m_bt_all (m_bt_all (m_bt_all (m_lf_all (o_callV C (T := TX1) (N := 11) (sX1_run l X hX) rfl (m_in_of [758, 595, 596, 75] (by decide +kernel) (by decide +kernel)) (m_tb_of 597 (by decide +kernel) rfl) (by decide +kernel) rfl ⟨Nat.le_of_ble_eq_true rfl, Nat.le_of_ble_eq_true rfl⟩ dX4_switchThatParts_34 rfl)) (m_lf_all (o_aload_n C (i := 1) rfl dX4_switchThatParts_37 rfl))) (m_bt_all (m_lf_all (o_callV C (T := TX1) (N := 11) (sX1_allCost l X hX) rfl (m_in_of [759, 707, 708, 75] (by decide +kernel) (by decide +kernel)) (m_tb_of 709 (by decide +kernel) rfl) (by decide +kernel) rfl ⟨Nat.le_of_ble_eq_true rfl, Nat.le_of_ble_eq_true rfl⟩ dX4_switchThatParts_38 rfl)) (m_bt_all (m_lf_all (o_istore C dX4_switchThatParts_41 rfl)) (m_lf_all (o_aload_n C (i := 0) rfl dX4_switchThatParts_43 rfl))))) (m_bt_all (m_bt_all (m_lf_all (o_get C (ci := 4) (k := 0) (N := 1) (rf := RX4) (T := TX4) rfl ginX4 (Nat.le_of_ble_eq_true rfl) (m_tb_of 328 (by decide +kernel) rfl) dX4_switchThatParts_44 rfl)) (m_lf_all (o_callV C (T := TX2) (N := 8) (sX2_narrowWords l X hX) rfl (m_in_of [779, 780, 781, 73] (by decide +kernel) (by decide +kernel)) (m_tb_of 782 (by decide +kernel) rfl) (by decide +kernel) rfl ⟨Nat.le_of_ble_eq_true rfl, Nat.le_of_ble_eq_true rfl⟩ dX4_switchThatParts_47 rfl))) (m_bt_all (m_lf_all (o_aload_n C (i := 1) rfl dX4_switchThatParts_50 rfl)) (m_bt_all (m_lf_all (o_aload_n C (i := 0) rfl dX4_switchThatParts_51 rfl)) (m_lf_all (o_get C (ci := 4) (k := 0) (N := 1) (rf := RX4) (T := TX4) rfl ginX4 (Nat.le_of_ble_eq_true rfl) (m_tb_of 328 (by decide +kernel) rfl) dX4_switchThatParts_52 rfl)))))) (m_bt_all (m_bt_all (m_bt_all (m_lf_all (o_callV C (T := TX1) (N := 11) (sX1_run l X hX) rfl (m_in_of [758, 595, 596, 75] (by decide +kernel) (by decide +kernel)) (m_tb_of 597 (by decide +kernel) rfl) (by decide +kernel) rfl ⟨Nat.le_of_ble_eq_true rfl, Nat.le_of_ble_eq_true rfl⟩ dX4_switchThatParts_55 rfl)) (m_lf_all (o_iload C dX4_switchThatParts_58 rfl))) (m_bt_all (m_lf_all (o_aload_n C (i := 1) rfl dX4_switchThatParts_60 rfl)) (m_bt_all (m_lf_all (o_callV C (T := TX1) (N := 11) (sX1_allCost l X hX) rfl (m_in_of [759, 707, 708, 75] (by decide +kernel) (by decide +kernel)) (m_tb_of 709 (by decide +kernel) rfl) (by decide +kernel) rfl ⟨Nat.le_of_ble_eq_true rfl, Nat.le_of_ble_eq_true rfl⟩ dX4_switchThatParts_61 rfl)) (m_lf_all (o_icmp_le C dX4_switchThatParts_64 rfl rfl))))) (m_bt_all (m_bt_all (m_lf_all (o_iload_n C (i := 3) rfl dX4_switchThatParts_67 rfl)) (m_bt_all (m_lf_all (o_iret C hr dX4_switchThatParts_68)) (m_lf_all (o_iinc C dX4_switchThatParts_69 rfl)))) (m_bt_all (m_lf_all (o_goto C dX4_switchThatParts_72 rfl)) (m_bt_all (m_lf_all (o_bipush C (x := (-9)) (m_rngd rfl) rfl dX4_switchThatParts_75 rfl)) (m_lf_all (o_iret C hr dX4_switchThatParts_77))))))))
set_option maxRecDepth 20000 in
def kX4_settingOfLeastCost : m_C := m_bt 42 (m_bt 20 (m_bt 10 (m_bt 4 (m_bt 1 (m_lf 0 (s_ald 1 0)) (m_lf 1 (s_get 4 4 0))) (m_bt 5 (m_lf 4 (s_ald 5 2)) (m_bt 8 (m_lf 5 (s_callV 8 2 2 wX2_copy)) (m_lf 8 (s_push 10 (.inl (-9))))))) (m_bt 15 (m_bt 12 (m_lf 10 (s_ist 12 4)) (m_bt 13 (m_lf 12 (s_push 13 (.inl (0)))) (m_lf 13 (s_ist 15 5)))) (m_bt 18 (m_lf 15 (s_push 18 (.inr (.inr 400)))) (m_bt 19 (m_lf 18 (s_ild 19 3)) (m_lf 19 (s_tald 20)))))) (m_bt 29 (m_bt 24 (m_bt 22 (m_lf 20 (s_ist 22 6)) (m_lf 22 (s_ild 24 6))) (m_bt 27 (m_lf 24 (s_push 27 (.inr (.inr 401)))) (m_bt 28 (m_lf 27 (s_ild 28 3)) (m_lf 28 (s_tald 29))))) (m_bt 36 (m_bt 32 (m_lf 29 (s_icmp 32 85 (fun x y => y < x))) (m_bt 33 (m_lf 32 (s_ald 33 0)) (m_lf 33 (s_get 36 4 0)))) (m_bt 39 (m_lf 36 (s_get 39 2 7)) (m_bt 40 (m_lf 39 (s_ild 40 3)) (m_lf 40 (s_ild 42 6))))))) (m_bt 64 (m_bt 51 (m_bt 44 (m_bt 43 (m_lf 42 (s_iast 43)) (m_lf 43 (s_ald 44 1))) (m_bt 45 (m_lf 44 (s_ald 45 0)) (m_bt 48 (m_lf 45 (s_get 48 4 0)) (m_lf 48 (s_callV 51 2 1 wX1_run))))) (m_bt 57 (m_bt 52 (m_lf 51 (s_ald 52 1)) (m_bt 55 (m_lf 52 (s_callV 55 1 1 wX1_allCost)) (m_lf 55 (s_ist 57 7)))) (m_bt 59 (m_lf 57 (s_ild 59 4)) (m_bt 61 (m_lf 59 (s_push 61 (.inl (-9)))) (m_lf 61 (s_icmp 64 71 (fun x y => x = y))))))) (m_bt 75 (m_bt 68 (m_bt 66 (m_lf 64 (s_ild 66 7)) (m_lf 66 (s_ild 68 5))) (m_bt 71 (m_lf 68 (s_icmp 71 79 (fun x y => y ≤ x))) (m_bt 73 (m_lf 71 (s_ild 73 7)) (m_lf 73 (s_ist 75 5))))) (m_bt 82 (m_bt 77 (m_lf 75 (s_ild 77 6)) (m_bt 79 (m_lf 77 (s_ist 79 4)) (m_lf 79 (s_inc 82 6 (1))))) (m_bt 85 (m_lf 82 (s_goto 22)) (m_bt 87 (m_lf 85 (s_ild 87 4)) (m_lf 87 (s_ret)))))))
theorem kX4_settingOfLeastCost_0 : kX4_settingOfLeastCost 0 = some (s_ald 1 0) := rfl
theorem kX4_settingOfLeastCost_1 : kX4_settingOfLeastCost 1 = some (s_get 4 4 0) := rfl
theorem kX4_settingOfLeastCost_4 : kX4_settingOfLeastCost 4 = some (s_ald 5 2) := rfl
theorem kX4_settingOfLeastCost_5 : kX4_settingOfLeastCost 5 = some (s_callV 8 2 2 wX2_copy) := rfl
theorem kX4_settingOfLeastCost_8 : kX4_settingOfLeastCost 8 = some (s_push 10 (.inl (-9))) := rfl
theorem kX4_settingOfLeastCost_10 : kX4_settingOfLeastCost 10 = some (s_ist 12 4) := rfl
theorem kX4_settingOfLeastCost_12 : kX4_settingOfLeastCost 12 = some (s_push 13 (.inl (0))) := rfl
theorem kX4_settingOfLeastCost_13 : kX4_settingOfLeastCost 13 = some (s_ist 15 5) := rfl
theorem kX4_settingOfLeastCost_15 : kX4_settingOfLeastCost 15 = some (s_push 18 (.inr (.inr 400))) := rfl
theorem kX4_settingOfLeastCost_18 : kX4_settingOfLeastCost 18 = some (s_ild 19 3) := rfl
theorem kX4_settingOfLeastCost_19 : kX4_settingOfLeastCost 19 = some (s_tald 20) := rfl
theorem kX4_settingOfLeastCost_20 : kX4_settingOfLeastCost 20 = some (s_ist 22 6) := rfl
theorem kX4_settingOfLeastCost_22 : kX4_settingOfLeastCost 22 = some (s_ild 24 6) := rfl
theorem kX4_settingOfLeastCost_24 : kX4_settingOfLeastCost 24 = some (s_push 27 (.inr (.inr 401))) := rfl
theorem kX4_settingOfLeastCost_27 : kX4_settingOfLeastCost 27 = some (s_ild 28 3) := rfl
theorem kX4_settingOfLeastCost_28 : kX4_settingOfLeastCost 28 = some (s_tald 29) := rfl
theorem kX4_settingOfLeastCost_29 : kX4_settingOfLeastCost 29 = some (s_icmp 32 85 (fun x y => y < x)) := rfl
theorem kX4_settingOfLeastCost_32 : kX4_settingOfLeastCost 32 = some (s_ald 33 0) := rfl
theorem kX4_settingOfLeastCost_33 : kX4_settingOfLeastCost 33 = some (s_get 36 4 0) := rfl
theorem kX4_settingOfLeastCost_36 : kX4_settingOfLeastCost 36 = some (s_get 39 2 7) := rfl
theorem kX4_settingOfLeastCost_39 : kX4_settingOfLeastCost 39 = some (s_ild 40 3) := rfl
theorem kX4_settingOfLeastCost_40 : kX4_settingOfLeastCost 40 = some (s_ild 42 6) := rfl
theorem kX4_settingOfLeastCost_42 : kX4_settingOfLeastCost 42 = some (s_iast 43) := rfl
theorem kX4_settingOfLeastCost_43 : kX4_settingOfLeastCost 43 = some (s_ald 44 1) := rfl
theorem kX4_settingOfLeastCost_44 : kX4_settingOfLeastCost 44 = some (s_ald 45 0) := rfl
theorem kX4_settingOfLeastCost_45 : kX4_settingOfLeastCost 45 = some (s_get 48 4 0) := rfl
theorem kX4_settingOfLeastCost_48 : kX4_settingOfLeastCost 48 = some (s_callV 51 2 1 wX1_run) := rfl
theorem kX4_settingOfLeastCost_51 : kX4_settingOfLeastCost 51 = some (s_ald 52 1) := rfl
theorem kX4_settingOfLeastCost_52 : kX4_settingOfLeastCost 52 = some (s_callV 55 1 1 wX1_allCost) := rfl
theorem kX4_settingOfLeastCost_55 : kX4_settingOfLeastCost 55 = some (s_ist 57 7) := rfl
theorem kX4_settingOfLeastCost_57 : kX4_settingOfLeastCost 57 = some (s_ild 59 4) := rfl
theorem kX4_settingOfLeastCost_59 : kX4_settingOfLeastCost 59 = some (s_push 61 (.inl (-9))) := rfl
theorem kX4_settingOfLeastCost_61 : kX4_settingOfLeastCost 61 = some (s_icmp 64 71 (fun x y => x = y)) := rfl
theorem kX4_settingOfLeastCost_64 : kX4_settingOfLeastCost 64 = some (s_ild 66 7) := rfl
theorem kX4_settingOfLeastCost_66 : kX4_settingOfLeastCost 66 = some (s_ild 68 5) := rfl
theorem kX4_settingOfLeastCost_68 : kX4_settingOfLeastCost 68 = some (s_icmp 71 79 (fun x y => y ≤ x)) := rfl
theorem kX4_settingOfLeastCost_71 : kX4_settingOfLeastCost 71 = some (s_ild 73 7) := rfl
theorem kX4_settingOfLeastCost_73 : kX4_settingOfLeastCost 73 = some (s_ist 75 5) := rfl
theorem kX4_settingOfLeastCost_75 : kX4_settingOfLeastCost 75 = some (s_ild 77 6) := rfl
theorem kX4_settingOfLeastCost_77 : kX4_settingOfLeastCost 77 = some (s_ist 79 4) := rfl
theorem kX4_settingOfLeastCost_79 : kX4_settingOfLeastCost 79 = some (s_inc 82 6 (1)) := rfl
theorem kX4_settingOfLeastCost_82 : kX4_settingOfLeastCost 82 = some (s_goto 22) := rfl
theorem kX4_settingOfLeastCost_85 : kX4_settingOfLeastCost 85 = some (s_ild 87 4) := rfl
theorem kX4_settingOfLeastCost_87 : kX4_settingOfLeastCost 87 = some (s_ret) := rfl
def wX4_settingOfLeastCost : m_GK := m_wp 8 kX4_settingOfLeastCost
set_option maxRecDepth 100000 in
set_option maxHeartbeats 4000000 in
theorem sX4_settingOfLeastCost (l : Launch) (X : m_X) (hX : m_inj X.1) : m_Sound l X 6 yX4_settingOfLeastCost cX4_settingOfLeastCost 8 (some .int) wX4_settingOfLeastCost := m_sound_of hX (by decide) (fun p e s m args below meth c q C hr => m_bt_all (m_bt_all (m_bt_all (m_bt_all (m_bt_all (m_lf_all (o_aload_n C (i := 0) rfl dX4_settingOfLeastCost_0 rfl)) (m_lf_all (o_get C (ci := 4) (k := 0) (N := 1) (rf := RX4) (T := TX4) rfl ginX4 (Nat.le_of_ble_eq_true rfl) (m_tb_of 328 (by decide +kernel) rfl) dX4_settingOfLeastCost_1 rfl))) (m_bt_all (m_lf_all (o_aload_n C (i := 2) rfl dX4_settingOfLeastCost_4 rfl)) (m_bt_all (m_lf_all (o_callV C (T := TX2) (N := 8) (sX2_copy l X hX) rfl (m_in_of [760, 503, 504, 73] (by decide +kernel) (by decide +kernel)) (m_tb_of 505 (by decide +kernel) rfl) (by decide +kernel) rfl ⟨Nat.le_of_ble_eq_true rfl, Nat.le_of_ble_eq_true rfl⟩ dX4_settingOfLeastCost_5 rfl)) (m_lf_all (o_bipush C (x := (-9)) (m_rngd rfl) rfl dX4_settingOfLeastCost_8 rfl))))) (m_bt_all (m_bt_all (m_lf_all (o_istore C dX4_settingOfLeastCost_10 rfl)) (m_bt_all (m_lf_all (o_iconst C (x := (0)) (m_rngd rfl) dX4_settingOfLeastCost_12 rfl)) (m_lf_all (o_istore C dX4_settingOfLeastCost_13 rfl)))) (m_bt_all (m_lf_all (o_getstaticN C (x := 400) (n0 := "LEAST_SETTING") (fun h => h.2.1.2.2.2.2.2) (fun h => h.1.1.1) dX4_settingOfLeastCost_15 rfl)) (m_bt_all (m_lf_all (o_iload_n C (i := 3) rfl dX4_settingOfLeastCost_18 rfl)) (m_lf_all (o_tald C dX4_settingOfLeastCost_19 rfl)))))) (m_bt_all (m_bt_all (m_bt_all (m_lf_all (o_istore C dX4_settingOfLeastCost_20 rfl)) (m_lf_all (o_iload C dX4_settingOfLeastCost_22 rfl))) (m_bt_all (m_lf_all (o_getstaticN C (x := 401) (n0 := "MOST_SETTING") (fun h => h.2.1.2.2.2.2.1) (fun h => h.1.2.1.1) dX4_settingOfLeastCost_24 rfl)) (m_bt_all (m_lf_all (o_iload_n C (i := 3) rfl dX4_settingOfLeastCost_27 rfl)) (m_lf_all (o_tald C dX4_settingOfLeastCost_28 rfl))))) (m_bt_all (m_bt_all (m_lf_all (o_icmp_gt C dX4_settingOfLeastCost_29 rfl rfl)) (m_bt_all (m_lf_all (o_aload_n C (i := 0) rfl dX4_settingOfLeastCost_32 rfl)) (m_lf_all (o_get C (ci := 4) (k := 0) (N := 1) (rf := RX4) (T := TX4) rfl ginX4 (Nat.le_of_ble_eq_true rfl) (m_tb_of 328 (by decide +kernel) rfl) dX4_settingOfLeastCost_33 rfl)))) (m_bt_all (m_lf_all (o_get C (ci := 2) (k := 7) (N := 8) (rf := RX2) (T := TX2) rfl ginX2 (Nat.le_of_ble_eq_true rfl) (m_tb_of 127 (by decide +kernel) rfl) dX4_settingOfLeastCost_36 rfl)) (m_bt_all (m_lf_all (o_iload_n C (i := 3) rfl dX4_settingOfLeastCost_39 rfl)) (m_lf_all (o_iload C dX4_settingOfLeastCost_40 rfl))))))) (m_bt_all (m_bt_all (m_bt_all (m_bt_all (m_lf_all (o_iast C dX4_settingOfLeastCost_42 rfl)) (m_lf_all (o_aload_n C (i := 1) rfl dX4_settingOfLeastCost_43 rfl))) (m_bt_all (m_lf_all (o_aload_n C (i := 0) rfl dX4_settingOfLeastCost_44 rfl)) (m_bt_all (m_lf_all (o_get C (ci := 4) (k := 0) (N := 1) (rf := RX4) (T := TX4) rfl ginX4 (Nat.le_of_ble_eq_true rfl) (m_tb_of 328 (by decide +kernel) rfl) dX4_settingOfLeastCost_45 rfl)) (m_lf_all (o_callV C (T := TX1) (N := 11) (sX1_run l X hX) rfl (m_in_of [758, 595, 596, 75] (by decide +kernel) (by decide +kernel)) (m_tb_of 597 (by decide +kernel) rfl) (by decide +kernel) rfl ⟨Nat.le_of_ble_eq_true rfl, Nat.le_of_ble_eq_true rfl⟩ dX4_settingOfLeastCost_48 rfl))))) (m_bt_all (m_bt_all (m_lf_all (o_aload_n C (i := 1) rfl dX4_settingOfLeastCost_51 rfl)) (m_bt_all (m_lf_all (o_callV C (T := TX1) (N := 11) (sX1_allCost l X hX) rfl (m_in_of [759, 707, 708, 75] (by decide +kernel) (by decide +kernel)) (m_tb_of 709 (by decide +kernel) rfl) (by decide +kernel) rfl ⟨Nat.le_of_ble_eq_true rfl, Nat.le_of_ble_eq_true rfl⟩ dX4_settingOfLeastCost_52 rfl)) (m_lf_all (o_istore C dX4_settingOfLeastCost_55 rfl)))) (m_bt_all (m_lf_all (o_iload C dX4_settingOfLeastCost_57 rfl)) (m_bt_all (m_lf_all (o_bipush C (x := (-9)) (m_rngd rfl) rfl dX4_settingOfLeastCost_59 rfl)) (m_lf_all (o_icmp_eq C dX4_settingOfLeastCost_61 rfl rfl)))))) (m_bt_all (m_bt_all (m_bt_all (m_lf_all (o_iload C dX4_settingOfLeastCost_64 rfl)) (m_lf_all (o_iload C dX4_settingOfLeastCost_66 rfl))) (m_bt_all (m_lf_all (o_icmp_ge C dX4_settingOfLeastCost_68 rfl rfl)) (m_bt_all (m_lf_all (o_iload C dX4_settingOfLeastCost_71 rfl)) (m_lf_all (o_istore C dX4_settingOfLeastCost_73 rfl))))) (m_bt_all (m_bt_all (m_lf_all (o_iload C dX4_settingOfLeastCost_75 rfl)) (m_bt_all (m_lf_all (o_istore C dX4_settingOfLeastCost_77 rfl)) (m_lf_all (o_iinc C dX4_settingOfLeastCost_79 rfl)))) (m_bt_all (m_lf_all (o_goto C dX4_settingOfLeastCost_82 rfl)) (m_bt_all (m_lf_all (o_iload C dX4_settingOfLeastCost_85 rfl)) (m_lf_all (o_iret C hr dX4_settingOfLeastCost_87))))))))
set_option maxRecDepth 20000 in
def kX4_savedByBuying : m_C := m_bt 51 (m_bt 26 (m_bt 13 (m_bt 5 (m_bt 1 (m_lf 0 (s_ald 1 0)) (m_bt 4 (m_lf 1 (s_get 4 4 0)) (m_lf 4 (s_ald 5 2)))) (m_bt 9 (m_bt 8 (m_lf 5 (s_callV 8 2 2 wX2_copy)) (m_lf 8 (s_push 9 (.inl (0))))) (m_bt 11 (m_lf 9 (s_ist 11 6)) (m_lf 11 (s_ild 13 6))))) (m_bt 18 (m_bt 14 (m_lf 13 (s_push 14 (.inl (4)))) (m_bt 17 (m_lf 14 (s_icmp 17 79 (fun x y => y ≤ x))) (m_lf 17 (s_ald 18 2)))) (m_bt 21 (m_bt 19 (m_lf 18 (s_ild 19 3)) (m_lf 19 (s_ild 21 6))) (m_bt 24 (m_lf 21 (s_callV 24 3 2 wX2_comersOf)) (m_lf 24 (s_ist 26 7)))))) (m_bt 37 (m_bt 31 (m_bt 28 (m_lf 26 (s_ild 28 7)) (m_bt 30 (m_lf 28 (s_ild 30 5)) (m_lf 30 (s_bin 31 (fun x y => m_wrap (x * y)))))) (m_bt 34 (m_bt 33 (m_lf 31 (s_push 33 (.inl (100)))) (m_lf 33 (s_div 34))) (m_bt 36 (m_lf 34 (s_ist 36 8)) (m_lf 36 (s_ald 37 0))))) (m_bt 43 (m_bt 40 (m_lf 37 (s_get 40 4 0)) (m_bt 41 (m_lf 40 (s_ild 41 3)) (m_lf 41 (s_ild 43 6)))) (m_bt 47 (m_bt 45 (m_lf 43 (s_ild 45 7)) (m_lf 45 (s_ild 47 8))) (m_bt 48 (m_lf 47 (s_bin 48 (fun x y => m_wrap (x - y)))) (m_lf 48 (s_callV 51 4 2 wX2_tellComers))))))) (m_bt 80 (m_bt 64 (m_bt 57 (m_bt 52 (m_lf 51 (s_ald 52 0)) (m_bt 55 (m_lf 52 (s_get 55 4 0)) (m_lf 55 (s_ild 57 4)))) (m_bt 60 (m_bt 59 (m_lf 57 (s_ild 59 6)) (m_lf 59 (s_ald 60 2))) (m_bt 62 (m_lf 60 (s_ild 62 4)) (m_lf 62 (s_ild 64 6))))) (m_bt 70 (m_bt 67 (m_lf 64 (s_callV 67 3 2 wX2_comersOf)) (m_bt 69 (m_lf 67 (s_ild 69 8)) (m_lf 69 (s_bin 70 (fun x y => m_wrap (x + y)))))) (m_bt 76 (m_bt 73 (m_lf 70 (s_callV 73 4 2 wX2_tellComers)) (m_lf 73 (s_inc 76 6 (1)))) (m_bt 79 (m_lf 76 (s_goto 11)) (m_lf 79 (s_ald 80 1)))))) (m_bt 92 (m_bt 85 (m_bt 81 (m_lf 80 (s_ald 81 2)) (m_bt 84 (m_lf 81 (s_callV 84 2 1 wX1_run)) (m_lf 84 (s_ald 85 1)))) (m_bt 90 (m_bt 88 (m_lf 85 (s_callV 88 1 1 wX1_allCost)) (m_lf 88 (s_ist 90 6))) (m_bt 91 (m_lf 90 (s_ald 91 1)) (m_lf 91 (s_ald 92 0))))) (m_bt 100 (m_bt 95 (m_lf 92 (s_get 95 4 0)) (m_bt 98 (m_lf 95 (s_callV 98 2 1 wX1_run)) (m_lf 98 (s_ild 100 6)))) (m_bt 104 (m_bt 101 (m_lf 100 (s_ald 101 1)) (m_lf 101 (s_callV 104 1 1 wX1_allCost))) (m_bt 105 (m_lf 104 (s_bin 105 (fun x y => m_wrap (x - y)))) (m_lf 105 (s_ret)))))))
theorem kX4_savedByBuying_0 : kX4_savedByBuying 0 = some (s_ald 1 0) := rfl
theorem kX4_savedByBuying_1 : kX4_savedByBuying 1 = some (s_get 4 4 0) := rfl
theorem kX4_savedByBuying_4 : kX4_savedByBuying 4 = some (s_ald 5 2) := rfl
theorem kX4_savedByBuying_5 : kX4_savedByBuying 5 = some (s_callV 8 2 2 wX2_copy) := rfl
theorem kX4_savedByBuying_8 : kX4_savedByBuying 8 = some (s_push 9 (.inl (0))) := rfl
theorem kX4_savedByBuying_9 : kX4_savedByBuying 9 = some (s_ist 11 6) := rfl
theorem kX4_savedByBuying_11 : kX4_savedByBuying 11 = some (s_ild 13 6) := rfl
theorem kX4_savedByBuying_13 : kX4_savedByBuying 13 = some (s_push 14 (.inl (4))) := rfl
theorem kX4_savedByBuying_14 : kX4_savedByBuying 14 = some (s_icmp 17 79 (fun x y => y ≤ x)) := rfl
theorem kX4_savedByBuying_17 : kX4_savedByBuying 17 = some (s_ald 18 2) := rfl
theorem kX4_savedByBuying_18 : kX4_savedByBuying 18 = some (s_ild 19 3) := rfl
theorem kX4_savedByBuying_19 : kX4_savedByBuying 19 = some (s_ild 21 6) := rfl
theorem kX4_savedByBuying_21 : kX4_savedByBuying 21 = some (s_callV 24 3 2 wX2_comersOf) := rfl
theorem kX4_savedByBuying_24 : kX4_savedByBuying 24 = some (s_ist 26 7) := rfl
theorem kX4_savedByBuying_26 : kX4_savedByBuying 26 = some (s_ild 28 7) := rfl
theorem kX4_savedByBuying_28 : kX4_savedByBuying 28 = some (s_ild 30 5) := rfl
theorem kX4_savedByBuying_30 : kX4_savedByBuying 30 = some (s_bin 31 (fun x y => m_wrap (x * y))) := rfl
theorem kX4_savedByBuying_31 : kX4_savedByBuying 31 = some (s_push 33 (.inl (100))) := rfl
theorem kX4_savedByBuying_33 : kX4_savedByBuying 33 = some (s_div 34) := rfl
theorem kX4_savedByBuying_34 : kX4_savedByBuying 34 = some (s_ist 36 8) := rfl
theorem kX4_savedByBuying_36 : kX4_savedByBuying 36 = some (s_ald 37 0) := rfl
theorem kX4_savedByBuying_37 : kX4_savedByBuying 37 = some (s_get 40 4 0) := rfl
theorem kX4_savedByBuying_40 : kX4_savedByBuying 40 = some (s_ild 41 3) := rfl
theorem kX4_savedByBuying_41 : kX4_savedByBuying 41 = some (s_ild 43 6) := rfl
theorem kX4_savedByBuying_43 : kX4_savedByBuying 43 = some (s_ild 45 7) := rfl
theorem kX4_savedByBuying_45 : kX4_savedByBuying 45 = some (s_ild 47 8) := rfl
theorem kX4_savedByBuying_47 : kX4_savedByBuying 47 = some (s_bin 48 (fun x y => m_wrap (x - y))) := rfl
theorem kX4_savedByBuying_48 : kX4_savedByBuying 48 = some (s_callV 51 4 2 wX2_tellComers) := rfl
theorem kX4_savedByBuying_51 : kX4_savedByBuying 51 = some (s_ald 52 0) := rfl
theorem kX4_savedByBuying_52 : kX4_savedByBuying 52 = some (s_get 55 4 0) := rfl
theorem kX4_savedByBuying_55 : kX4_savedByBuying 55 = some (s_ild 57 4) := rfl
theorem kX4_savedByBuying_57 : kX4_savedByBuying 57 = some (s_ild 59 6) := rfl
theorem kX4_savedByBuying_59 : kX4_savedByBuying 59 = some (s_ald 60 2) := rfl
theorem kX4_savedByBuying_60 : kX4_savedByBuying 60 = some (s_ild 62 4) := rfl
theorem kX4_savedByBuying_62 : kX4_savedByBuying 62 = some (s_ild 64 6) := rfl
theorem kX4_savedByBuying_64 : kX4_savedByBuying 64 = some (s_callV 67 3 2 wX2_comersOf) := rfl
theorem kX4_savedByBuying_67 : kX4_savedByBuying 67 = some (s_ild 69 8) := rfl
theorem kX4_savedByBuying_69 : kX4_savedByBuying 69 = some (s_bin 70 (fun x y => m_wrap (x + y))) := rfl
theorem kX4_savedByBuying_70 : kX4_savedByBuying 70 = some (s_callV 73 4 2 wX2_tellComers) := rfl
theorem kX4_savedByBuying_73 : kX4_savedByBuying 73 = some (s_inc 76 6 (1)) := rfl
theorem kX4_savedByBuying_76 : kX4_savedByBuying 76 = some (s_goto 11) := rfl
theorem kX4_savedByBuying_79 : kX4_savedByBuying 79 = some (s_ald 80 1) := rfl
theorem kX4_savedByBuying_80 : kX4_savedByBuying 80 = some (s_ald 81 2) := rfl
theorem kX4_savedByBuying_81 : kX4_savedByBuying 81 = some (s_callV 84 2 1 wX1_run) := rfl
theorem kX4_savedByBuying_84 : kX4_savedByBuying 84 = some (s_ald 85 1) := rfl
theorem kX4_savedByBuying_85 : kX4_savedByBuying 85 = some (s_callV 88 1 1 wX1_allCost) := rfl
theorem kX4_savedByBuying_88 : kX4_savedByBuying 88 = some (s_ist 90 6) := rfl
theorem kX4_savedByBuying_90 : kX4_savedByBuying 90 = some (s_ald 91 1) := rfl
theorem kX4_savedByBuying_91 : kX4_savedByBuying 91 = some (s_ald 92 0) := rfl
theorem kX4_savedByBuying_92 : kX4_savedByBuying 92 = some (s_get 95 4 0) := rfl
theorem kX4_savedByBuying_95 : kX4_savedByBuying 95 = some (s_callV 98 2 1 wX1_run) := rfl
theorem kX4_savedByBuying_98 : kX4_savedByBuying 98 = some (s_ild 100 6) := rfl
theorem kX4_savedByBuying_100 : kX4_savedByBuying 100 = some (s_ald 101 1) := rfl
theorem kX4_savedByBuying_101 : kX4_savedByBuying 101 = some (s_callV 104 1 1 wX1_allCost) := rfl
theorem kX4_savedByBuying_104 : kX4_savedByBuying 104 = some (s_bin 105 (fun x y => m_wrap (x - y))) := rfl
theorem kX4_savedByBuying_105 : kX4_savedByBuying 105 = some (s_ret) := rfl
def wX4_savedByBuying : m_GK := m_wp 9 kX4_savedByBuying
set_option maxRecDepth 100000 in
set_option maxHeartbeats 4000000 in
theorem sX4_savedByBuying (l : Launch) (X : m_X) (hX : m_inj X.1) : m_Sound l X 6 yX4_savedByBuying cX4_savedByBuying 9 (some .int) wX4_savedByBuying := m_sound_of hX (by decide) (fun p e s m args below meth c q C hr => m_bt_all (m_bt_all (m_bt_all (m_bt_all (m_bt_all (m_lf_all (o_aload_n C (i := 0) rfl dX4_savedByBuying_0 rfl)) (m_bt_all (m_lf_all (o_get C (ci := 4) (k := 0) (N := 1) (rf := RX4) (T := TX4) rfl ginX4 (Nat.le_of_ble_eq_true rfl) (m_tb_of 328 (by decide +kernel) rfl) dX4_savedByBuying_1 rfl)) (m_lf_all (o_aload_n C (i := 2) rfl dX4_savedByBuying_4 rfl)))) (m_bt_all (m_bt_all (m_lf_all (o_callV C (T := TX2) (N := 8) (sX2_copy l X hX) rfl (m_in_of [760, 503, 504, 73] (by decide +kernel) (by decide +kernel)) (m_tb_of 505 (by decide +kernel) rfl) (by decide +kernel) rfl ⟨Nat.le_of_ble_eq_true rfl, Nat.le_of_ble_eq_true rfl⟩ dX4_savedByBuying_5 rfl)) (m_lf_all (o_iconst C (x := (0)) (m_rngd rfl) dX4_savedByBuying_8 rfl))) (m_bt_all (m_lf_all (o_istore C dX4_savedByBuying_9 rfl)) (m_lf_all (o_iload C dX4_savedByBuying_11 rfl))))) (m_bt_all (m_bt_all (m_lf_all (o_iconst C (x := (4)) (m_rngd rfl) dX4_savedByBuying_13 rfl)) (m_bt_all (m_lf_all (o_icmp_ge C dX4_savedByBuying_14 rfl rfl)) (m_lf_all (o_aload_n C (i := 2) rfl dX4_savedByBuying_17 rfl)))) (m_bt_all (m_bt_all (m_lf_all (o_iload_n C (i := 3) rfl dX4_savedByBuying_18 rfl)) (m_lf_all (o_iload C dX4_savedByBuying_19 rfl))) (m_bt_all (m_lf_all (o_callV C (T := TX2) (N := 8) (sX2_comersOf l X hX) rfl (m_in_of [805, 559, 560, 73] (by decide +kernel) (by decide +kernel)) (m_tb_of 561 (by decide +kernel) rfl) (by decide +kernel) rfl ⟨Nat.le_of_ble_eq_true rfl, Nat.le_of_ble_eq_true rfl⟩ dX4_savedByBuying_21 rfl)) (m_lf_all (o_istore C dX4_savedByBuying_24 rfl)))))) (m_bt_all (m_bt_all (m_bt_all (m_lf_all (o_iload C dX4_savedByBuying_26 rfl)) (m_bt_all (m_lf_all (o_iload C dX4_savedByBuying_28 rfl)) (m_lf_all (o_imul C dX4_savedByBuying_30 rfl)))) (m_bt_all (m_bt_all (m_lf_all (o_bipush C (x := (100)) (m_rngd rfl) rfl dX4_savedByBuying_31 rfl)) (m_lf_all (o_idiv C dX4_savedByBuying_33 rfl))) (m_bt_all (m_lf_all (o_istore C dX4_savedByBuying_34 rfl)) (m_lf_all (o_aload_n C (i := 0) rfl dX4_savedByBuying_36 rfl))))) (m_bt_all (m_bt_all (m_lf_all (o_get C (ci := 4) (k := 0) (N := 1) (rf := RX4) (T := TX4) rfl ginX4 (Nat.le_of_ble_eq_true rfl) (m_tb_of 328 (by decide +kernel) rfl) dX4_savedByBuying_37 rfl)) (m_bt_all (m_lf_all (o_iload_n C (i := 3) rfl dX4_savedByBuying_40 rfl)) (m_lf_all (o_iload C dX4_savedByBuying_41 rfl)))) (m_bt_all (m_bt_all (m_lf_all (o_iload C dX4_savedByBuying_43 rfl)) (m_lf_all (o_iload C dX4_savedByBuying_45 rfl))) (m_bt_all (m_lf_all (o_isub C dX4_savedByBuying_47 rfl)) (m_lf_all (o_callV C (T := TX2) (N := 8) (sX2_tellComers l X hX) rfl (m_in_of [806, 537, 538, 73] (by decide +kernel) (by decide +kernel)) (m_tb_of 539 (by decide +kernel) rfl) (by decide +kernel) rfl ⟨Nat.le_of_ble_eq_true rfl, Nat.le_of_ble_eq_true rfl⟩ dX4_savedByBuying_48 rfl))))))) (m_bt_all (m_bt_all (m_bt_all (m_bt_all (m_lf_all (o_aload_n C (i := 0) rfl dX4_savedByBuying_51 rfl)) (m_bt_all (m_lf_all (o_get C (ci := 4) (k := 0) (N := 1) (rf := RX4) (T := TX4) rfl ginX4 (Nat.le_of_ble_eq_true rfl) (m_tb_of 328 (by decide +kernel) rfl) dX4_savedByBuying_52 rfl)) (m_lf_all (o_iload C dX4_savedByBuying_55 rfl)))) (m_bt_all (m_bt_all (m_lf_all (o_iload C dX4_savedByBuying_57 rfl)) (m_lf_all (o_aload_n C (i := 2) rfl dX4_savedByBuying_59 rfl))) (m_bt_all (m_lf_all (o_iload C dX4_savedByBuying_60 rfl)) (m_lf_all (o_iload C dX4_savedByBuying_62 rfl))))) (m_bt_all (m_bt_all (m_lf_all (o_callV C (T := TX2) (N := 8) (sX2_comersOf l X hX) rfl (m_in_of [805, 559, 560, 73] (by decide +kernel) (by decide +kernel)) (m_tb_of 561 (by decide +kernel) rfl) (by decide +kernel) rfl ⟨Nat.le_of_ble_eq_true rfl, Nat.le_of_ble_eq_true rfl⟩ dX4_savedByBuying_64 rfl)) (m_bt_all (m_lf_all (o_iload C dX4_savedByBuying_67 rfl)) (m_lf_all (o_iadd C dX4_savedByBuying_69 rfl)))) (m_bt_all (m_bt_all (m_lf_all (o_callV C (T := TX2) (N := 8) (sX2_tellComers l X hX) rfl (m_in_of [806, 537, 538, 73] (by decide +kernel) (by decide +kernel)) (m_tb_of 539 (by decide +kernel) rfl) (by decide +kernel) rfl ⟨Nat.le_of_ble_eq_true rfl, Nat.le_of_ble_eq_true rfl⟩ dX4_savedByBuying_70 rfl)) (m_lf_all (o_iinc C dX4_savedByBuying_73 rfl))) (m_bt_all (m_lf_all (o_goto C dX4_savedByBuying_76 rfl)) (m_lf_all (o_aload_n C (i := 1) rfl dX4_savedByBuying_79 rfl)))))) (m_bt_all (m_bt_all (m_bt_all (m_lf_all (o_aload_n C (i := 2) rfl dX4_savedByBuying_80 rfl)) (m_bt_all (m_lf_all (o_callV C (T := TX1) (N := 11) (sX1_run l X hX) rfl (m_in_of [758, 595, 596, 75] (by decide +kernel) (by decide +kernel)) (m_tb_of 597 (by decide +kernel) rfl) (by decide +kernel) rfl ⟨Nat.le_of_ble_eq_true rfl, Nat.le_of_ble_eq_true rfl⟩ dX4_savedByBuying_81 rfl)) (m_lf_all (o_aload_n C (i := 1) rfl dX4_savedByBuying_84 rfl)))) (m_bt_all (m_bt_all (m_lf_all (o_callV C (T := TX1) (N := 11) (sX1_allCost l X hX) rfl (m_in_of [759, 707, 708, 75] (by decide +kernel) (by decide +kernel)) (m_tb_of 709 (by decide +kernel) rfl) (by decide +kernel) rfl ⟨Nat.le_of_ble_eq_true rfl, Nat.le_of_ble_eq_true rfl⟩ dX4_savedByBuying_85 rfl)) (m_lf_all (o_istore C dX4_savedByBuying_88 rfl))) (m_bt_all (m_lf_all (o_aload_n C (i := 1) rfl dX4_savedByBuying_90 rfl)) (m_lf_all (o_aload_n C (i := 0) rfl dX4_savedByBuying_91 rfl))))) (m_bt_all (m_bt_all (m_lf_all (o_get C (ci := 4) (k := 0) (N := 1) (rf := RX4) (T := TX4) rfl ginX4 (Nat.le_of_ble_eq_true rfl) (m_tb_of 328 (by decide +kernel) rfl) dX4_savedByBuying_92 rfl)) (m_bt_all (m_lf_all (o_callV C (T := TX1) (N := 11) (sX1_run l X hX) rfl (m_in_of [758, 595, 596, 75] (by decide +kernel) (by decide +kernel)) (m_tb_of 597 (by decide +kernel) rfl) (by decide +kernel) rfl ⟨Nat.le_of_ble_eq_true rfl, Nat.le_of_ble_eq_true rfl⟩ dX4_savedByBuying_95 rfl)) (m_lf_all (o_iload C dX4_savedByBuying_98 rfl)))) (m_bt_all (m_bt_all (m_lf_all (o_aload_n C (i := 1) rfl dX4_savedByBuying_100 rfl)) (m_lf_all (o_callV C (T := TX1) (N := 11) (sX1_allCost l X hX) rfl (m_in_of [759, 707, 708, 75] (by decide +kernel) (by decide +kernel)) (m_tb_of 709 (by decide +kernel) rfl) (by decide +kernel) rfl ⟨Nat.le_of_ble_eq_true rfl, Nat.le_of_ble_eq_true rfl⟩ dX4_savedByBuying_101 rfl))) (m_bt_all (m_lf_all (o_isub C dX4_savedByBuying_104 rfl)) (m_lf_all (o_iret C hr dX4_savedByBuying_105))))))))
set_option maxRecDepth 20000 in
def kX4_lostByFailing : m_C := m_bt 22 (m_bt 12 (m_bt 5 (m_bt 1 (m_lf 0 (s_ald 1 0)) (m_bt 4 (m_lf 1 (s_get 4 4 0)) (m_lf 4 (s_ald 5 2)))) (m_bt 8 (m_lf 5 (s_callV 8 2 2 wX2_copy)) (m_bt 9 (m_lf 8 (s_ald 9 0)) (m_lf 9 (s_get 12 4 0))))) (m_bt 17 (m_bt 13 (m_lf 12 (s_ild 13 3)) (m_bt 15 (m_lf 13 (s_ild 15 4)) (m_lf 15 (s_ild 17 5)))) (m_bt 20 (m_lf 17 (s_callV 20 4 2 wX2_tellNeed)) (m_bt 21 (m_lf 20 (s_ald 21 1)) (m_lf 21 (s_ald 22 2)))))) (m_bt 33 (m_bt 29 (m_bt 25 (m_lf 22 (s_callV 25 2 1 wX1_run)) (m_bt 26 (m_lf 25 (s_ald 26 1)) (m_lf 26 (s_callV 29 1 1 wX1_allCost)))) (m_bt 31 (m_lf 29 (s_ist 31 6)) (m_bt 32 (m_lf 31 (s_ald 32 1)) (m_lf 32 (s_ald 33 0))))) (m_bt 40 (m_bt 36 (m_lf 33 (s_get 36 4 0)) (m_bt 39 (m_lf 36 (s_callV 39 2 1 wX1_run)) (m_lf 39 (s_ald 40 1)))) (m_bt 45 (m_bt 43 (m_lf 40 (s_callV 43 1 1 wX1_allCost)) (m_lf 43 (s_ild 45 6))) (m_bt 46 (m_lf 45 (s_bin 46 (fun x y => m_wrap (x - y)))) (m_lf 46 (s_ret))))))
theorem kX4_lostByFailing_0 : kX4_lostByFailing 0 = some (s_ald 1 0) := rfl
theorem kX4_lostByFailing_1 : kX4_lostByFailing 1 = some (s_get 4 4 0) := rfl
theorem kX4_lostByFailing_4 : kX4_lostByFailing 4 = some (s_ald 5 2) := rfl
theorem kX4_lostByFailing_5 : kX4_lostByFailing 5 = some (s_callV 8 2 2 wX2_copy) := rfl
theorem kX4_lostByFailing_8 : kX4_lostByFailing 8 = some (s_ald 9 0) := rfl
theorem kX4_lostByFailing_9 : kX4_lostByFailing 9 = some (s_get 12 4 0) := rfl
theorem kX4_lostByFailing_12 : kX4_lostByFailing 12 = some (s_ild 13 3) := rfl
theorem kX4_lostByFailing_13 : kX4_lostByFailing 13 = some (s_ild 15 4) := rfl
theorem kX4_lostByFailing_15 : kX4_lostByFailing 15 = some (s_ild 17 5) := rfl
theorem kX4_lostByFailing_17 : kX4_lostByFailing 17 = some (s_callV 20 4 2 wX2_tellNeed) := rfl
theorem kX4_lostByFailing_20 : kX4_lostByFailing 20 = some (s_ald 21 1) := rfl
theorem kX4_lostByFailing_21 : kX4_lostByFailing 21 = some (s_ald 22 2) := rfl
theorem kX4_lostByFailing_22 : kX4_lostByFailing 22 = some (s_callV 25 2 1 wX1_run) := rfl
theorem kX4_lostByFailing_25 : kX4_lostByFailing 25 = some (s_ald 26 1) := rfl
theorem kX4_lostByFailing_26 : kX4_lostByFailing 26 = some (s_callV 29 1 1 wX1_allCost) := rfl
theorem kX4_lostByFailing_29 : kX4_lostByFailing 29 = some (s_ist 31 6) := rfl
theorem kX4_lostByFailing_31 : kX4_lostByFailing 31 = some (s_ald 32 1) := rfl
theorem kX4_lostByFailing_32 : kX4_lostByFailing 32 = some (s_ald 33 0) := rfl
theorem kX4_lostByFailing_33 : kX4_lostByFailing 33 = some (s_get 36 4 0) := rfl
theorem kX4_lostByFailing_36 : kX4_lostByFailing 36 = some (s_callV 39 2 1 wX1_run) := rfl
theorem kX4_lostByFailing_39 : kX4_lostByFailing 39 = some (s_ald 40 1) := rfl
theorem kX4_lostByFailing_40 : kX4_lostByFailing 40 = some (s_callV 43 1 1 wX1_allCost) := rfl
theorem kX4_lostByFailing_43 : kX4_lostByFailing 43 = some (s_ild 45 6) := rfl
theorem kX4_lostByFailing_45 : kX4_lostByFailing 45 = some (s_bin 46 (fun x y => m_wrap (x - y))) := rfl
theorem kX4_lostByFailing_46 : kX4_lostByFailing 46 = some (s_ret) := rfl
def wX4_lostByFailing : m_GK := m_wp 7 kX4_lostByFailing
set_option maxRecDepth 100000 in
set_option maxHeartbeats 4000000 in
theorem sX4_lostByFailing (l : Launch) (X : m_X) (hX : m_inj X.1) : m_Sound l X 6 yX4_lostByFailing cX4_lostByFailing 7 (some .int) wX4_lostByFailing := m_sound_of hX (by decide) (fun p e s m args below meth c q C hr => m_bt_all (m_bt_all (m_bt_all (m_bt_all (m_lf_all (o_aload_n C (i := 0) rfl dX4_lostByFailing_0 rfl)) (m_bt_all (m_lf_all (o_get C (ci := 4) (k := 0) (N := 1) (rf := RX4) (T := TX4) rfl ginX4 (Nat.le_of_ble_eq_true rfl) (m_tb_of 328 (by decide +kernel) rfl) dX4_lostByFailing_1 rfl)) (m_lf_all (o_aload_n C (i := 2) rfl dX4_lostByFailing_4 rfl)))) (m_bt_all (m_lf_all (o_callV C (T := TX2) (N := 8) (sX2_copy l X hX) rfl (m_in_of [760, 503, 504, 73] (by decide +kernel) (by decide +kernel)) (m_tb_of 505 (by decide +kernel) rfl) (by decide +kernel) rfl ⟨Nat.le_of_ble_eq_true rfl, Nat.le_of_ble_eq_true rfl⟩ dX4_lostByFailing_5 rfl)) (m_bt_all (m_lf_all (o_aload_n C (i := 0) rfl dX4_lostByFailing_8 rfl)) (m_lf_all (o_get C (ci := 4) (k := 0) (N := 1) (rf := RX4) (T := TX4) rfl ginX4 (Nat.le_of_ble_eq_true rfl) (m_tb_of 328 (by decide +kernel) rfl) dX4_lostByFailing_9 rfl))))) (m_bt_all (m_bt_all (m_lf_all (o_iload_n C (i := 3) rfl dX4_lostByFailing_12 rfl)) (m_bt_all (m_lf_all (o_iload C dX4_lostByFailing_13 rfl)) (m_lf_all (o_iload C dX4_lostByFailing_15 rfl)))) (m_bt_all (m_lf_all (o_callV C (T := TX2) (N := 8) (sX2_tellNeed l X hX) rfl (m_in_of [815, 816, 817, 73] (by decide +kernel) (by decide +kernel)) (m_tb_of 818 (by decide +kernel) rfl) (by decide +kernel) rfl ⟨Nat.le_of_ble_eq_true rfl, Nat.le_of_ble_eq_true rfl⟩ dX4_lostByFailing_17 rfl)) (m_bt_all (m_lf_all (o_aload_n C (i := 1) rfl dX4_lostByFailing_20 rfl)) (m_lf_all (o_aload_n C (i := 2) rfl dX4_lostByFailing_21 rfl)))))) (m_bt_all (m_bt_all (m_bt_all (m_lf_all (o_callV C (T := TX1) (N := 11) (sX1_run l X hX) rfl (m_in_of [758, 595, 596, 75] (by decide +kernel) (by decide +kernel)) (m_tb_of 597 (by decide +kernel) rfl) (by decide +kernel) rfl ⟨Nat.le_of_ble_eq_true rfl, Nat.le_of_ble_eq_true rfl⟩ dX4_lostByFailing_22 rfl)) (m_bt_all (m_lf_all (o_aload_n C (i := 1) rfl dX4_lostByFailing_25 rfl)) (m_lf_all (o_callV C (T := TX1) (N := 11) (sX1_allCost l X hX) rfl (m_in_of [759, 707, 708, 75] (by decide +kernel) (by decide +kernel)) (m_tb_of 709 (by decide +kernel) rfl) (by decide +kernel) rfl ⟨Nat.le_of_ble_eq_true rfl, Nat.le_of_ble_eq_true rfl⟩ dX4_lostByFailing_26 rfl)))) (m_bt_all (m_lf_all (o_istore C dX4_lostByFailing_29 rfl)) (m_bt_all (m_lf_all (o_aload_n C (i := 1) rfl dX4_lostByFailing_31 rfl)) (m_lf_all (o_aload_n C (i := 0) rfl dX4_lostByFailing_32 rfl))))) (m_bt_all (m_bt_all (m_lf_all (o_get C (ci := 4) (k := 0) (N := 1) (rf := RX4) (T := TX4) rfl ginX4 (Nat.le_of_ble_eq_true rfl) (m_tb_of 328 (by decide +kernel) rfl) dX4_lostByFailing_33 rfl)) (m_bt_all (m_lf_all (o_callV C (T := TX1) (N := 11) (sX1_run l X hX) rfl (m_in_of [758, 595, 596, 75] (by decide +kernel) (by decide +kernel)) (m_tb_of 597 (by decide +kernel) rfl) (by decide +kernel) rfl ⟨Nat.le_of_ble_eq_true rfl, Nat.le_of_ble_eq_true rfl⟩ dX4_lostByFailing_36 rfl)) (m_lf_all (o_aload_n C (i := 1) rfl dX4_lostByFailing_39 rfl)))) (m_bt_all (m_bt_all (m_lf_all (o_callV C (T := TX1) (N := 11) (sX1_allCost l X hX) rfl (m_in_of [759, 707, 708, 75] (by decide +kernel) (by decide +kernel)) (m_tb_of 709 (by decide +kernel) rfl) (by decide +kernel) rfl ⟨Nat.le_of_ble_eq_true rfl, Nat.le_of_ble_eq_true rfl⟩ dX4_lostByFailing_40 rfl)) (m_lf_all (o_iload C dX4_lostByFailing_43 rfl))) (m_bt_all (m_lf_all (o_isub C dX4_lostByFailing_45 rfl)) (m_lf_all (o_iret C hr dX4_lostByFailing_46)))))))
set_option maxRecDepth 20000 in
def kX5_firstLane : m_C := m_bt 13 (m_bt 4 (m_bt 2 (m_bt 1 (m_lf 0 (s_push 1 (.inl (0)))) (m_lf 1 (s_ist 2 2))) (m_bt 3 (m_lf 2 (s_ild 3 2)) (m_lf 3 (s_ald 4 0)))) (m_bt 10 (m_bt 7 (m_lf 4 (s_get 7 2 1)) (m_lf 7 (s_icmp 10 31 (fun x y => y ≤ x)))) (m_bt 11 (m_lf 10 (s_ald 11 0)) (m_bt 12 (m_lf 11 (s_ild 12 2)) (m_lf 12 (s_push 13 (.inl (0)))))))) (m_bt 24 (m_bt 17 (m_bt 16 (m_lf 13 (s_callV 16 3 2 wX2_wordOf)) (m_lf 16 (s_ild 17 1))) (m_bt 20 (m_lf 17 (s_callS 20 2 wX8_hasBit)) (m_bt 23 (m_lf 20 (s_if 23 25 (fun x => x = 0))) (m_lf 23 (s_ild 24 2))))) (m_bt 28 (m_bt 25 (m_lf 24 (s_ret)) (m_lf 25 (s_inc 28 2 (1)))) (m_bt 31 (m_lf 28 (s_goto 2)) (m_bt 33 (m_lf 31 (s_push 33 (.inl (-9)))) (m_lf 33 (s_ret))))))
theorem kX5_firstLane_0 : kX5_firstLane 0 = some (s_push 1 (.inl (0))) := rfl
theorem kX5_firstLane_1 : kX5_firstLane 1 = some (s_ist 2 2) := rfl
theorem kX5_firstLane_2 : kX5_firstLane 2 = some (s_ild 3 2) := rfl
theorem kX5_firstLane_3 : kX5_firstLane 3 = some (s_ald 4 0) := rfl
theorem kX5_firstLane_4 : kX5_firstLane 4 = some (s_get 7 2 1) := rfl
theorem kX5_firstLane_7 : kX5_firstLane 7 = some (s_icmp 10 31 (fun x y => y ≤ x)) := rfl
theorem kX5_firstLane_10 : kX5_firstLane 10 = some (s_ald 11 0) := rfl
theorem kX5_firstLane_11 : kX5_firstLane 11 = some (s_ild 12 2) := rfl
theorem kX5_firstLane_12 : kX5_firstLane 12 = some (s_push 13 (.inl (0))) := rfl
theorem kX5_firstLane_13 : kX5_firstLane 13 = some (s_callV 16 3 2 wX2_wordOf) := rfl
theorem kX5_firstLane_16 : kX5_firstLane 16 = some (s_ild 17 1) := rfl
theorem kX5_firstLane_17 : kX5_firstLane 17 = some (s_callS 20 2 wX8_hasBit) := rfl
theorem kX5_firstLane_20 : kX5_firstLane 20 = some (s_if 23 25 (fun x => x = 0)) := rfl
theorem kX5_firstLane_23 : kX5_firstLane 23 = some (s_ild 24 2) := rfl
theorem kX5_firstLane_24 : kX5_firstLane 24 = some (s_ret) := rfl
theorem kX5_firstLane_25 : kX5_firstLane 25 = some (s_inc 28 2 (1)) := rfl
theorem kX5_firstLane_28 : kX5_firstLane 28 = some (s_goto 2) := rfl
theorem kX5_firstLane_31 : kX5_firstLane 31 = some (s_push 33 (.inl (-9))) := rfl
theorem kX5_firstLane_33 : kX5_firstLane 33 = some (s_ret) := rfl
def wX5_firstLane : m_GK := m_wp 3 kX5_firstLane
set_option maxRecDepth 100000 in
set_option maxHeartbeats 4000000 in
theorem sX5_firstLane (l : Launch) (X : m_X) (hX : m_inj X.1) : m_Sound l X 3 yX5_firstLane cX5_firstLane 3 (some .int) wX5_firstLane := m_sound_of hX (by decide) (fun p e s m args below meth c q C hr => m_bt_all (m_bt_all (m_bt_all (m_bt_all (m_lf_all (o_iconst C (x := (0)) (m_rngd rfl) dX5_firstLane_0 rfl)) (m_lf_all (o_istore_n C (i := 2) rfl dX5_firstLane_1 rfl))) (m_bt_all (m_lf_all (o_iload_n C (i := 2) rfl dX5_firstLane_2 rfl)) (m_lf_all (o_aload_n C (i := 0) rfl dX5_firstLane_3 rfl)))) (m_bt_all (m_bt_all (m_lf_all (o_get C (ci := 2) (k := 1) (N := 8) (rf := RX2) (T := TX2) rfl ginX2 (Nat.le_of_ble_eq_true rfl) (m_tb_of 113 (by decide +kernel) rfl) dX5_firstLane_4 rfl)) (m_lf_all (o_icmp_ge C dX5_firstLane_7 rfl rfl))) (m_bt_all (m_lf_all (o_aload_n C (i := 0) rfl dX5_firstLane_10 rfl)) (m_bt_all (m_lf_all (o_iload_n C (i := 2) rfl dX5_firstLane_11 rfl)) (m_lf_all (o_iconst C (x := (0)) (m_rngd rfl) dX5_firstLane_12 rfl)))))) (m_bt_all (m_bt_all (m_bt_all (m_lf_all (o_callV C (T := TX2) (N := 8) (sX2_wordOf l X hX) rfl (m_in_of [869, 569, 570, 73] (by decide +kernel) (by decide +kernel)) (m_tb_of 571 (by decide +kernel) rfl) (by decide +kernel) rfl ⟨Nat.le_of_ble_eq_true rfl, Nat.le_of_ble_eq_true rfl⟩ dX5_firstLane_13 rfl)) (m_lf_all (o_iload_n C (i := 1) rfl dX5_firstLane_16 rfl))) (m_bt_all (m_lf_all (o_callN C (sX8_hasBit l X hX) (fun h => h.2.1.2.2.1) (m_in_of [657, 72] (by decide +kernel) (by decide +kernel)) (m_tb_of 658 (by decide +kernel) rfl) (by decide +kernel) ⟨Nat.le_of_ble_eq_true rfl, Nat.le_of_ble_eq_true rfl⟩ dX5_firstLane_17 rfl)) (m_bt_all (m_lf_all (o_if_eq C dX5_firstLane_20 rfl rfl)) (m_lf_all (o_iload_n C (i := 2) rfl dX5_firstLane_23 rfl))))) (m_bt_all (m_bt_all (m_lf_all (o_iret C hr dX5_firstLane_24)) (m_lf_all (o_iinc C dX5_firstLane_25 rfl))) (m_bt_all (m_lf_all (o_goto C dX5_firstLane_28 rfl)) (m_bt_all (m_lf_all (o_bipush C (x := (-9)) (m_rngd rfl) rfl dX5_firstLane_31 rfl)) (m_lf_all (o_iret C hr dX5_firstLane_33)))))))
set_option maxRecDepth 20000 in
def kX5_sumWith : m_C := m_bt 29 (m_bt 15 (m_bt 6 (m_bt 3 (m_bt 1 (m_lf 0 (s_push 1 (.inl (0)))) (m_lf 1 (s_ist 3 4))) (m_bt 4 (m_lf 3 (s_push 4 (.inl (0)))) (m_lf 4 (s_ist 6 5)))) (m_bt 9 (m_bt 8 (m_lf 6 (s_ild 8 5)) (m_lf 8 (s_ald 9 1))) (m_bt 12 (m_lf 9 (s_get 12 2 0)) (m_lf 12 (s_icmp 15 58 (fun x y => y ≤ x)))))) (m_bt 22 (m_bt 18 (m_bt 17 (m_lf 15 (s_ild 17 5)) (m_lf 17 (s_ild 18 3))) (m_bt 21 (m_lf 18 (s_icmp 21 32 (fun x y => x = y))) (m_lf 21 (s_ald 22 0)))) (m_bt 27 (m_bt 25 (m_lf 22 (s_get 25 5 0)) (m_lf 25 (s_ild 27 5))) (m_bt 28 (m_lf 27 (s_iald 28)) (m_lf 28 (s_ild 29 2)))))) (m_bt 45 (m_bt 37 (m_bt 34 (m_bt 32 (m_lf 29 (s_icmp 32 52 (fun x y => ¬ x = y))) (m_lf 32 (s_ild 34 4))) (m_bt 35 (m_lf 34 (s_ald 35 1)) (m_lf 35 (s_ild 37 5)))) (m_bt 41 (m_bt 38 (m_lf 37 (s_push 38 (.inl (0)))) (m_lf 38 (s_callV 41 3 2 wX2_comersOf))) (m_bt 42 (m_lf 41 (s_ald 42 1)) (m_lf 42 (s_get 45 2 2))))) (m_bt 50 (m_bt 48 (m_bt 47 (m_lf 45 (s_ild 47 5)) (m_lf 47 (s_iald 48))) (m_bt 49 (m_lf 48 (s_bin 49 (fun x y => m_wrap (x * y)))) (m_lf 49 (s_bin 50 (fun x y => m_wrap (x + y)))))) (m_bt 55 (m_bt 52 (m_lf 50 (s_ist 52 4)) (m_lf 52 (s_inc 55 5 (1)))) (m_bt 58 (m_lf 55 (s_goto 6)) (m_bt 60 (m_lf 58 (s_ild 60 4)) (m_lf 60 (s_ret)))))))
theorem kX5_sumWith_0 : kX5_sumWith 0 = some (s_push 1 (.inl (0))) := rfl
theorem kX5_sumWith_1 : kX5_sumWith 1 = some (s_ist 3 4) := rfl
theorem kX5_sumWith_3 : kX5_sumWith 3 = some (s_push 4 (.inl (0))) := rfl
theorem kX5_sumWith_4 : kX5_sumWith 4 = some (s_ist 6 5) := rfl
theorem kX5_sumWith_6 : kX5_sumWith 6 = some (s_ild 8 5) := rfl
theorem kX5_sumWith_8 : kX5_sumWith 8 = some (s_ald 9 1) := rfl
theorem kX5_sumWith_9 : kX5_sumWith 9 = some (s_get 12 2 0) := rfl
theorem kX5_sumWith_12 : kX5_sumWith 12 = some (s_icmp 15 58 (fun x y => y ≤ x)) := rfl
theorem kX5_sumWith_15 : kX5_sumWith 15 = some (s_ild 17 5) := rfl
theorem kX5_sumWith_17 : kX5_sumWith 17 = some (s_ild 18 3) := rfl
theorem kX5_sumWith_18 : kX5_sumWith 18 = some (s_icmp 21 32 (fun x y => x = y)) := rfl
theorem kX5_sumWith_21 : kX5_sumWith 21 = some (s_ald 22 0) := rfl
theorem kX5_sumWith_22 : kX5_sumWith 22 = some (s_get 25 5 0) := rfl
theorem kX5_sumWith_25 : kX5_sumWith 25 = some (s_ild 27 5) := rfl
theorem kX5_sumWith_27 : kX5_sumWith 27 = some (s_iald 28) := rfl
theorem kX5_sumWith_28 : kX5_sumWith 28 = some (s_ild 29 2) := rfl
theorem kX5_sumWith_29 : kX5_sumWith 29 = some (s_icmp 32 52 (fun x y => ¬ x = y)) := rfl
theorem kX5_sumWith_32 : kX5_sumWith 32 = some (s_ild 34 4) := rfl
theorem kX5_sumWith_34 : kX5_sumWith 34 = some (s_ald 35 1) := rfl
theorem kX5_sumWith_35 : kX5_sumWith 35 = some (s_ild 37 5) := rfl
theorem kX5_sumWith_37 : kX5_sumWith 37 = some (s_push 38 (.inl (0))) := rfl
theorem kX5_sumWith_38 : kX5_sumWith 38 = some (s_callV 41 3 2 wX2_comersOf) := rfl
theorem kX5_sumWith_41 : kX5_sumWith 41 = some (s_ald 42 1) := rfl
theorem kX5_sumWith_42 : kX5_sumWith 42 = some (s_get 45 2 2) := rfl
theorem kX5_sumWith_45 : kX5_sumWith 45 = some (s_ild 47 5) := rfl
theorem kX5_sumWith_47 : kX5_sumWith 47 = some (s_iald 48) := rfl
theorem kX5_sumWith_48 : kX5_sumWith 48 = some (s_bin 49 (fun x y => m_wrap (x * y))) := rfl
theorem kX5_sumWith_49 : kX5_sumWith 49 = some (s_bin 50 (fun x y => m_wrap (x + y))) := rfl
theorem kX5_sumWith_50 : kX5_sumWith 50 = some (s_ist 52 4) := rfl
theorem kX5_sumWith_52 : kX5_sumWith 52 = some (s_inc 55 5 (1)) := rfl
theorem kX5_sumWith_55 : kX5_sumWith 55 = some (s_goto 6) := rfl
theorem kX5_sumWith_58 : kX5_sumWith 58 = some (s_ild 60 4) := rfl
theorem kX5_sumWith_60 : kX5_sumWith 60 = some (s_ret) := rfl
def wX5_sumWith : m_GK := m_wp 6 kX5_sumWith
set_option maxRecDepth 100000 in
set_option maxHeartbeats 4000000 in
theorem sX5_sumWith (l : Launch) (X : m_X) (hX : m_inj X.1) : m_Sound l X 3 yX5_sumWith cX5_sumWith 6 (some .int) wX5_sumWith := m_sound_of hX (by decide) (fun p e s m args below meth c q C hr => m_bt_all (m_bt_all (m_bt_all (m_bt_all (m_bt_all (m_lf_all (o_iconst C (x := (0)) (m_rngd rfl) dX5_sumWith_0 rfl)) (m_lf_all (o_istore C dX5_sumWith_1 rfl))) (m_bt_all (m_lf_all (o_iconst C (x := (0)) (m_rngd rfl) dX5_sumWith_3 rfl)) (m_lf_all (o_istore C dX5_sumWith_4 rfl)))) (m_bt_all (m_bt_all (m_lf_all (o_iload C dX5_sumWith_6 rfl)) (m_lf_all (o_aload_n C (i := 1) rfl dX5_sumWith_8 rfl))) (m_bt_all (m_lf_all (o_get C (ci := 2) (k := 0) (N := 8) (rf := RX2) (T := TX2) rfl ginX2 (Nat.le_of_ble_eq_true rfl) (m_tb_of 106 (by decide +kernel) rfl) dX5_sumWith_9 rfl)) (m_lf_all (o_icmp_ge C dX5_sumWith_12 rfl rfl))))) (m_bt_all (m_bt_all (m_bt_all (m_lf_all (o_iload C dX5_sumWith_15 rfl)) (m_lf_all (o_iload_n C (i := 3) rfl dX5_sumWith_17 rfl))) (m_bt_all (m_lf_all (o_icmp_eq C dX5_sumWith_18 rfl rfl)) (m_lf_all (o_aload_n C (i := 0) rfl dX5_sumWith_21 rfl)))) (m_bt_all (m_bt_all (m_lf_all (o_get C (ci := 5) (k := 0) (N := 1) (rf := RX5) (T := TX5) rfl ginX5 (Nat.le_of_ble_eq_true rfl) (m_tb_of 356 (by decide +kernel) rfl) dX5_sumWith_22 rfl)) (m_lf_all (o_iload C dX5_sumWith_25 rfl))) (m_bt_all (m_lf_all (o_iald C dX5_sumWith_27 rfl)) (m_lf_all (o_iload_n C (i := 2) rfl dX5_sumWith_28 rfl)))))) (m_bt_all (m_bt_all (m_bt_all (m_bt_all (m_lf_all (o_icmp_ne C dX5_sumWith_29 rfl rfl)) (m_lf_all (o_iload C dX5_sumWith_32 rfl))) (m_bt_all (m_lf_all (o_aload_n C (i := 1) rfl dX5_sumWith_34 rfl)) (m_lf_all (o_iload C dX5_sumWith_35 rfl)))) (m_bt_all (m_bt_all (m_lf_all (o_iconst C (x := (0)) (m_rngd rfl) dX5_sumWith_37 rfl)) (m_lf_all (o_callV C (T := TX2) (N := 8) (sX2_comersOf l X hX) rfl (m_in_of [883, 559, 560, 73] (by decide +kernel) (by decide +kernel)) (m_tb_of 561 (by decide +kernel) rfl) (by decide +kernel) rfl ⟨Nat.le_of_ble_eq_true rfl, Nat.le_of_ble_eq_true rfl⟩ dX5_sumWith_38 rfl))) (m_bt_all (m_lf_all (o_aload_n C (i := 1) rfl dX5_sumWith_41 rfl)) (m_lf_all (o_get C (ci := 2) (k := 2) (N := 8) (rf := RX2) (T := TX2) rfl ginX2 (Nat.le_of_ble_eq_true rfl) (m_tb_of 118 (by decide +kernel) rfl) dX5_sumWith_42 rfl))))) (m_bt_all (m_bt_all (m_bt_all (m_lf_all (o_iload C dX5_sumWith_45 rfl)) (m_lf_all (o_iald C dX5_sumWith_47 rfl))) (m_bt_all (m_lf_all (o_imul C dX5_sumWith_48 rfl)) (m_lf_all (o_iadd C dX5_sumWith_49 rfl)))) (m_bt_all (m_bt_all (m_lf_all (o_istore C dX5_sumWith_50 rfl)) (m_lf_all (o_iinc C dX5_sumWith_52 rfl))) (m_bt_all (m_lf_all (o_goto C dX5_sumWith_55 rfl)) (m_bt_all (m_lf_all (o_iload C dX5_sumWith_58 rfl)) (m_lf_all (o_iret C hr dX5_sumWith_60))))))))
set_option maxRecDepth 20000 in
def kX5_leastLane : m_C := m_bt 33 (m_bt 15 (m_bt 6 (m_bt 3 (m_bt 2 (m_lf 0 (s_push 2 (.inl (-9)))) (m_lf 2 (s_ist 3 3))) (m_bt 4 (m_lf 3 (s_push 4 (.inl (0)))) (m_lf 4 (s_ist 6 4)))) (m_bt 9 (m_bt 7 (m_lf 6 (s_push 7 (.inl (0)))) (m_lf 7 (s_ist 9 5))) (m_bt 11 (m_lf 9 (s_ild 11 5)) (m_bt 12 (m_lf 11 (s_ald 12 1)) (m_lf 12 (s_get 15 2 1)))))) (m_bt 22 (m_bt 19 (m_bt 18 (m_lf 15 (s_icmp 18 68 (fun x y => y ≤ x))) (m_lf 18 (s_ald 19 1))) (m_bt 21 (m_lf 19 (s_ild 21 5)) (m_lf 21 (s_push 22 (.inl (0)))))) (m_bt 26 (m_bt 25 (m_lf 22 (s_callV 25 3 2 wX2_wordOf)) (m_lf 25 (s_ild 26 2))) (m_bt 29 (m_lf 26 (s_callS 29 2 wX8_hasBit)) (m_bt 32 (m_lf 29 (s_if 32 62 (fun x => x = 0))) (m_lf 32 (s_ald 33 0))))))) (m_bt 50 (m_bt 40 (m_bt 36 (m_bt 34 (m_lf 33 (s_ald 34 1)) (m_lf 34 (s_ild 36 5))) (m_bt 37 (m_lf 36 (s_ild 37 2)) (m_lf 37 (s_callV 40 4 5 wX5_sumWith)))) (m_bt 43 (m_bt 42 (m_lf 40 (s_ist 42 6)) (m_lf 42 (s_ild 43 3))) (m_bt 45 (m_lf 43 (s_push 45 (.inl (-9)))) (m_bt 48 (m_lf 45 (s_icmp 48 55 (fun x y => x = y))) (m_lf 48 (s_ild 50 6)))))) (m_bt 61 (m_bt 55 (m_bt 52 (m_lf 50 (s_ild 52 4)) (m_lf 52 (s_icmp 55 62 (fun x y => y ≤ x)))) (m_bt 57 (m_lf 55 (s_ild 57 6)) (m_bt 59 (m_lf 57 (s_ist 59 4)) (m_lf 59 (s_ild 61 5))))) (m_bt 65 (m_bt 62 (m_lf 61 (s_ist 62 3)) (m_lf 62 (s_inc 65 5 (1)))) (m_bt 68 (m_lf 65 (s_goto 9)) (m_bt 69 (m_lf 68 (s_ild 69 3)) (m_lf 69 (s_ret)))))))
theorem kX5_leastLane_0 : kX5_leastLane 0 = some (s_push 2 (.inl (-9))) := rfl
theorem kX5_leastLane_2 : kX5_leastLane 2 = some (s_ist 3 3) := rfl
theorem kX5_leastLane_3 : kX5_leastLane 3 = some (s_push 4 (.inl (0))) := rfl
theorem kX5_leastLane_4 : kX5_leastLane 4 = some (s_ist 6 4) := rfl
theorem kX5_leastLane_6 : kX5_leastLane 6 = some (s_push 7 (.inl (0))) := rfl
theorem kX5_leastLane_7 : kX5_leastLane 7 = some (s_ist 9 5) := rfl
theorem kX5_leastLane_9 : kX5_leastLane 9 = some (s_ild 11 5) := rfl
theorem kX5_leastLane_11 : kX5_leastLane 11 = some (s_ald 12 1) := rfl
theorem kX5_leastLane_12 : kX5_leastLane 12 = some (s_get 15 2 1) := rfl
theorem kX5_leastLane_15 : kX5_leastLane 15 = some (s_icmp 18 68 (fun x y => y ≤ x)) := rfl
theorem kX5_leastLane_18 : kX5_leastLane 18 = some (s_ald 19 1) := rfl
theorem kX5_leastLane_19 : kX5_leastLane 19 = some (s_ild 21 5) := rfl
theorem kX5_leastLane_21 : kX5_leastLane 21 = some (s_push 22 (.inl (0))) := rfl
theorem kX5_leastLane_22 : kX5_leastLane 22 = some (s_callV 25 3 2 wX2_wordOf) := rfl
theorem kX5_leastLane_25 : kX5_leastLane 25 = some (s_ild 26 2) := rfl
theorem kX5_leastLane_26 : kX5_leastLane 26 = some (s_callS 29 2 wX8_hasBit) := rfl
theorem kX5_leastLane_29 : kX5_leastLane 29 = some (s_if 32 62 (fun x => x = 0)) := rfl
theorem kX5_leastLane_32 : kX5_leastLane 32 = some (s_ald 33 0) := rfl
theorem kX5_leastLane_33 : kX5_leastLane 33 = some (s_ald 34 1) := rfl
theorem kX5_leastLane_34 : kX5_leastLane 34 = some (s_ild 36 5) := rfl
theorem kX5_leastLane_36 : kX5_leastLane 36 = some (s_ild 37 2) := rfl
theorem kX5_leastLane_37 : kX5_leastLane 37 = some (s_callV 40 4 5 wX5_sumWith) := rfl
theorem kX5_leastLane_40 : kX5_leastLane 40 = some (s_ist 42 6) := rfl
theorem kX5_leastLane_42 : kX5_leastLane 42 = some (s_ild 43 3) := rfl
theorem kX5_leastLane_43 : kX5_leastLane 43 = some (s_push 45 (.inl (-9))) := rfl
theorem kX5_leastLane_45 : kX5_leastLane 45 = some (s_icmp 48 55 (fun x y => x = y)) := rfl
theorem kX5_leastLane_48 : kX5_leastLane 48 = some (s_ild 50 6) := rfl
theorem kX5_leastLane_50 : kX5_leastLane 50 = some (s_ild 52 4) := rfl
theorem kX5_leastLane_52 : kX5_leastLane 52 = some (s_icmp 55 62 (fun x y => y ≤ x)) := rfl
theorem kX5_leastLane_55 : kX5_leastLane 55 = some (s_ild 57 6) := rfl
theorem kX5_leastLane_57 : kX5_leastLane 57 = some (s_ist 59 4) := rfl
theorem kX5_leastLane_59 : kX5_leastLane 59 = some (s_ild 61 5) := rfl
theorem kX5_leastLane_61 : kX5_leastLane 61 = some (s_ist 62 3) := rfl
theorem kX5_leastLane_62 : kX5_leastLane 62 = some (s_inc 65 5 (1)) := rfl
theorem kX5_leastLane_65 : kX5_leastLane 65 = some (s_goto 9) := rfl
theorem kX5_leastLane_68 : kX5_leastLane 68 = some (s_ild 69 3) := rfl
theorem kX5_leastLane_69 : kX5_leastLane 69 = some (s_ret) := rfl
def wX5_leastLane : m_GK := m_wp 7 kX5_leastLane
set_option maxRecDepth 100000 in
set_option maxHeartbeats 4000000 in
theorem sX5_leastLane (l : Launch) (X : m_X) (hX : m_inj X.1) : m_Sound l X 4 yX5_leastLane cX5_leastLane 7 (some .int) wX5_leastLane := m_sound_of hX (by decide) (fun p e s m args below meth c q C hr => m_bt_all (m_bt_all (m_bt_all (m_bt_all (m_bt_all (m_lf_all (o_bipush C (x := (-9)) (m_rngd rfl) rfl dX5_leastLane_0 rfl)) (m_lf_all (o_istore_n C (i := 3) rfl dX5_leastLane_2 rfl))) (m_bt_all (m_lf_all (o_iconst C (x := (0)) (m_rngd rfl) dX5_leastLane_3 rfl)) (m_lf_all (o_istore C dX5_leastLane_4 rfl)))) (m_bt_all (m_bt_all (m_lf_all (o_iconst C (x := (0)) (m_rngd rfl) dX5_leastLane_6 rfl)) (m_lf_all (o_istore C dX5_leastLane_7 rfl))) (m_bt_all (m_lf_all (o_iload C dX5_leastLane_9 rfl)) (m_bt_all (m_lf_all (o_aload_n C (i := 1) rfl dX5_leastLane_11 rfl)) (m_lf_all (o_get C (ci := 2) (k := 1) (N := 8) (rf := RX2) (T := TX2) rfl ginX2 (Nat.le_of_ble_eq_true rfl) (m_tb_of 113 (by decide +kernel) rfl) dX5_leastLane_12 rfl)))))) (m_bt_all (m_bt_all (m_bt_all (m_lf_all (o_icmp_ge C dX5_leastLane_15 rfl rfl)) (m_lf_all (o_aload_n C (i := 1) rfl dX5_leastLane_18 rfl))) (m_bt_all (m_lf_all (o_iload C dX5_leastLane_19 rfl)) (m_lf_all (o_iconst C (x := (0)) (m_rngd rfl) dX5_leastLane_21 rfl)))) (m_bt_all (m_bt_all (m_lf_all (o_callV C (T := TX2) (N := 8) (sX2_wordOf l X hX) rfl (m_in_of [869, 569, 570, 73] (by decide +kernel) (by decide +kernel)) (m_tb_of 571 (by decide +kernel) rfl) (by decide +kernel) rfl ⟨Nat.le_of_ble_eq_true rfl, Nat.le_of_ble_eq_true rfl⟩ dX5_leastLane_22 rfl)) (m_lf_all (o_iload_n C (i := 2) rfl dX5_leastLane_25 rfl))) (m_bt_all (m_lf_all (o_callN C (sX8_hasBit l X hX) (fun h => h.2.1.2.2.1) (m_in_of [657, 72] (by decide +kernel) (by decide +kernel)) (m_tb_of 658 (by decide +kernel) rfl) (by decide +kernel) ⟨Nat.le_of_ble_eq_true rfl, Nat.le_of_ble_eq_true rfl⟩ dX5_leastLane_26 rfl)) (m_bt_all (m_lf_all (o_if_eq C dX5_leastLane_29 rfl rfl)) (m_lf_all (o_aload_n C (i := 0) rfl dX5_leastLane_32 rfl))))))) (m_bt_all (m_bt_all (m_bt_all (m_bt_all (m_lf_all (o_aload_n C (i := 1) rfl dX5_leastLane_33 rfl)) (m_lf_all (o_iload C dX5_leastLane_34 rfl))) (m_bt_all (m_lf_all (o_iload_n C (i := 2) rfl dX5_leastLane_36 rfl)) (m_lf_all (o_callV C (T := TX5) (N := 1) (sX5_sumWith l X hX) rfl (m_in_of [879, 881, 29, 80] (by decide +kernel) (by decide +kernel)) (m_tb_of 882 (by decide +kernel) rfl) (by decide +kernel) rfl ⟨Nat.le_of_ble_eq_true rfl, Nat.le_of_ble_eq_true rfl⟩ dX5_leastLane_37 rfl)))) (m_bt_all (m_bt_all (m_lf_all (o_istore C dX5_leastLane_40 rfl)) (m_lf_all (o_iload_n C (i := 3) rfl dX5_leastLane_42 rfl))) (m_bt_all (m_lf_all (o_bipush C (x := (-9)) (m_rngd rfl) rfl dX5_leastLane_43 rfl)) (m_bt_all (m_lf_all (o_icmp_eq C dX5_leastLane_45 rfl rfl)) (m_lf_all (o_iload C dX5_leastLane_48 rfl)))))) (m_bt_all (m_bt_all (m_bt_all (m_lf_all (o_iload C dX5_leastLane_50 rfl)) (m_lf_all (o_icmp_ge C dX5_leastLane_52 rfl rfl))) (m_bt_all (m_lf_all (o_iload C dX5_leastLane_55 rfl)) (m_bt_all (m_lf_all (o_istore C dX5_leastLane_57 rfl)) (m_lf_all (o_iload C dX5_leastLane_59 rfl))))) (m_bt_all (m_bt_all (m_lf_all (o_istore_n C (i := 3) rfl dX5_leastLane_61 rfl)) (m_lf_all (o_iinc C dX5_leastLane_62 rfl))) (m_bt_all (m_lf_all (o_goto C dX5_leastLane_65 rfl)) (m_bt_all (m_lf_all (o_iload_n C (i := 3) rfl dX5_leastLane_68 rfl)) (m_lf_all (o_iret C hr dX5_leastLane_69))))))))
set_option maxRecDepth 20000 in
def kX5_goRound : m_C := m_bt 27 (m_bt 12 (m_bt 4 (m_bt 2 (m_bt 1 (m_lf 0 (s_push 1 (.inl (0)))) (m_lf 1 (s_ist 2 2))) (m_bt 3 (m_lf 2 (s_push 3 (.inl (0)))) (m_lf 3 (s_ist 4 3)))) (m_bt 6 (m_bt 5 (m_lf 4 (s_ild 5 3)) (m_lf 5 (s_ald 6 1))) (m_bt 9 (m_lf 6 (s_get 9 2 0)) (m_lf 9 (s_icmp 12 55 (fun x y => y ≤ x)))))) (m_bt 18 (m_bt 14 (m_bt 13 (m_lf 12 (s_ald 13 0)) (m_lf 13 (s_ald 14 1))) (m_bt 15 (m_lf 14 (s_ild 15 3)) (m_lf 15 (s_callV 18 3 5 wX5_leastLane)))) (m_bt 21 (m_bt 20 (m_lf 18 (s_ist 20 4)) (m_lf 20 (s_ild 21 2))) (m_bt 24 (m_lf 21 (s_if 24 35 (fun x => ¬ x = 0))) (m_bt 26 (m_lf 24 (s_ild 26 4)) (m_lf 26 (s_ald 27 0))))))) (m_bt 41 (m_bt 35 (m_bt 31 (m_bt 30 (m_lf 27 (s_get 30 5 0)) (m_lf 30 (s_ild 31 3))) (m_bt 32 (m_lf 31 (s_iald 32)) (m_lf 32 (s_icmp 35 39 (fun x y => x = y))))) (m_bt 39 (m_bt 36 (m_lf 35 (s_push 36 (.inl (1)))) (m_lf 36 (s_goto 40))) (m_bt 40 (m_lf 39 (s_push 40 (.inl (0)))) (m_lf 40 (s_ist 41 2))))) (m_bt 48 (m_bt 45 (m_bt 42 (m_lf 41 (s_ald 42 0)) (m_lf 42 (s_get 45 5 0))) (m_bt 46 (m_lf 45 (s_ild 46 3)) (m_lf 46 (s_ild 48 4)))) (m_bt 52 (m_bt 49 (m_lf 48 (s_iast 49)) (m_lf 49 (s_inc 52 3 (1)))) (m_bt 55 (m_lf 52 (s_goto 4)) (m_bt 56 (m_lf 55 (s_ild 56 2)) (m_lf 56 (s_retz)))))))
theorem kX5_goRound_0 : kX5_goRound 0 = some (s_push 1 (.inl (0))) := rfl
theorem kX5_goRound_1 : kX5_goRound 1 = some (s_ist 2 2) := rfl
theorem kX5_goRound_2 : kX5_goRound 2 = some (s_push 3 (.inl (0))) := rfl
theorem kX5_goRound_3 : kX5_goRound 3 = some (s_ist 4 3) := rfl
theorem kX5_goRound_4 : kX5_goRound 4 = some (s_ild 5 3) := rfl
theorem kX5_goRound_5 : kX5_goRound 5 = some (s_ald 6 1) := rfl
theorem kX5_goRound_6 : kX5_goRound 6 = some (s_get 9 2 0) := rfl
theorem kX5_goRound_9 : kX5_goRound 9 = some (s_icmp 12 55 (fun x y => y ≤ x)) := rfl
theorem kX5_goRound_12 : kX5_goRound 12 = some (s_ald 13 0) := rfl
theorem kX5_goRound_13 : kX5_goRound 13 = some (s_ald 14 1) := rfl
theorem kX5_goRound_14 : kX5_goRound 14 = some (s_ild 15 3) := rfl
theorem kX5_goRound_15 : kX5_goRound 15 = some (s_callV 18 3 5 wX5_leastLane) := rfl
theorem kX5_goRound_18 : kX5_goRound 18 = some (s_ist 20 4) := rfl
theorem kX5_goRound_20 : kX5_goRound 20 = some (s_ild 21 2) := rfl
theorem kX5_goRound_21 : kX5_goRound 21 = some (s_if 24 35 (fun x => ¬ x = 0)) := rfl
theorem kX5_goRound_24 : kX5_goRound 24 = some (s_ild 26 4) := rfl
theorem kX5_goRound_26 : kX5_goRound 26 = some (s_ald 27 0) := rfl
theorem kX5_goRound_27 : kX5_goRound 27 = some (s_get 30 5 0) := rfl
theorem kX5_goRound_30 : kX5_goRound 30 = some (s_ild 31 3) := rfl
theorem kX5_goRound_31 : kX5_goRound 31 = some (s_iald 32) := rfl
theorem kX5_goRound_32 : kX5_goRound 32 = some (s_icmp 35 39 (fun x y => x = y)) := rfl
theorem kX5_goRound_35 : kX5_goRound 35 = some (s_push 36 (.inl (1))) := rfl
theorem kX5_goRound_36 : kX5_goRound 36 = some (s_goto 40) := rfl
theorem kX5_goRound_39 : kX5_goRound 39 = some (s_push 40 (.inl (0))) := rfl
theorem kX5_goRound_40 : kX5_goRound 40 = some (s_ist 41 2) := rfl
theorem kX5_goRound_41 : kX5_goRound 41 = some (s_ald 42 0) := rfl
theorem kX5_goRound_42 : kX5_goRound 42 = some (s_get 45 5 0) := rfl
theorem kX5_goRound_45 : kX5_goRound 45 = some (s_ild 46 3) := rfl
theorem kX5_goRound_46 : kX5_goRound 46 = some (s_ild 48 4) := rfl
theorem kX5_goRound_48 : kX5_goRound 48 = some (s_iast 49) := rfl
theorem kX5_goRound_49 : kX5_goRound 49 = some (s_inc 52 3 (1)) := rfl
theorem kX5_goRound_52 : kX5_goRound 52 = some (s_goto 4) := rfl
theorem kX5_goRound_55 : kX5_goRound 55 = some (s_ild 56 2) := rfl
theorem kX5_goRound_56 : kX5_goRound 56 = some (s_retz) := rfl
def wX5_goRound : m_GK := m_wp 5 kX5_goRound
set_option maxRecDepth 100000 in
set_option maxHeartbeats 4000000 in
theorem sX5_goRound (l : Launch) (X : m_X) (hX : m_inj X.1) : m_Sound l X 5 yX5_goRound cX5_goRound 5 (some .boolean) wX5_goRound := m_sound_of hX (by decide) (fun p e s m args below meth c q C hr => m_bt_all (m_bt_all (m_bt_all (m_bt_all (m_bt_all (m_lf_all (o_iconst C (x := (0)) (m_rngd rfl) dX5_goRound_0 rfl)) (m_lf_all (o_istore_n C (i := 2) rfl dX5_goRound_1 rfl))) (m_bt_all (m_lf_all (o_iconst C (x := (0)) (m_rngd rfl) dX5_goRound_2 rfl)) (m_lf_all (o_istore_n C (i := 3) rfl dX5_goRound_3 rfl)))) (m_bt_all (m_bt_all (m_lf_all (o_iload_n C (i := 3) rfl dX5_goRound_4 rfl)) (m_lf_all (o_aload_n C (i := 1) rfl dX5_goRound_5 rfl))) (m_bt_all (m_lf_all (o_get C (ci := 2) (k := 0) (N := 8) (rf := RX2) (T := TX2) rfl ginX2 (Nat.le_of_ble_eq_true rfl) (m_tb_of 106 (by decide +kernel) rfl) dX5_goRound_6 rfl)) (m_lf_all (o_icmp_ge C dX5_goRound_9 rfl rfl))))) (m_bt_all (m_bt_all (m_bt_all (m_lf_all (o_aload_n C (i := 0) rfl dX5_goRound_12 rfl)) (m_lf_all (o_aload_n C (i := 1) rfl dX5_goRound_13 rfl))) (m_bt_all (m_lf_all (o_iload_n C (i := 3) rfl dX5_goRound_14 rfl)) (m_lf_all (o_callV C (T := TX5) (N := 1) (sX5_leastLane l X hX) rfl (m_in_of [875, 877, 28, 80] (by decide +kernel) (by decide +kernel)) (m_tb_of 878 (by decide +kernel) rfl) (by decide +kernel) rfl ⟨Nat.le_of_ble_eq_true rfl, Nat.le_of_ble_eq_true rfl⟩ dX5_goRound_15 rfl)))) (m_bt_all (m_bt_all (m_lf_all (o_istore C dX5_goRound_18 rfl)) (m_lf_all (o_iload_n C (i := 2) rfl dX5_goRound_20 rfl))) (m_bt_all (m_lf_all (o_if_ne C dX5_goRound_21 rfl rfl)) (m_bt_all (m_lf_all (o_iload C dX5_goRound_24 rfl)) (m_lf_all (o_aload_n C (i := 0) rfl dX5_goRound_26 rfl))))))) (m_bt_all (m_bt_all (m_bt_all (m_bt_all (m_lf_all (o_get C (ci := 5) (k := 0) (N := 1) (rf := RX5) (T := TX5) rfl ginX5 (Nat.le_of_ble_eq_true rfl) (m_tb_of 356 (by decide +kernel) rfl) dX5_goRound_27 rfl)) (m_lf_all (o_iload_n C (i := 3) rfl dX5_goRound_30 rfl))) (m_bt_all (m_lf_all (o_iald C dX5_goRound_31 rfl)) (m_lf_all (o_icmp_eq C dX5_goRound_32 rfl rfl)))) (m_bt_all (m_bt_all (m_lf_all (o_iconst C (x := (1)) (m_rngd rfl) dX5_goRound_35 rfl)) (m_lf_all (o_goto C dX5_goRound_36 rfl))) (m_bt_all (m_lf_all (o_iconst C (x := (0)) (m_rngd rfl) dX5_goRound_39 rfl)) (m_lf_all (o_istore_n C (i := 2) rfl dX5_goRound_40 rfl))))) (m_bt_all (m_bt_all (m_bt_all (m_lf_all (o_aload_n C (i := 0) rfl dX5_goRound_41 rfl)) (m_lf_all (o_get C (ci := 5) (k := 0) (N := 1) (rf := RX5) (T := TX5) rfl ginX5 (Nat.le_of_ble_eq_true rfl) (m_tb_of 356 (by decide +kernel) rfl) dX5_goRound_42 rfl))) (m_bt_all (m_lf_all (o_iload_n C (i := 3) rfl dX5_goRound_45 rfl)) (m_lf_all (o_iload C dX5_goRound_46 rfl)))) (m_bt_all (m_bt_all (m_lf_all (o_iast C dX5_goRound_48 rfl)) (m_lf_all (o_iinc C dX5_goRound_49 rfl))) (m_bt_all (m_lf_all (o_goto C dX5_goRound_52 rfl)) (m_bt_all (m_lf_all (o_iload_n C (i := 2) rfl dX5_goRound_55 rfl)) (m_lf_all (o_zret C hr dX5_goRound_56))))))))
set_option maxRecDepth 20000 in
def kX5_settle : m_C := m_bt 27 (m_bt 11 (m_bt 3 (m_bt 1 (m_lf 0 (s_push 1 (.inl (0)))) (m_bt 2 (m_lf 1 (s_ist 2 2)) (m_lf 2 (s_ild 3 2)))) (m_bt 7 (m_bt 4 (m_lf 3 (s_ald 4 1)) (m_lf 4 (s_get 7 2 0))) (m_bt 10 (m_lf 7 (s_icmp 10 27 (fun x y => y ≤ x))) (m_lf 10 (s_ald 11 0))))) (m_bt 17 (m_bt 15 (m_bt 14 (m_lf 11 (s_get 14 5 0)) (m_lf 14 (s_ild 15 2))) (m_bt 16 (m_lf 15 (s_ald 16 1)) (m_lf 16 (s_ild 17 2)))) (m_bt 21 (m_bt 20 (m_lf 17 (s_callS 20 2 wX5_firstLane)) (m_lf 20 (s_iast 21))) (m_bt 24 (m_lf 21 (s_inc 24 2 (1))) (m_lf 24 (s_goto 2)))))) (m_bt 38 (m_bt 31 (m_bt 29 (m_bt 28 (m_lf 27 (s_push 28 (.inl (1)))) (m_lf 28 (s_ist 29 2))) (m_bt 30 (m_lf 29 (s_push 30 (.inl (0)))) (m_lf 30 (s_ist 31 3)))) (m_bt 34 (m_bt 32 (m_lf 31 (s_ild 32 3)) (m_lf 32 (s_push 34 (.inl (20))))) (m_bt 37 (m_lf 34 (s_icmp 37 53 (fun x y => y ≤ x))) (m_lf 37 (s_ild 38 2))))) (m_bt 46 (m_bt 42 (m_bt 41 (m_lf 38 (s_if 41 53 (fun x => x = 0))) (m_lf 41 (s_ald 42 0))) (m_bt 43 (m_lf 42 (s_ald 43 1)) (m_lf 43 (s_callV 46 2 5 wX5_goRound)))) (m_bt 50 (m_bt 47 (m_lf 46 (s_ist 47 2)) (m_lf 47 (s_inc 50 3 (1)))) (m_bt 53 (m_lf 50 (s_goto 31)) (m_lf 53 (s_retv))))))
theorem kX5_settle_0 : kX5_settle 0 = some (s_push 1 (.inl (0))) := rfl
theorem kX5_settle_1 : kX5_settle 1 = some (s_ist 2 2) := rfl
theorem kX5_settle_2 : kX5_settle 2 = some (s_ild 3 2) := rfl
theorem kX5_settle_3 : kX5_settle 3 = some (s_ald 4 1) := rfl
theorem kX5_settle_4 : kX5_settle 4 = some (s_get 7 2 0) := rfl
theorem kX5_settle_7 : kX5_settle 7 = some (s_icmp 10 27 (fun x y => y ≤ x)) := rfl
theorem kX5_settle_10 : kX5_settle 10 = some (s_ald 11 0) := rfl
theorem kX5_settle_11 : kX5_settle 11 = some (s_get 14 5 0) := rfl
theorem kX5_settle_14 : kX5_settle 14 = some (s_ild 15 2) := rfl
theorem kX5_settle_15 : kX5_settle 15 = some (s_ald 16 1) := rfl
theorem kX5_settle_16 : kX5_settle 16 = some (s_ild 17 2) := rfl
theorem kX5_settle_17 : kX5_settle 17 = some (s_callS 20 2 wX5_firstLane) := rfl
theorem kX5_settle_20 : kX5_settle 20 = some (s_iast 21) := rfl
theorem kX5_settle_21 : kX5_settle 21 = some (s_inc 24 2 (1)) := rfl
theorem kX5_settle_24 : kX5_settle 24 = some (s_goto 2) := rfl
theorem kX5_settle_27 : kX5_settle 27 = some (s_push 28 (.inl (1))) := rfl
theorem kX5_settle_28 : kX5_settle 28 = some (s_ist 29 2) := rfl
theorem kX5_settle_29 : kX5_settle 29 = some (s_push 30 (.inl (0))) := rfl
theorem kX5_settle_30 : kX5_settle 30 = some (s_ist 31 3) := rfl
theorem kX5_settle_31 : kX5_settle 31 = some (s_ild 32 3) := rfl
theorem kX5_settle_32 : kX5_settle 32 = some (s_push 34 (.inl (20))) := rfl
theorem kX5_settle_34 : kX5_settle 34 = some (s_icmp 37 53 (fun x y => y ≤ x)) := rfl
theorem kX5_settle_37 : kX5_settle 37 = some (s_ild 38 2) := rfl
theorem kX5_settle_38 : kX5_settle 38 = some (s_if 41 53 (fun x => x = 0)) := rfl
theorem kX5_settle_41 : kX5_settle 41 = some (s_ald 42 0) := rfl
theorem kX5_settle_42 : kX5_settle 42 = some (s_ald 43 1) := rfl
theorem kX5_settle_43 : kX5_settle 43 = some (s_callV 46 2 5 wX5_goRound) := rfl
theorem kX5_settle_46 : kX5_settle 46 = some (s_ist 47 2) := rfl
theorem kX5_settle_47 : kX5_settle 47 = some (s_inc 50 3 (1)) := rfl
theorem kX5_settle_50 : kX5_settle 50 = some (s_goto 31) := rfl
theorem kX5_settle_53 : kX5_settle 53 = some (s_retv) := rfl
def wX5_settle : m_GK := m_wp 4 kX5_settle
set_option maxRecDepth 100000 in
set_option maxHeartbeats 4000000 in
theorem sX5_settle (l : Launch) (X : m_X) (hX : m_inj X.1) : m_Sound l X 6 yX5_settle cX5_settle 4 none wX5_settle := m_sound_of hX (by decide) (fun p e s m args below meth c q C hr => m_bt_all (m_bt_all (m_bt_all (m_bt_all (m_lf_all (o_iconst C (x := (0)) (m_rngd rfl) dX5_settle_0 rfl)) (m_bt_all (m_lf_all (o_istore_n C (i := 2) rfl dX5_settle_1 rfl)) (m_lf_all (o_iload_n C (i := 2) rfl dX5_settle_2 rfl)))) (m_bt_all (m_bt_all (m_lf_all (o_aload_n C (i := 1) rfl dX5_settle_3 rfl)) (m_lf_all (o_get C (ci := 2) (k := 0) (N := 8) (rf := RX2) (T := TX2) rfl ginX2 (Nat.le_of_ble_eq_true rfl) (m_tb_of 106 (by decide +kernel) rfl) dX5_settle_4 rfl))) (m_bt_all (m_lf_all (o_icmp_ge C dX5_settle_7 rfl rfl)) (m_lf_all (o_aload_n C (i := 0) rfl dX5_settle_10 rfl))))) (m_bt_all (m_bt_all (m_bt_all (m_lf_all (o_get C (ci := 5) (k := 0) (N := 1) (rf := RX5) (T := TX5) rfl ginX5 (Nat.le_of_ble_eq_true rfl) (m_tb_of 356 (by decide +kernel) rfl) dX5_settle_11 rfl)) (m_lf_all (o_iload_n C (i := 2) rfl dX5_settle_14 rfl))) (m_bt_all (m_lf_all (o_aload_n C (i := 1) rfl dX5_settle_15 rfl)) (m_lf_all (o_iload_n C (i := 2) rfl dX5_settle_16 rfl)))) (m_bt_all (m_bt_all (m_lf_all (o_callS C (sX5_firstLane l X hX) (m_in_of [866, 867, 80] (by decide +kernel) (by decide +kernel)) (m_tb_of 868 (by decide +kernel) rfl) (by decide +kernel) ⟨Nat.le_of_ble_eq_true rfl, Nat.le_of_ble_eq_true rfl⟩ dX5_settle_17 rfl)) (m_lf_all (o_iast C dX5_settle_20 rfl))) (m_bt_all (m_lf_all (o_iinc C dX5_settle_21 rfl)) (m_lf_all (o_goto C dX5_settle_24 rfl)))))) (m_bt_all (m_bt_all (m_bt_all (m_bt_all (m_lf_all (o_iconst C (x := (1)) (m_rngd rfl) dX5_settle_27 rfl)) (m_lf_all (o_istore_n C (i := 2) rfl dX5_settle_28 rfl))) (m_bt_all (m_lf_all (o_iconst C (x := (0)) (m_rngd rfl) dX5_settle_29 rfl)) (m_lf_all (o_istore_n C (i := 3) rfl dX5_settle_30 rfl)))) (m_bt_all (m_bt_all (m_lf_all (o_iload_n C (i := 3) rfl dX5_settle_31 rfl)) (m_lf_all (o_bipush C (x := (20)) (m_rngd rfl) rfl dX5_settle_32 rfl))) (m_bt_all (m_lf_all (o_icmp_ge C dX5_settle_34 rfl rfl)) (m_lf_all (o_iload_n C (i := 2) rfl dX5_settle_37 rfl))))) (m_bt_all (m_bt_all (m_bt_all (m_lf_all (o_if_eq C dX5_settle_38 rfl rfl)) (m_lf_all (o_aload_n C (i := 0) rfl dX5_settle_41 rfl))) (m_bt_all (m_lf_all (o_aload_n C (i := 1) rfl dX5_settle_42 rfl)) (m_lf_all (o_callV C (T := TX5) (N := 1) (sX5_goRound l X hX) rfl (m_in_of [871, 873, 27, 80] (by decide +kernel) (by decide +kernel)) (m_tb_of 874 (by decide +kernel) rfl) (by decide +kernel) rfl ⟨Nat.le_of_ble_eq_true rfl, Nat.le_of_ble_eq_true rfl⟩ dX5_settle_43 rfl)))) (m_bt_all (m_bt_all (m_lf_all (o_istore_n C (i := 2) rfl dX5_settle_46 rfl)) (m_lf_all (o_iinc C dX5_settle_47 rfl))) (m_bt_all (m_lf_all (o_goto C dX5_settle_50 rfl)) (m_lf_all (o_vret C hr dX5_settle_53)))))))
set_option maxRecDepth 20000 in
def kX6_take : m_C := m_bt 31 (m_bt 15 (m_bt 6 (m_bt 3 (m_bt 1 (m_lf 0 (s_push 1 (.inl (0)))) (m_lf 1 (s_ist 3 4))) (m_bt 5 (m_lf 3 (s_ild 5 4)) (m_lf 5 (s_ild 6 1)))) (m_bt 10 (m_bt 9 (m_lf 6 (s_icmp 9 55 (fun x y => y ≤ x))) (m_lf 9 (s_ald 10 0))) (m_bt 13 (m_lf 10 (s_get 13 6 0)) (m_lf 13 (s_push 15 (.inl (64))))))) (m_bt 23 (m_bt 19 (m_bt 18 (m_lf 15 (s_icmp 18 55 (fun x y => y ≤ x))) (m_lf 18 (s_ald 19 0))) (m_bt 22 (m_lf 19 (s_get 22 6 1)) (m_lf 22 (s_ald 23 0)))) (m_bt 27 (m_bt 26 (m_lf 23 (s_get 26 6 0)) (m_lf 26 (s_lld 27 2))) (m_bt 29 (m_lf 27 (s_push 29 (.inl (8)))) (m_lf 29 (s_ild 31 4)))))) (m_bt 41 (m_bt 37 (m_bt 33 (m_bt 32 (m_lf 31 (s_bin 32 (fun x y => m_wrap (x * y)))) (m_lf 32 (s_lshr 33))) (m_bt 36 (m_lf 33 (s_push 36 (.inr (.inl (255))))) (m_lf 36 (s_lbin 37 (fun x y => x &&& y))))) (m_bt 39 (m_bt 38 (m_lf 37 (s_l2i 38)) (m_lf 38 (s_iast 39))) (m_bt 40 (m_lf 39 (s_ald 40 0)) (m_lf 40 (s_dup 41))))) (m_bt 49 (m_bt 45 (m_bt 44 (m_lf 41 (s_get 44 6 0)) (m_lf 44 (s_push 45 (.inl (1))))) (m_bt 46 (m_lf 45 (s_bin 46 (fun x y => m_wrap (x + y)))) (m_lf 46 (s_put 49 6 0)))) (m_bt 55 (m_bt 52 (m_lf 49 (s_inc 52 4 (1))) (m_lf 52 (s_goto 3))) (m_bt 56 (m_lf 55 (s_ald 56 0)) (m_bt 59 (m_lf 56 (s_get 59 6 0)) (m_lf 59 (s_ret)))))))
theorem kX6_take_0 : kX6_take 0 = some (s_push 1 (.inl (0))) := rfl
theorem kX6_take_1 : kX6_take 1 = some (s_ist 3 4) := rfl
theorem kX6_take_3 : kX6_take 3 = some (s_ild 5 4) := rfl
theorem kX6_take_5 : kX6_take 5 = some (s_ild 6 1) := rfl
theorem kX6_take_6 : kX6_take 6 = some (s_icmp 9 55 (fun x y => y ≤ x)) := rfl
theorem kX6_take_9 : kX6_take 9 = some (s_ald 10 0) := rfl
theorem kX6_take_10 : kX6_take 10 = some (s_get 13 6 0) := rfl
theorem kX6_take_13 : kX6_take 13 = some (s_push 15 (.inl (64))) := rfl
theorem kX6_take_15 : kX6_take 15 = some (s_icmp 18 55 (fun x y => y ≤ x)) := rfl
theorem kX6_take_18 : kX6_take 18 = some (s_ald 19 0) := rfl
theorem kX6_take_19 : kX6_take 19 = some (s_get 22 6 1) := rfl
theorem kX6_take_22 : kX6_take 22 = some (s_ald 23 0) := rfl
theorem kX6_take_23 : kX6_take 23 = some (s_get 26 6 0) := rfl
theorem kX6_take_26 : kX6_take 26 = some (s_lld 27 2) := rfl
theorem kX6_take_27 : kX6_take 27 = some (s_push 29 (.inl (8))) := rfl
theorem kX6_take_29 : kX6_take 29 = some (s_ild 31 4) := rfl
theorem kX6_take_31 : kX6_take 31 = some (s_bin 32 (fun x y => m_wrap (x * y))) := rfl
theorem kX6_take_32 : kX6_take 32 = some (s_lshr 33) := rfl
theorem kX6_take_33 : kX6_take 33 = some (s_push 36 (.inr (.inl (255)))) := rfl
theorem kX6_take_36 : kX6_take 36 = some (s_lbin 37 (fun x y => x &&& y)) := rfl
theorem kX6_take_37 : kX6_take 37 = some (s_l2i 38) := rfl
theorem kX6_take_38 : kX6_take 38 = some (s_iast 39) := rfl
theorem kX6_take_39 : kX6_take 39 = some (s_ald 40 0) := rfl
theorem kX6_take_40 : kX6_take 40 = some (s_dup 41) := rfl
theorem kX6_take_41 : kX6_take 41 = some (s_get 44 6 0) := rfl
theorem kX6_take_44 : kX6_take 44 = some (s_push 45 (.inl (1))) := rfl
theorem kX6_take_45 : kX6_take 45 = some (s_bin 46 (fun x y => m_wrap (x + y))) := rfl
theorem kX6_take_46 : kX6_take 46 = some (s_put 49 6 0) := rfl
theorem kX6_take_49 : kX6_take 49 = some (s_inc 52 4 (1)) := rfl
theorem kX6_take_52 : kX6_take 52 = some (s_goto 3) := rfl
theorem kX6_take_55 : kX6_take 55 = some (s_ald 56 0) := rfl
theorem kX6_take_56 : kX6_take 56 = some (s_get 59 6 0) := rfl
theorem kX6_take_59 : kX6_take 59 = some (s_ret) := rfl
def wX6_take : m_GK := m_wp 5 kX6_take
set_option maxRecDepth 100000 in
set_option maxHeartbeats 4000000 in
theorem sX6_take (l : Launch) (X : m_X) (hX : m_inj X.1) : m_Sound l X 1 yX6_take cX6_take 5 (some .int) wX6_take := m_sound_of hX (by decide) (fun p e s m args below meth c q C hr => m_bt_all (m_bt_all (m_bt_all (m_bt_all (m_bt_all (m_lf_all (o_iconst C (x := (0)) (m_rngd rfl) dX6_take_0 rfl)) (m_lf_all (o_istore C dX6_take_1 rfl))) (m_bt_all (m_lf_all (o_iload C dX6_take_3 rfl)) (m_lf_all (o_iload_n C (i := 1) rfl dX6_take_5 rfl)))) (m_bt_all (m_bt_all (m_lf_all (o_icmp_ge C dX6_take_6 rfl rfl)) (m_lf_all (o_aload_n C (i := 0) rfl dX6_take_9 rfl))) (m_bt_all (m_lf_all (o_get C (ci := 6) (k := 0) (N := 6) (rf := RX6) (T := TX6) rfl ginX6 (Nat.le_of_ble_eq_true rfl) (m_tb_of 156 (by decide +kernel) rfl) dX6_take_10 rfl)) (m_lf_all (o_bipush C (x := (64)) (m_rngd rfl) rfl dX6_take_13 rfl))))) (m_bt_all (m_bt_all (m_bt_all (m_lf_all (o_icmp_ge C dX6_take_15 rfl rfl)) (m_lf_all (o_aload_n C (i := 0) rfl dX6_take_18 rfl))) (m_bt_all (m_lf_all (o_get C (ci := 6) (k := 1) (N := 6) (rf := RX6) (T := TX6) rfl ginX6 (Nat.le_of_ble_eq_true rfl) (m_tb_of 158 (by decide +kernel) rfl) dX6_take_19 rfl)) (m_lf_all (o_aload_n C (i := 0) rfl dX6_take_22 rfl)))) (m_bt_all (m_bt_all (m_lf_all (o_get C (ci := 6) (k := 0) (N := 6) (rf := RX6) (T := TX6) rfl ginX6 (Nat.le_of_ble_eq_true rfl) (m_tb_of 156 (by decide +kernel) rfl) dX6_take_23 rfl)) (m_lf_all (o_lload_n C (i := 2) rfl dX6_take_26 rfl))) (m_bt_all (m_lf_all (o_bipush C (x := (8)) (m_rngd rfl) rfl dX6_take_27 rfl)) (m_lf_all (o_iload C dX6_take_29 rfl)))))) (m_bt_all (m_bt_all (m_bt_all (m_bt_all (m_lf_all (o_imul C dX6_take_31 rfl)) (m_lf_all (o_lshr C dX6_take_32 rfl))) (m_bt_all (m_lf_all (o_ldc2 C (x := (255)) (m_tb_of 407 (by decide +kernel) rfl) dX6_take_33 rfl)) (m_lf_all (o_land C dX6_take_36 rfl)))) (m_bt_all (m_bt_all (m_lf_all (o_l2i C dX6_take_37 rfl)) (m_lf_all (o_iast C dX6_take_38 rfl))) (m_bt_all (m_lf_all (o_aload_n C (i := 0) rfl dX6_take_39 rfl)) (m_lf_all (o_dup C dX6_take_40 rfl))))) (m_bt_all (m_bt_all (m_bt_all (m_lf_all (o_get C (ci := 6) (k := 0) (N := 6) (rf := RX6) (T := TX6) rfl ginX6 (Nat.le_of_ble_eq_true rfl) (m_tb_of 156 (by decide +kernel) rfl) dX6_take_41 rfl)) (m_lf_all (o_iconst C (x := (1)) (m_rngd rfl) dX6_take_44 rfl))) (m_bt_all (m_lf_all (o_iadd C dX6_take_45 rfl)) (m_lf_all (o_put C (ci := 6) (k := 0) (N := 6) (rf := RX6) (T := TX6) rfl ginX6 (Nat.le_of_ble_eq_true rfl) (m_tb_of 156 (by decide +kernel) rfl) (ty0 := tyX6) tyX6_ok nmX6 rfl rfl dX6_take_46 rfl)))) (m_bt_all (m_bt_all (m_lf_all (o_iinc C dX6_take_49 rfl)) (m_lf_all (o_goto C dX6_take_52 rfl))) (m_bt_all (m_lf_all (o_aload_n C (i := 0) rfl dX6_take_55 rfl)) (m_bt_all (m_lf_all (o_get C (ci := 6) (k := 0) (N := 6) (rf := RX6) (T := TX6) rfl ginX6 (Nat.le_of_ble_eq_true rfl) (m_tb_of 156 (by decide +kernel) rfl) dX6_take_56 rfl)) (m_lf_all (o_iret C hr dX6_take_59))))))))
set_option maxRecDepth 20000 in
def kX6_at : m_C := m_bt 15 (m_bt 6 (m_bt 4 (m_bt 1 (m_lf 0 (s_ild 1 1)) (m_lf 1 (s_if 4 27 (fun x => x < 0)))) (m_bt 5 (m_lf 4 (s_ild 5 1)) (m_lf 5 (s_ald 6 0)))) (m_bt 12 (m_bt 9 (m_lf 6 (s_get 9 6 0)) (m_lf 9 (s_icmp 12 27 (fun x y => y ≤ x)))) (m_bt 13 (m_lf 12 (s_ild 13 1)) (m_lf 13 (s_push 15 (.inl (64))))))) (m_bt 23 (m_bt 19 (m_bt 18 (m_lf 15 (s_icmp 18 27 (fun x y => y ≤ x))) (m_lf 18 (s_ald 19 0))) (m_bt 22 (m_lf 19 (s_get 22 6 1)) (m_lf 22 (s_ild 23 1)))) (m_bt 27 (m_bt 24 (m_lf 23 (s_iald 24)) (m_lf 24 (s_goto 28))) (m_bt 28 (m_lf 27 (s_push 28 (.inl (-1)))) (m_lf 28 (s_ret)))))
theorem kX6_at_0 : kX6_at 0 = some (s_ild 1 1) := rfl
theorem kX6_at_1 : kX6_at 1 = some (s_if 4 27 (fun x => x < 0)) := rfl
theorem kX6_at_4 : kX6_at 4 = some (s_ild 5 1) := rfl
theorem kX6_at_5 : kX6_at 5 = some (s_ald 6 0) := rfl
theorem kX6_at_6 : kX6_at 6 = some (s_get 9 6 0) := rfl
theorem kX6_at_9 : kX6_at 9 = some (s_icmp 12 27 (fun x y => y ≤ x)) := rfl
theorem kX6_at_12 : kX6_at 12 = some (s_ild 13 1) := rfl
theorem kX6_at_13 : kX6_at 13 = some (s_push 15 (.inl (64))) := rfl
theorem kX6_at_15 : kX6_at 15 = some (s_icmp 18 27 (fun x y => y ≤ x)) := rfl
theorem kX6_at_18 : kX6_at 18 = some (s_ald 19 0) := rfl
theorem kX6_at_19 : kX6_at 19 = some (s_get 22 6 1) := rfl
theorem kX6_at_22 : kX6_at 22 = some (s_ild 23 1) := rfl
theorem kX6_at_23 : kX6_at 23 = some (s_iald 24) := rfl
theorem kX6_at_24 : kX6_at 24 = some (s_goto 28) := rfl
theorem kX6_at_27 : kX6_at 27 = some (s_push 28 (.inl (-1))) := rfl
theorem kX6_at_28 : kX6_at 28 = some (s_ret) := rfl
def wX6_at : m_GK := m_wp 2 kX6_at
set_option maxRecDepth 100000 in
set_option maxHeartbeats 4000000 in
theorem sX6_at (l : Launch) (X : m_X) (hX : m_inj X.1) : m_Sound l X 1 yX6_at cX6_at 2 (some .int) wX6_at := m_sound_of hX (by decide) (fun p e s m args below meth c q C hr => m_bt_all (m_bt_all (m_bt_all (m_bt_all (m_lf_all (o_iload_n C (i := 1) rfl dX6_at_0 rfl)) (m_lf_all (o_if_lt C dX6_at_1 rfl rfl))) (m_bt_all (m_lf_all (o_iload_n C (i := 1) rfl dX6_at_4 rfl)) (m_lf_all (o_aload_n C (i := 0) rfl dX6_at_5 rfl)))) (m_bt_all (m_bt_all (m_lf_all (o_get C (ci := 6) (k := 0) (N := 6) (rf := RX6) (T := TX6) rfl ginX6 (Nat.le_of_ble_eq_true rfl) (m_tb_of 156 (by decide +kernel) rfl) dX6_at_6 rfl)) (m_lf_all (o_icmp_ge C dX6_at_9 rfl rfl))) (m_bt_all (m_lf_all (o_iload_n C (i := 1) rfl dX6_at_12 rfl)) (m_lf_all (o_bipush C (x := (64)) (m_rngd rfl) rfl dX6_at_13 rfl))))) (m_bt_all (m_bt_all (m_bt_all (m_lf_all (o_icmp_ge C dX6_at_15 rfl rfl)) (m_lf_all (o_aload_n C (i := 0) rfl dX6_at_18 rfl))) (m_bt_all (m_lf_all (o_get C (ci := 6) (k := 1) (N := 6) (rf := RX6) (T := TX6) rfl ginX6 (Nat.le_of_ble_eq_true rfl) (m_tb_of 158 (by decide +kernel) rfl) dX6_at_19 rfl)) (m_lf_all (o_iload_n C (i := 1) rfl dX6_at_22 rfl)))) (m_bt_all (m_bt_all (m_lf_all (o_iald C dX6_at_23 rfl)) (m_lf_all (o_goto C dX6_at_24 rfl))) (m_bt_all (m_lf_all (o_iconst C (x := (-1)) (m_rngd rfl) dX6_at_27 rfl)) (m_lf_all (o_iret C hr dX6_at_28))))))
set_option maxRecDepth 20000 in
def kX6_formOf : m_C := m_bt 49 (m_bt 44 (m_bt 1 (m_lf 0 (s_ild 1 0)) (m_lf 1 (s_sw [(97, 50), (108, 47), (113, 50), (115, 44)] 53))) (m_bt 46 (m_lf 44 (s_push 46 (.inr (.inr 201)))) (m_bt 47 (m_lf 46 (s_reta)) (m_lf 47 (s_push 49 (.inr (.inr 202))))))) (m_bt 52 (m_bt 50 (m_lf 49 (s_reta)) (m_lf 50 (s_push 52 (.inr (.inr 203))))) (m_bt 53 (m_lf 52 (s_reta)) (m_bt 55 (m_lf 53 (s_push 55 (.inr (.inr 200)))) (m_lf 55 (s_reta)))))
theorem kX6_formOf_0 : kX6_formOf 0 = some (s_ild 1 0) := rfl
theorem kX6_formOf_1 : kX6_formOf 1 = some (s_sw [(97, 50), (108, 47), (113, 50), (115, 44)] 53) := rfl
theorem kX6_formOf_44 : kX6_formOf 44 = some (s_push 46 (.inr (.inr 201))) := rfl
theorem kX6_formOf_46 : kX6_formOf 46 = some (s_reta) := rfl
theorem kX6_formOf_47 : kX6_formOf 47 = some (s_push 49 (.inr (.inr 202))) := rfl
theorem kX6_formOf_49 : kX6_formOf 49 = some (s_reta) := rfl
theorem kX6_formOf_50 : kX6_formOf 50 = some (s_push 52 (.inr (.inr 203))) := rfl
theorem kX6_formOf_52 : kX6_formOf 52 = some (s_reta) := rfl
theorem kX6_formOf_53 : kX6_formOf 53 = some (s_push 55 (.inr (.inr 200))) := rfl
theorem kX6_formOf_55 : kX6_formOf 55 = some (s_reta) := rfl
def wX6_formOf : m_GK := m_wp 1 kX6_formOf
set_option maxRecDepth 100000 in
set_option maxHeartbeats 4000000 in
theorem sX6_formOf (l : Launch) (X : m_X) (hX : m_inj X.1) : m_Sound l X 1 yX6_formOf cX6_formOf 1 (some (.object "java/lang/String")) wX6_formOf := m_sound_of hX (by decide) (fun p e s m args below meth c q C hr => m_bt_all (m_bt_all (m_bt_all (m_lf_all (o_iload_n C (i := 0) rfl dX6_formOf_0 rfl)) (m_lf_all (o_lsw C dX6_formOf_1 rfl (by decide) (by decide)))) (m_bt_all (m_lf_all (o_ldcS C (x := 201) (tx := "n,n;") (fun h => h.2.2.1.2.1) dX6_formOf_44 rfl)) (m_bt_all (m_lf_all (o_aret C hr dX6_formOf_46)) (m_lf_all (o_ldcS C (x := 202) (tx := "n;") (fun h => h.2.2.1.2.2.1) dX6_formOf_47 rfl))))) (m_bt_all (m_bt_all (m_lf_all (o_aret C hr dX6_formOf_49)) (m_lf_all (o_ldcS C (x := 203) (tx := "dd,n;") (fun h => h.2.2.1.2.2.2) dX6_formOf_50 rfl))) (m_bt_all (m_lf_all (o_aret C hr dX6_formOf_52)) (m_bt_all (m_lf_all (o_ldcS C (x := 200) (tx := "") (fun h => h.2.2.1.1) dX6_formOf_53 rfl)) (m_lf_all (o_aret C hr dX6_formOf_55))))))
set_option maxRecDepth 20000 in
def kJ0_isEmpty_aae02 : m_C := m_bt 8 (m_bt 4 (m_bt 1 (m_lf 0 (s_ald 1 0)) (m_lf 1 (s_sval 4))) (m_bt 5 (m_lf 4 (s_blen 5)) (m_lf 5 (s_if 8 12 (fun x => ¬ x = 0))))) (m_bt 12 (m_bt 9 (m_lf 8 (s_push 9 (.inl (1)))) (m_lf 9 (s_goto 13))) (m_bt 13 (m_lf 12 (s_push 13 (.inl (0)))) (m_lf 13 (s_retz))))
theorem kJ0_isEmpty_aae02_0 : kJ0_isEmpty_aae02 0 = some (s_ald 1 0) := rfl
theorem kJ0_isEmpty_aae02_1 : kJ0_isEmpty_aae02 1 = some (s_sval 4) := rfl
theorem kJ0_isEmpty_aae02_4 : kJ0_isEmpty_aae02 4 = some (s_blen 5) := rfl
theorem kJ0_isEmpty_aae02_5 : kJ0_isEmpty_aae02 5 = some (s_if 8 12 (fun x => ¬ x = 0)) := rfl
theorem kJ0_isEmpty_aae02_8 : kJ0_isEmpty_aae02 8 = some (s_push 9 (.inl (1))) := rfl
theorem kJ0_isEmpty_aae02_9 : kJ0_isEmpty_aae02 9 = some (s_goto 13) := rfl
theorem kJ0_isEmpty_aae02_12 : kJ0_isEmpty_aae02 12 = some (s_push 13 (.inl (0))) := rfl
theorem kJ0_isEmpty_aae02_13 : kJ0_isEmpty_aae02 13 = some (s_retz) := rfl
def wJ0_isEmpty_aae02 : m_GK := m_wp 1 kJ0_isEmpty_aae02
set_option maxRecDepth 100000 in
set_option maxHeartbeats 4000000 in
theorem sJ0_isEmpty_aae02 (l : Launch) (X : m_X) (hX : m_inj X.1) : m_Sound l X 1 yJ0_isEmpty_aae02 cJ0_isEmpty_aae02 1 (some .boolean) wJ0_isEmpty_aae02 := m_sound_of hX (by decide) (fun p e s m args below meth c q C hr => m_bt_all (m_bt_all (m_bt_all (m_lf_all (o_aload_n C (i := 0) rfl dJ0_isEmpty_aae02_0 rfl)) (m_lf_all (o_sval C (m_tb_of 1338 (by decide +kernel) rfl) dJ0_isEmpty_aae02_1 rfl))) (m_bt_all (m_lf_all (o_blen C dJ0_isEmpty_aae02_4 rfl)) (m_lf_all (o_if_ne C dJ0_isEmpty_aae02_5 rfl rfl)))) (m_bt_all (m_bt_all (m_lf_all (o_iconst C (x := (1)) (m_rngd rfl) dJ0_isEmpty_aae02_8 rfl)) (m_lf_all (o_goto C dJ0_isEmpty_aae02_9 rfl))) (m_bt_all (m_lf_all (o_iconst C (x := (0)) (m_rngd rfl) dJ0_isEmpty_aae02_12 rfl)) (m_lf_all (o_zret C hr dJ0_isEmpty_aae02_13)))))
set_option maxRecDepth 20000 in
def kJ0_coder_7d493 : m_C := m_bt 7 (m_bt 3 (m_lf 0 (s_push 3 (.inl 1))) (m_bt 6 (m_lf 3 (s_if 6 13 (fun x => x = 0))) (m_lf 6 (s_ald 7 0)))) (m_bt 13 (m_bt 10 (m_lf 7 (s_scod 10)) (m_lf 10 (s_goto 14))) (m_bt 14 (m_lf 13 (s_push 14 (.inl (1)))) (m_lf 14 (s_retb))))
theorem kJ0_coder_7d493_0 : kJ0_coder_7d493 0 = some (s_push 3 (.inl 1)) := rfl
theorem kJ0_coder_7d493_3 : kJ0_coder_7d493 3 = some (s_if 6 13 (fun x => x = 0)) := rfl
theorem kJ0_coder_7d493_6 : kJ0_coder_7d493 6 = some (s_ald 7 0) := rfl
theorem kJ0_coder_7d493_7 : kJ0_coder_7d493 7 = some (s_scod 10) := rfl
theorem kJ0_coder_7d493_10 : kJ0_coder_7d493 10 = some (s_goto 14) := rfl
theorem kJ0_coder_7d493_13 : kJ0_coder_7d493 13 = some (s_push 14 (.inl (1))) := rfl
theorem kJ0_coder_7d493_14 : kJ0_coder_7d493 14 = some (s_retb) := rfl
def wJ0_coder_7d493 : m_GK := m_wp 1 kJ0_coder_7d493
set_option maxRecDepth 100000 in
set_option maxHeartbeats 4000000 in
theorem sJ0_coder_7d493 (l : Launch) (X : m_X) (hX : m_inj X.1) : m_Sound l X 1 yJ0_coder_7d493 cJ0_coder_7d493 1 (some .byte) wJ0_coder_7d493 := m_sound_of hX (by decide) (fun p e s m args below meth c q C hr => m_bt_all (m_bt_all (m_lf_all (o_compact C (m_tb_of 447 (by decide +kernel) rfl) dJ0_coder_7d493_0 rfl)) (m_bt_all (m_lf_all (o_if_eq C dJ0_coder_7d493_3 rfl rfl)) (m_lf_all (o_aload_n C (i := 0) rfl dJ0_coder_7d493_6 rfl)))) (m_bt_all (m_bt_all (m_lf_all (o_scod C (m_tb_of 1339 (by decide +kernel) rfl) dJ0_coder_7d493_7 rfl)) (m_lf_all (o_goto C dJ0_coder_7d493_10 rfl))) (m_bt_all (m_lf_all (o_iconst C (x := (1)) (m_rngd rfl) dJ0_coder_7d493_13 rfl)) (m_lf_all (o_bret C hr dJ0_coder_7d493_14)))))
set_option maxRecDepth 20000 in
def kJ0_length_8abf5 : m_C := m_bt 5 (m_bt 1 (m_lf 0 (s_ald 1 0)) (m_bt 4 (m_lf 1 (s_sval 4)) (m_lf 4 (s_blen 5)))) (m_bt 9 (m_bt 6 (m_lf 5 (s_ald 6 0)) (m_lf 6 (s_callT 9 1 wJ0_coder_7d493))) (m_bt 10 (m_lf 9 (s_bin 10 m_ishr)) (m_lf 10 (s_ret))))
theorem kJ0_length_8abf5_0 : kJ0_length_8abf5 0 = some (s_ald 1 0) := rfl
theorem kJ0_length_8abf5_1 : kJ0_length_8abf5 1 = some (s_sval 4) := rfl
theorem kJ0_length_8abf5_4 : kJ0_length_8abf5 4 = some (s_blen 5) := rfl
theorem kJ0_length_8abf5_5 : kJ0_length_8abf5 5 = some (s_ald 6 0) := rfl
theorem kJ0_length_8abf5_6 : kJ0_length_8abf5 6 = some (s_callT 9 1 wJ0_coder_7d493) := rfl
theorem kJ0_length_8abf5_9 : kJ0_length_8abf5 9 = some (s_bin 10 m_ishr) := rfl
theorem kJ0_length_8abf5_10 : kJ0_length_8abf5 10 = some (s_ret) := rfl
def wJ0_length_8abf5 : m_GK := m_wp 1 kJ0_length_8abf5
set_option maxRecDepth 100000 in
set_option maxHeartbeats 4000000 in
theorem sJ0_length_8abf5 (l : Launch) (X : m_X) (hX : m_inj X.1) : m_Sound l X 2 yJ0_length_8abf5 cJ0_length_8abf5 1 (some .int) wJ0_length_8abf5 := m_sound_of hX (by decide) (fun p e s m args below meth c q C hr => m_bt_all (m_bt_all (m_lf_all (o_aload_n C (i := 0) rfl dJ0_length_8abf5_0 rfl)) (m_bt_all (m_lf_all (o_sval C (m_tb_of 1338 (by decide +kernel) rfl) dJ0_length_8abf5_1 rfl)) (m_lf_all (o_blen C dJ0_length_8abf5_4 rfl)))) (m_bt_all (m_bt_all (m_lf_all (o_aload_n C (i := 0) rfl dJ0_length_8abf5_5 rfl)) (m_lf_all (o_callT C (sJ0_coder_7d493 l X hX) rfl (m_in_of [443, 444, 445, 82] (by decide +kernel) (by decide +kernel)) (m_tb_of 446 (by decide +kernel) rfl) (by decide +kernel) rfl ⟨Nat.le_of_ble_eq_true rfl, Nat.le_of_ble_eq_true rfl⟩ dJ0_length_8abf5_6 rfl))) (m_bt_all (m_lf_all (o_ishr C dJ0_length_8abf5_9 rfl)) (m_lf_all (o_iret C hr dJ0_length_8abf5_10)))))
set_option maxRecDepth 20000 in
def kJ0_isLatin1_aae02 : m_C := m_bt 10 (m_bt 6 (m_bt 3 (m_lf 0 (s_push 3 (.inl 1))) (m_lf 3 (s_if 6 17 (fun x => x = 0)))) (m_bt 7 (m_lf 6 (s_ald 7 0)) (m_lf 7 (s_scod 10)))) (m_bt 14 (m_bt 13 (m_lf 10 (s_if 13 17 (fun x => ¬ x = 0))) (m_lf 13 (s_push 14 (.inl (1))))) (m_bt 17 (m_lf 14 (s_goto 18)) (m_bt 18 (m_lf 17 (s_push 18 (.inl (0)))) (m_lf 18 (s_retz)))))
theorem kJ0_isLatin1_aae02_0 : kJ0_isLatin1_aae02 0 = some (s_push 3 (.inl 1)) := rfl
theorem kJ0_isLatin1_aae02_3 : kJ0_isLatin1_aae02 3 = some (s_if 6 17 (fun x => x = 0)) := rfl
theorem kJ0_isLatin1_aae02_6 : kJ0_isLatin1_aae02 6 = some (s_ald 7 0) := rfl
theorem kJ0_isLatin1_aae02_7 : kJ0_isLatin1_aae02 7 = some (s_scod 10) := rfl
theorem kJ0_isLatin1_aae02_10 : kJ0_isLatin1_aae02 10 = some (s_if 13 17 (fun x => ¬ x = 0)) := rfl
theorem kJ0_isLatin1_aae02_13 : kJ0_isLatin1_aae02 13 = some (s_push 14 (.inl (1))) := rfl
theorem kJ0_isLatin1_aae02_14 : kJ0_isLatin1_aae02 14 = some (s_goto 18) := rfl
theorem kJ0_isLatin1_aae02_17 : kJ0_isLatin1_aae02 17 = some (s_push 18 (.inl (0))) := rfl
theorem kJ0_isLatin1_aae02_18 : kJ0_isLatin1_aae02 18 = some (s_retz) := rfl
def wJ0_isLatin1_aae02 : m_GK := m_wp 1 kJ0_isLatin1_aae02
set_option maxRecDepth 100000 in
set_option maxHeartbeats 4000000 in
theorem sJ0_isLatin1_aae02 (l : Launch) (X : m_X) (hX : m_inj X.1) : m_Sound l X 1 yJ0_isLatin1_aae02 cJ0_isLatin1_aae02 1 (some .boolean) wJ0_isLatin1_aae02 := m_sound_of hX (by decide) (fun p e s m args below meth c q C hr => m_bt_all (m_bt_all (m_bt_all (m_lf_all (o_compact C (m_tb_of 447 (by decide +kernel) rfl) dJ0_isLatin1_aae02_0 rfl)) (m_lf_all (o_if_eq C dJ0_isLatin1_aae02_3 rfl rfl))) (m_bt_all (m_lf_all (o_aload_n C (i := 0) rfl dJ0_isLatin1_aae02_6 rfl)) (m_lf_all (o_scod C (m_tb_of 1339 (by decide +kernel) rfl) dJ0_isLatin1_aae02_7 rfl)))) (m_bt_all (m_bt_all (m_lf_all (o_if_ne C dJ0_isLatin1_aae02_10 rfl rfl)) (m_lf_all (o_iconst C (x := (1)) (m_rngd rfl) dJ0_isLatin1_aae02_13 rfl))) (m_bt_all (m_lf_all (o_goto C dJ0_isLatin1_aae02_14 rfl)) (m_bt_all (m_lf_all (o_iconst C (x := (0)) (m_rngd rfl) dJ0_isLatin1_aae02_17 rfl)) (m_lf_all (o_zret C hr dJ0_isLatin1_aae02_18))))))
set_option maxRecDepth 20000 in
def kJ0_checkIndex_df160 : m_C := m_bt 2 (m_bt 1 (m_lf 0 (s_ild 1 0)) (m_lf 1 (s_ild 2 1))) (m_bt 9 (m_lf 2 (s_ci 9)) (m_lf 9 (s_retv)))
theorem kJ0_checkIndex_df160_0 : kJ0_checkIndex_df160 0 = some (s_ild 1 0) := rfl
theorem kJ0_checkIndex_df160_1 : kJ0_checkIndex_df160 1 = some (s_ild 2 1) := rfl
theorem kJ0_checkIndex_df160_2 : kJ0_checkIndex_df160 2 = some (s_ci 9) := rfl
theorem kJ0_checkIndex_df160_9 : kJ0_checkIndex_df160 9 = some (s_retv) := rfl
def wJ0_checkIndex_df160 : m_GK := m_wp 2 kJ0_checkIndex_df160
set_option maxRecDepth 100000 in
set_option maxHeartbeats 4000000 in
theorem sJ0_checkIndex_df160 (l : Launch) (X : m_X) (hX : m_inj X.1) : m_Sound l X 2 yJ0_checkIndex_df160 cJ0_checkIndex_df160 2 none wJ0_checkIndex_df160 := m_sound_of hX (by decide) (fun p e s m args below meth c q C hr => m_bt_all (m_bt_all (m_lf_all (o_iload_n C (i := 0) rfl dJ0_checkIndex_df160_0 rfl)) (m_lf_all (o_iload_n C (i := 1) rfl dJ0_checkIndex_df160_1 rfl))) (m_bt_all (m_lf_all (o_ci C ⟨Nat.le_of_ble_eq_true rfl, Nat.le_of_ble_eq_true rfl⟩)) (m_lf_all (o_vret C hr dJ0_checkIndex_df160_9))))
set_option maxRecDepth 20000 in
def kJ1_charAt_3b067 : m_C := m_bt 7 (m_bt 2 (m_bt 1 (m_lf 0 (s_ild 1 1)) (m_lf 1 (s_ald 2 0))) (m_bt 3 (m_lf 2 (s_blen 3)) (m_bt 6 (m_lf 3 (s_callS 6 2 wJ0_checkIndex_df160)) (m_lf 6 (s_ald 7 0))))) (m_bt 12 (m_bt 8 (m_lf 7 (s_ild 8 1)) (m_bt 9 (m_lf 8 (s_bald 9)) (m_lf 9 (s_push 12 (.inl (255)))))) (m_bt 13 (m_lf 12 (s_bin 13 m_iand)) (m_bt 14 (m_lf 13 (s_i2c 14)) (m_lf 14 (s_retc)))))
theorem kJ1_charAt_3b067_0 : kJ1_charAt_3b067 0 = some (s_ild 1 1) := rfl
theorem kJ1_charAt_3b067_1 : kJ1_charAt_3b067 1 = some (s_ald 2 0) := rfl
theorem kJ1_charAt_3b067_2 : kJ1_charAt_3b067 2 = some (s_blen 3) := rfl
theorem kJ1_charAt_3b067_3 : kJ1_charAt_3b067 3 = some (s_callS 6 2 wJ0_checkIndex_df160) := rfl
theorem kJ1_charAt_3b067_6 : kJ1_charAt_3b067 6 = some (s_ald 7 0) := rfl
theorem kJ1_charAt_3b067_7 : kJ1_charAt_3b067 7 = some (s_ild 8 1) := rfl
theorem kJ1_charAt_3b067_8 : kJ1_charAt_3b067 8 = some (s_bald 9) := rfl
theorem kJ1_charAt_3b067_9 : kJ1_charAt_3b067 9 = some (s_push 12 (.inl (255))) := rfl
theorem kJ1_charAt_3b067_12 : kJ1_charAt_3b067 12 = some (s_bin 13 m_iand) := rfl
theorem kJ1_charAt_3b067_13 : kJ1_charAt_3b067 13 = some (s_i2c 14) := rfl
theorem kJ1_charAt_3b067_14 : kJ1_charAt_3b067 14 = some (s_retc) := rfl
def wJ1_charAt_3b067 : m_GK := m_wp 2 kJ1_charAt_3b067
set_option maxRecDepth 100000 in
set_option maxHeartbeats 4000000 in
theorem sJ1_charAt_3b067 (l : Launch) (X : m_X) (hX : m_inj X.1) : m_Sound l X 3 yJ1_charAt_3b067 cJ1_charAt_3b067 2 (some .char) wJ1_charAt_3b067 := m_sound_of hX (by decide) (fun p e s m args below meth c q C hr => m_bt_all (m_bt_all (m_bt_all (m_lf_all (o_iload_n C (i := 1) rfl dJ1_charAt_3b067_0 rfl)) (m_lf_all (o_aload_n C (i := 0) rfl dJ1_charAt_3b067_1 rfl))) (m_bt_all (m_lf_all (o_blen C dJ1_charAt_3b067_2 rfl)) (m_bt_all (m_lf_all (o_callS C (sJ0_checkIndex_df160 l X hX) (m_in_of [460, 461, 82] (by decide +kernel) (by decide +kernel)) (m_tb_of 462 (by decide +kernel) rfl) (by decide +kernel) ⟨Nat.le_of_ble_eq_true rfl, Nat.le_of_ble_eq_true rfl⟩ dJ1_charAt_3b067_3 rfl)) (m_lf_all (o_aload_n C (i := 0) rfl dJ1_charAt_3b067_6 rfl))))) (m_bt_all (m_bt_all (m_lf_all (o_iload_n C (i := 1) rfl dJ1_charAt_3b067_7 rfl)) (m_bt_all (m_lf_all (o_bald C dJ1_charAt_3b067_8 rfl)) (m_lf_all (o_sipush C (x := (255)) (m_rngd rfl) rfl dJ1_charAt_3b067_9 rfl)))) (m_bt_all (m_lf_all (o_iand C dJ1_charAt_3b067_12 rfl)) (m_bt_all (m_lf_all (o_i2c C dJ1_charAt_3b067_13 rfl)) (m_lf_all (o_cret C hr dJ1_charAt_3b067_14))))))
set_option maxRecDepth 20000 in
def kJ0_charAt_5068e : m_C := m_bt 8 (m_bt 4 (m_bt 1 (m_lf 0 (s_ald 1 0)) (m_lf 1 (s_callT 4 1 wJ0_isLatin1_aae02))) (m_bt 7 (m_lf 4 (s_if 7 16 (fun x => x = 0))) (m_lf 7 (s_ald 8 0)))) (m_bt 12 (m_bt 11 (m_lf 8 (s_sval 11)) (m_lf 11 (s_ild 12 1))) (m_bt 15 (m_lf 12 (s_callS 15 2 wJ1_charAt_3b067)) (m_lf 15 (s_retc))))
theorem kJ0_charAt_5068e_0 : kJ0_charAt_5068e 0 = some (s_ald 1 0) := rfl
theorem kJ0_charAt_5068e_1 : kJ0_charAt_5068e 1 = some (s_callT 4 1 wJ0_isLatin1_aae02) := rfl
theorem kJ0_charAt_5068e_4 : kJ0_charAt_5068e 4 = some (s_if 7 16 (fun x => x = 0)) := rfl
theorem kJ0_charAt_5068e_7 : kJ0_charAt_5068e 7 = some (s_ald 8 0) := rfl
theorem kJ0_charAt_5068e_8 : kJ0_charAt_5068e 8 = some (s_sval 11) := rfl
theorem kJ0_charAt_5068e_11 : kJ0_charAt_5068e 11 = some (s_ild 12 1) := rfl
theorem kJ0_charAt_5068e_12 : kJ0_charAt_5068e 12 = some (s_callS 15 2 wJ1_charAt_3b067) := rfl
theorem kJ0_charAt_5068e_15 : kJ0_charAt_5068e 15 = some (s_retc) := rfl
def wJ0_charAt_5068e : m_GK := m_wp 2 kJ0_charAt_5068e
set_option maxRecDepth 100000 in
set_option maxHeartbeats 4000000 in
theorem sJ0_charAt_5068e (l : Launch) (X : m_X) (hX : m_inj X.1) : m_Sound l X 4 yJ0_charAt_5068e cJ0_charAt_5068e 2 (some .char) wJ0_charAt_5068e := m_sound_of hX (by decide) (fun p e s m args below meth c q C hr => m_bt_all (m_bt_all (m_bt_all (m_lf_all (o_aload_n C (i := 0) rfl dJ0_charAt_5068e_0 rfl)) (m_lf_all (o_callT C (sJ0_isLatin1_aae02 l X hX) rfl (m_in_of [453, 454, 455, 82] (by decide +kernel) (by decide +kernel)) (m_tb_of 456 (by decide +kernel) rfl) (by decide +kernel) rfl ⟨Nat.le_of_ble_eq_true rfl, Nat.le_of_ble_eq_true rfl⟩ dJ0_charAt_5068e_1 rfl))) (m_bt_all (m_lf_all (o_if_eq C dJ0_charAt_5068e_4 rfl rfl)) (m_lf_all (o_aload_n C (i := 0) rfl dJ0_charAt_5068e_7 rfl)))) (m_bt_all (m_bt_all (m_lf_all (o_sval C (m_tb_of 1338 (by decide +kernel) rfl) dJ0_charAt_5068e_8 rfl)) (m_lf_all (o_iload_n C (i := 1) rfl dJ0_charAt_5068e_11 rfl))) (m_bt_all (m_lf_all (o_callS C (sJ1_charAt_3b067 l X hX) (m_in_of [457, 458, 83] (by decide +kernel) (by decide +kernel)) (m_tb_of 459 (by decide +kernel) rfl) (by decide +kernel) ⟨Nat.le_of_ble_eq_true rfl, Nat.le_of_ble_eq_true rfl⟩ dJ0_charAt_5068e_12 rfl)) (m_lf_all (o_cret C hr dJ0_charAt_5068e_15)))))
set_option maxRecDepth 20000 in
def kX6_isDigit : m_C := m_bt 9 (m_bt 3 (m_bt 1 (m_lf 0 (s_ild 1 0)) (m_lf 1 (s_push 3 (.inl (48))))) (m_bt 6 (m_lf 3 (s_icmp 6 16 (fun x y => x < y))) (m_bt 7 (m_lf 6 (s_ild 7 0)) (m_lf 7 (s_push 9 (.inl (57))))))) (m_bt 13 (m_bt 12 (m_lf 9 (s_icmp 12 16 (fun x y => y < x))) (m_lf 12 (s_push 13 (.inl (1))))) (m_bt 16 (m_lf 13 (s_goto 17)) (m_bt 17 (m_lf 16 (s_push 17 (.inl (0)))) (m_lf 17 (s_retz)))))
theorem kX6_isDigit_0 : kX6_isDigit 0 = some (s_ild 1 0) := rfl
theorem kX6_isDigit_1 : kX6_isDigit 1 = some (s_push 3 (.inl (48))) := rfl
theorem kX6_isDigit_3 : kX6_isDigit 3 = some (s_icmp 6 16 (fun x y => x < y)) := rfl
theorem kX6_isDigit_6 : kX6_isDigit 6 = some (s_ild 7 0) := rfl
theorem kX6_isDigit_7 : kX6_isDigit 7 = some (s_push 9 (.inl (57))) := rfl
theorem kX6_isDigit_9 : kX6_isDigit 9 = some (s_icmp 12 16 (fun x y => y < x)) := rfl
theorem kX6_isDigit_12 : kX6_isDigit 12 = some (s_push 13 (.inl (1))) := rfl
theorem kX6_isDigit_13 : kX6_isDigit 13 = some (s_goto 17) := rfl
theorem kX6_isDigit_16 : kX6_isDigit 16 = some (s_push 17 (.inl (0))) := rfl
theorem kX6_isDigit_17 : kX6_isDigit 17 = some (s_retz) := rfl
def wX6_isDigit : m_GK := m_wp 1 kX6_isDigit
set_option maxRecDepth 100000 in
set_option maxHeartbeats 4000000 in
theorem sX6_isDigit (l : Launch) (X : m_X) (hX : m_inj X.1) : m_Sound l X 1 yX6_isDigit cX6_isDigit 1 (some .boolean) wX6_isDigit := m_sound_of hX (by decide) (fun p e s m args below meth c q C hr => m_bt_all (m_bt_all (m_bt_all (m_lf_all (o_iload_n C (i := 0) rfl dX6_isDigit_0 rfl)) (m_lf_all (o_bipush C (x := (48)) (m_rngd rfl) rfl dX6_isDigit_1 rfl))) (m_bt_all (m_lf_all (o_icmp_lt C dX6_isDigit_3 rfl rfl)) (m_bt_all (m_lf_all (o_iload_n C (i := 0) rfl dX6_isDigit_6 rfl)) (m_lf_all (o_bipush C (x := (57)) (m_rngd rfl) rfl dX6_isDigit_7 rfl))))) (m_bt_all (m_bt_all (m_lf_all (o_icmp_gt C dX6_isDigit_9 rfl rfl)) (m_lf_all (o_iconst C (x := (1)) (m_rngd rfl) dX6_isDigit_12 rfl))) (m_bt_all (m_lf_all (o_goto C dX6_isDigit_13 rfl)) (m_bt_all (m_lf_all (o_iconst C (x := (0)) (m_rngd rfl) dX6_isDigit_16 rfl)) (m_lf_all (o_zret C hr dX6_isDigit_17))))))
set_option maxRecDepth 20000 in
def kX6_readNumber : m_C := m_bt 52 (m_bt 26 (m_bt 15 (m_bt 5 (m_bt 1 (m_lf 0 (s_ald 1 0)) (m_bt 2 (m_lf 1 (s_ald 2 0)) (m_lf 2 (s_get 5 6 4)))) (m_bt 11 (m_bt 8 (m_lf 5 (s_callV 8 2 6 wX6_at)) (m_lf 8 (s_callS 11 1 wX6_isDigit))) (m_bt 14 (m_lf 11 (s_if 14 22 (fun x => x = 0))) (m_lf 14 (s_ald 15 0))))) (m_bt 22 (m_bt 18 (m_lf 15 (s_get 18 6 5)) (m_bt 19 (m_lf 18 (s_push 19 (.inl (3)))) (m_lf 19 (s_icmp 22 24 (fun x y => x < y))))) (m_bt 24 (m_bt 23 (m_lf 22 (s_push 23 (.inl (0)))) (m_lf 23 (s_retz))) (m_bt 25 (m_lf 24 (s_push 25 (.inl (0)))) (m_lf 25 (s_ist 26 2)))))) (m_bt 35 (m_bt 29 (m_bt 27 (m_lf 26 (s_push 27 (.inl (0)))) (m_bt 28 (m_lf 27 (s_ist 28 3)) (m_lf 28 (s_ild 29 3)))) (m_bt 33 (m_bt 30 (m_lf 29 (s_ild 30 1)) (m_lf 30 (s_icmp 33 80 (fun x y => y ≤ x)))) (m_bt 34 (m_lf 33 (s_ald 34 0)) (m_lf 34 (s_ald 35 0))))) (m_bt 47 (m_bt 41 (m_bt 38 (m_lf 35 (s_get 38 6 4)) (m_lf 38 (s_callV 41 2 6 wX6_at))) (m_bt 44 (m_lf 41 (s_callS 44 1 wX6_isDigit)) (m_lf 44 (s_if 47 80 (fun x => x = 0))))) (m_bt 50 (m_bt 48 (m_lf 47 (s_ild 48 2)) (m_lf 48 (s_push 50 (.inl (10))))) (m_bt 51 (m_lf 50 (s_bin 51 (fun x y => m_wrap (x * y)))) (m_lf 51 (s_ald 52 0))))))) (m_bt 77 (m_bt 64 (m_bt 59 (m_bt 53 (m_lf 52 (s_ald 53 0)) (m_bt 56 (m_lf 53 (s_get 56 6 4)) (m_lf 56 (s_callV 59 2 6 wX6_at)))) (m_bt 62 (m_bt 60 (m_lf 59 (s_bin 60 (fun x y => m_wrap (x + y)))) (m_lf 60 (s_push 62 (.inl (48))))) (m_bt 63 (m_lf 62 (s_bin 63 (fun x y => m_wrap (x - y)))) (m_lf 63 (s_ist 64 2))))) (m_bt 69 (m_bt 65 (m_lf 64 (s_ald 65 0)) (m_bt 66 (m_lf 65 (s_dup 66)) (m_lf 66 (s_get 69 6 4)))) (m_bt 71 (m_bt 70 (m_lf 69 (s_push 70 (.inl (1)))) (m_lf 70 (s_bin 71 (fun x y => m_wrap (x + y))))) (m_bt 74 (m_lf 71 (s_put 74 6 4)) (m_lf 74 (s_inc 77 3 (1))))))) (m_bt 90 (m_bt 84 (m_bt 80 (m_lf 77 (s_goto 28)) (m_bt 81 (m_lf 80 (s_ald 81 0)) (m_lf 81 (s_get 84 6 2)))) (m_bt 88 (m_bt 85 (m_lf 84 (s_ald 85 0)) (m_lf 85 (s_get 88 6 5))) (m_bt 89 (m_lf 88 (s_ild 89 2)) (m_lf 89 (s_iast 90))))) (m_bt 96 (m_bt 92 (m_bt 91 (m_lf 90 (s_ald 91 0)) (m_lf 91 (s_dup 92))) (m_bt 95 (m_lf 92 (s_get 95 6 5)) (m_lf 95 (s_push 96 (.inl (1)))))) (m_bt 100 (m_bt 97 (m_lf 96 (s_bin 97 (fun x y => m_wrap (x + y)))) (m_lf 97 (s_put 100 6 5))) (m_bt 101 (m_lf 100 (s_push 101 (.inl (1)))) (m_lf 101 (s_retz)))))))
theorem kX6_readNumber_0 : kX6_readNumber 0 = some (s_ald 1 0) := rfl
theorem kX6_readNumber_1 : kX6_readNumber 1 = some (s_ald 2 0) := rfl
theorem kX6_readNumber_2 : kX6_readNumber 2 = some (s_get 5 6 4) := rfl
theorem kX6_readNumber_5 : kX6_readNumber 5 = some (s_callV 8 2 6 wX6_at) := rfl
theorem kX6_readNumber_8 : kX6_readNumber 8 = some (s_callS 11 1 wX6_isDigit) := rfl
theorem kX6_readNumber_11 : kX6_readNumber 11 = some (s_if 14 22 (fun x => x = 0)) := rfl
theorem kX6_readNumber_14 : kX6_readNumber 14 = some (s_ald 15 0) := rfl
theorem kX6_readNumber_15 : kX6_readNumber 15 = some (s_get 18 6 5) := rfl
theorem kX6_readNumber_18 : kX6_readNumber 18 = some (s_push 19 (.inl (3))) := rfl
theorem kX6_readNumber_19 : kX6_readNumber 19 = some (s_icmp 22 24 (fun x y => x < y)) := rfl
theorem kX6_readNumber_22 : kX6_readNumber 22 = some (s_push 23 (.inl (0))) := rfl
theorem kX6_readNumber_23 : kX6_readNumber 23 = some (s_retz) := rfl
theorem kX6_readNumber_24 : kX6_readNumber 24 = some (s_push 25 (.inl (0))) := rfl
theorem kX6_readNumber_25 : kX6_readNumber 25 = some (s_ist 26 2) := rfl
theorem kX6_readNumber_26 : kX6_readNumber 26 = some (s_push 27 (.inl (0))) := rfl
theorem kX6_readNumber_27 : kX6_readNumber 27 = some (s_ist 28 3) := rfl
theorem kX6_readNumber_28 : kX6_readNumber 28 = some (s_ild 29 3) := rfl
theorem kX6_readNumber_29 : kX6_readNumber 29 = some (s_ild 30 1) := rfl
theorem kX6_readNumber_30 : kX6_readNumber 30 = some (s_icmp 33 80 (fun x y => y ≤ x)) := rfl
theorem kX6_readNumber_33 : kX6_readNumber 33 = some (s_ald 34 0) := rfl
theorem kX6_readNumber_34 : kX6_readNumber 34 = some (s_ald 35 0) := rfl
theorem kX6_readNumber_35 : kX6_readNumber 35 = some (s_get 38 6 4) := rfl
theorem kX6_readNumber_38 : kX6_readNumber 38 = some (s_callV 41 2 6 wX6_at) := rfl
theorem kX6_readNumber_41 : kX6_readNumber 41 = some (s_callS 44 1 wX6_isDigit) := rfl
theorem kX6_readNumber_44 : kX6_readNumber 44 = some (s_if 47 80 (fun x => x = 0)) := rfl
theorem kX6_readNumber_47 : kX6_readNumber 47 = some (s_ild 48 2) := rfl
theorem kX6_readNumber_48 : kX6_readNumber 48 = some (s_push 50 (.inl (10))) := rfl
theorem kX6_readNumber_50 : kX6_readNumber 50 = some (s_bin 51 (fun x y => m_wrap (x * y))) := rfl
theorem kX6_readNumber_51 : kX6_readNumber 51 = some (s_ald 52 0) := rfl
theorem kX6_readNumber_52 : kX6_readNumber 52 = some (s_ald 53 0) := rfl
theorem kX6_readNumber_53 : kX6_readNumber 53 = some (s_get 56 6 4) := rfl
theorem kX6_readNumber_56 : kX6_readNumber 56 = some (s_callV 59 2 6 wX6_at) := rfl
theorem kX6_readNumber_59 : kX6_readNumber 59 = some (s_bin 60 (fun x y => m_wrap (x + y))) := rfl
theorem kX6_readNumber_60 : kX6_readNumber 60 = some (s_push 62 (.inl (48))) := rfl
theorem kX6_readNumber_62 : kX6_readNumber 62 = some (s_bin 63 (fun x y => m_wrap (x - y))) := rfl
theorem kX6_readNumber_63 : kX6_readNumber 63 = some (s_ist 64 2) := rfl
theorem kX6_readNumber_64 : kX6_readNumber 64 = some (s_ald 65 0) := rfl
theorem kX6_readNumber_65 : kX6_readNumber 65 = some (s_dup 66) := rfl
theorem kX6_readNumber_66 : kX6_readNumber 66 = some (s_get 69 6 4) := rfl
theorem kX6_readNumber_69 : kX6_readNumber 69 = some (s_push 70 (.inl (1))) := rfl
theorem kX6_readNumber_70 : kX6_readNumber 70 = some (s_bin 71 (fun x y => m_wrap (x + y))) := rfl
theorem kX6_readNumber_71 : kX6_readNumber 71 = some (s_put 74 6 4) := rfl
theorem kX6_readNumber_74 : kX6_readNumber 74 = some (s_inc 77 3 (1)) := rfl
theorem kX6_readNumber_77 : kX6_readNumber 77 = some (s_goto 28) := rfl
theorem kX6_readNumber_80 : kX6_readNumber 80 = some (s_ald 81 0) := rfl
theorem kX6_readNumber_81 : kX6_readNumber 81 = some (s_get 84 6 2) := rfl
theorem kX6_readNumber_84 : kX6_readNumber 84 = some (s_ald 85 0) := rfl
theorem kX6_readNumber_85 : kX6_readNumber 85 = some (s_get 88 6 5) := rfl
theorem kX6_readNumber_88 : kX6_readNumber 88 = some (s_ild 89 2) := rfl
theorem kX6_readNumber_89 : kX6_readNumber 89 = some (s_iast 90) := rfl
theorem kX6_readNumber_90 : kX6_readNumber 90 = some (s_ald 91 0) := rfl
theorem kX6_readNumber_91 : kX6_readNumber 91 = some (s_dup 92) := rfl
theorem kX6_readNumber_92 : kX6_readNumber 92 = some (s_get 95 6 5) := rfl
theorem kX6_readNumber_95 : kX6_readNumber 95 = some (s_push 96 (.inl (1))) := rfl
theorem kX6_readNumber_96 : kX6_readNumber 96 = some (s_bin 97 (fun x y => m_wrap (x + y))) := rfl
theorem kX6_readNumber_97 : kX6_readNumber 97 = some (s_put 100 6 5) := rfl
theorem kX6_readNumber_100 : kX6_readNumber 100 = some (s_push 101 (.inl (1))) := rfl
theorem kX6_readNumber_101 : kX6_readNumber 101 = some (s_retz) := rfl
def wX6_readNumber : m_GK := m_wp 4 kX6_readNumber
set_option maxRecDepth 100000 in
set_option maxHeartbeats 4000000 in
theorem sX6_readNumber (l : Launch) (X : m_X) (hX : m_inj X.1) : m_Sound l X 2 yX6_readNumber cX6_readNumber 4 (some .boolean) wX6_readNumber := m_sound_of hX (by decide) (fun p e s m args below meth c q C hr => m_bt_all (m_bt_all (m_bt_all (m_bt_all (m_bt_all (m_lf_all (o_aload_n C (i := 0) rfl dX6_readNumber_0 rfl)) (m_bt_all (m_lf_all (o_aload_n C (i := 0) rfl dX6_readNumber_1 rfl)) (m_lf_all (o_get C (ci := 6) (k := 4) (N := 6) (rf := RX6) (T := TX6) rfl ginX6 (Nat.le_of_ble_eq_true rfl) (m_tb_of 161 (by decide +kernel) rfl) dX6_readNumber_2 rfl)))) (m_bt_all (m_bt_all (m_lf_all (o_callV C (T := TX6) (N := 6) (sX6_at l X hX) rfl (m_in_of [424, 426, 3, 74] (by decide +kernel) (by decide +kernel)) (m_tb_of 427 (by decide +kernel) rfl) (by decide +kernel) rfl ⟨Nat.le_of_ble_eq_true rfl, Nat.le_of_ble_eq_true rfl⟩ dX6_readNumber_5 rfl)) (m_lf_all (o_callS C (sX6_isDigit l X hX) (m_in_of [495, 496, 74] (by decide +kernel) (by decide +kernel)) (m_tb_of 497 (by decide +kernel) rfl) (by decide +kernel) ⟨Nat.le_of_ble_eq_true rfl, Nat.le_of_ble_eq_true rfl⟩ dX6_readNumber_8 rfl))) (m_bt_all (m_lf_all (o_if_eq C dX6_readNumber_11 rfl rfl)) (m_lf_all (o_aload_n C (i := 0) rfl dX6_readNumber_14 rfl))))) (m_bt_all (m_bt_all (m_lf_all (o_get C (ci := 6) (k := 5) (N := 6) (rf := RX6) (T := TX6) rfl ginX6 (Nat.le_of_ble_eq_true rfl) (m_tb_of 162 (by decide +kernel) rfl) dX6_readNumber_15 rfl)) (m_bt_all (m_lf_all (o_iconst C (x := (3)) (m_rngd rfl) dX6_readNumber_18 rfl)) (m_lf_all (o_icmp_lt C dX6_readNumber_19 rfl rfl)))) (m_bt_all (m_bt_all (m_lf_all (o_iconst C (x := (0)) (m_rngd rfl) dX6_readNumber_22 rfl)) (m_lf_all (o_zret C hr dX6_readNumber_23))) (m_bt_all (m_lf_all (o_iconst C (x := (0)) (m_rngd rfl) dX6_readNumber_24 rfl)) (m_lf_all (o_istore_n C (i := 2) rfl dX6_readNumber_25 rfl)))))) (m_bt_all (m_bt_all (m_bt_all (m_lf_all (o_iconst C (x := (0)) (m_rngd rfl) dX6_readNumber_26 rfl)) (m_bt_all (m_lf_all (o_istore_n C (i := 3) rfl dX6_readNumber_27 rfl)) (m_lf_all (o_iload_n C (i := 3) rfl dX6_readNumber_28 rfl)))) (m_bt_all (m_bt_all (m_lf_all (o_iload_n C (i := 1) rfl dX6_readNumber_29 rfl)) (m_lf_all (o_icmp_ge C dX6_readNumber_30 rfl rfl))) (m_bt_all (m_lf_all (o_aload_n C (i := 0) rfl dX6_readNumber_33 rfl)) (m_lf_all (o_aload_n C (i := 0) rfl dX6_readNumber_34 rfl))))) (m_bt_all (m_bt_all (m_bt_all (m_lf_all (o_get C (ci := 6) (k := 4) (N := 6) (rf := RX6) (T := TX6) rfl ginX6 (Nat.le_of_ble_eq_true rfl) (m_tb_of 161 (by decide +kernel) rfl) dX6_readNumber_35 rfl)) (m_lf_all (o_callV C (T := TX6) (N := 6) (sX6_at l X hX) rfl (m_in_of [424, 426, 3, 74] (by decide +kernel) (by decide +kernel)) (m_tb_of 427 (by decide +kernel) rfl) (by decide +kernel) rfl ⟨Nat.le_of_ble_eq_true rfl, Nat.le_of_ble_eq_true rfl⟩ dX6_readNumber_38 rfl))) (m_bt_all (m_lf_all (o_callS C (sX6_isDigit l X hX) (m_in_of [495, 496, 74] (by decide +kernel) (by decide +kernel)) (m_tb_of 497 (by decide +kernel) rfl) (by decide +kernel) ⟨Nat.le_of_ble_eq_true rfl, Nat.le_of_ble_eq_true rfl⟩ dX6_readNumber_41 rfl)) (m_lf_all (o_if_eq C dX6_readNumber_44 rfl rfl)))) (m_bt_all (m_bt_all (m_lf_all (o_iload_n C (i := 2) rfl dX6_readNumber_47 rfl)) (m_lf_all (o_bipush C (x := (10)) (m_rngd rfl) rfl dX6_readNumber_48 rfl))) (m_bt_all (m_lf_all (o_imul C dX6_readNumber_50 rfl)) (m_lf_all (o_aload_n C (i := 0) rfl dX6_readNumber_51 rfl))))))) (m_bt_all (m_bt_all (m_bt_all (m_bt_all (m_lf_all (o_aload_n C (i := 0) rfl dX6_readNumber_52 rfl)) (m_bt_all (m_lf_all (o_get C (ci := 6) (k := 4) (N := 6) (rf := RX6) (T := TX6) rfl ginX6 (Nat.le_of_ble_eq_true rfl) (m_tb_of 161 (by decide +kernel) rfl) dX6_readNumber_53 rfl)) (m_lf_all (o_callV C (T := TX6) (N := 6) (sX6_at l X hX) rfl (m_in_of [424, 426, 3, 74] (by decide +kernel) (by decide +kernel)) (m_tb_of 427 (by decide +kernel) rfl) (by decide +kernel) rfl ⟨Nat.le_of_ble_eq_true rfl, Nat.le_of_ble_eq_true rfl⟩ dX6_readNumber_56 rfl)))) (m_bt_all (m_bt_all (m_lf_all (o_iadd C dX6_readNumber_59 rfl)) (m_lf_all (o_bipush C (x := (48)) (m_rngd rfl) rfl dX6_readNumber_60 rfl))) (m_bt_all (m_lf_all (o_isub C dX6_readNumber_62 rfl)) (m_lf_all (o_istore_n C (i := 2) rfl dX6_readNumber_63 rfl))))) (m_bt_all (m_bt_all (m_lf_all (o_aload_n C (i := 0) rfl dX6_readNumber_64 rfl)) (m_bt_all (m_lf_all (o_dup C dX6_readNumber_65 rfl)) (m_lf_all (o_get C (ci := 6) (k := 4) (N := 6) (rf := RX6) (T := TX6) rfl ginX6 (Nat.le_of_ble_eq_true rfl) (m_tb_of 161 (by decide +kernel) rfl) dX6_readNumber_66 rfl)))) (m_bt_all (m_bt_all (m_lf_all (o_iconst C (x := (1)) (m_rngd rfl) dX6_readNumber_69 rfl)) (m_lf_all (o_iadd C dX6_readNumber_70 rfl))) (m_bt_all (m_lf_all (o_put C (ci := 6) (k := 4) (N := 6) (rf := RX6) (T := TX6) rfl ginX6 (Nat.le_of_ble_eq_true rfl) (m_tb_of 161 (by decide +kernel) rfl) (ty0 := tyX6) tyX6_ok nmX6 rfl rfl dX6_readNumber_71 rfl)) (m_lf_all (o_iinc C dX6_readNumber_74 rfl)))))) (m_bt_all (m_bt_all (m_bt_all (m_lf_all (o_goto C dX6_readNumber_77 rfl)) (m_bt_all (m_lf_all (o_aload_n C (i := 0) rfl dX6_readNumber_80 rfl)) (m_lf_all (o_get C (ci := 6) (k := 2) (N := 6) (rf := RX6) (T := TX6) rfl ginX6 (Nat.le_of_ble_eq_true rfl) (m_tb_of 159 (by decide +kernel) rfl) dX6_readNumber_81 rfl)))) (m_bt_all (m_bt_all (m_lf_all (o_aload_n C (i := 0) rfl dX6_readNumber_84 rfl)) (m_lf_all (o_get C (ci := 6) (k := 5) (N := 6) (rf := RX6) (T := TX6) rfl ginX6 (Nat.le_of_ble_eq_true rfl) (m_tb_of 162 (by decide +kernel) rfl) dX6_readNumber_85 rfl))) (m_bt_all (m_lf_all (o_iload_n C (i := 2) rfl dX6_readNumber_88 rfl)) (m_lf_all (o_iast C dX6_readNumber_89 rfl))))) (m_bt_all (m_bt_all (m_bt_all (m_lf_all (o_aload_n C (i := 0) rfl dX6_readNumber_90 rfl)) (m_lf_all (o_dup C dX6_readNumber_91 rfl))) (m_bt_all (m_lf_all (o_get C (ci := 6) (k := 5) (N := 6) (rf := RX6) (T := TX6) rfl ginX6 (Nat.le_of_ble_eq_true rfl) (m_tb_of 162 (by decide +kernel) rfl) dX6_readNumber_92 rfl)) (m_lf_all (o_iconst C (x := (1)) (m_rngd rfl) dX6_readNumber_95 rfl)))) (m_bt_all (m_bt_all (m_lf_all (o_iadd C dX6_readNumber_96 rfl)) (m_lf_all (o_put C (ci := 6) (k := 5) (N := 6) (rf := RX6) (T := TX6) rfl ginX6 (Nat.le_of_ble_eq_true rfl) (m_tb_of 162 (by decide +kernel) rfl) (ty0 := tyX6) tyX6_ok nmX6 rfl rfl dX6_readNumber_97 rfl))) (m_bt_all (m_lf_all (o_iconst C (x := (1)) (m_rngd rfl) dX6_readNumber_100 rfl)) (m_lf_all (o_zret C hr dX6_readNumber_101))))))))
