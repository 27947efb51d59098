set_option maxRecDepth 20000 in
def kX2_allComers : m_C := m_bt 21 (m_bt 9 (m_bt 3 (m_bt 1 (m_lf 0 (s_push 1 (.inl (0)))) (m_bt 2 (m_lf 1 (s_ist 2 1)) (m_lf 2 (s_push 3 (.inl (0)))))) (m_bt 5 (m_bt 4 (m_lf 3 (s_ist 4 2)) (m_lf 4 (s_ild 5 2))) (m_bt 6 (m_lf 5 (s_ald 6 0)) (m_lf 6 (s_get 9 2 0))))) (m_bt 15 (m_bt 13 (m_bt 12 (m_lf 9 (s_icmp 12 44 (fun x y => y ≤ x))) (m_lf 12 (s_push 13 (.inl (0))))) (m_bt 14 (m_lf 13 (s_ist 14 3)) (m_lf 14 (s_ild 15 3)))) (m_bt 19 (m_bt 16 (m_lf 15 (s_push 16 (.inl (4)))) (m_lf 16 (s_icmp 19 38 (fun x y => y ≤ x)))) (m_bt 20 (m_lf 19 (s_ild 20 1)) (m_lf 20 (s_ald 21 0)))))) (m_bt 30 (m_bt 26 (m_bt 24 (m_lf 21 (s_get 24 2 4)) (m_bt 25 (m_lf 24 (s_ild 25 2)) (m_lf 25 (s_push 26 (.inl (4)))))) (m_bt 28 (m_bt 27 (m_lf 26 (s_bin 27 (fun x y => m_wrap (x * y)))) (m_lf 27 (s_ild 28 3))) (m_bt 29 (m_lf 28 (s_bin 29 (fun x y => m_wrap (x + y)))) (m_lf 29 (s_iald 30))))) (m_bt 38 (m_bt 32 (m_bt 31 (m_lf 30 (s_bin 31 (fun x y => m_wrap (x + y)))) (m_lf 31 (s_ist 32 1))) (m_bt 35 (m_lf 32 (s_inc 35 3 (1))) (m_lf 35 (s_goto 14)))) (m_bt 44 (m_bt 41 (m_lf 38 (s_inc 41 2 (1))) (m_lf 41 (s_goto 4))) (m_bt 45 (m_lf 44 (s_ild 45 1)) (m_lf 45 (s_ret))))))
theorem kX2_allComers_0 : kX2_allComers 0 = some (s_push 1 (.inl (0))) := rfl
theorem kX2_allComers_1 : kX2_allComers 1 = some (s_ist 2 1) := rfl
theorem kX2_allComers_2 : kX2_allComers 2 = some (s_push 3 (.inl (0))) := rfl
theorem kX2_allComers_3 : kX2_allComers 3 = some (s_ist 4 2) := rfl
theorem kX2_allComers_4 : kX2_allComers 4 = some (s_ild 5 2) := rfl
theorem kX2_allComers_5 : kX2_allComers 5 = some (s_ald 6 0) := rfl
theorem kX2_allComers_6 : kX2_allComers 6 = some (s_get 9 2 0) := rfl
theorem kX2_allComers_9 : kX2_allComers 9 = some (s_icmp 12 44 (fun x y => y ≤ x)) := rfl
theorem kX2_allComers_12 : kX2_allComers 12 = some (s_push 13 (.inl (0))) := rfl
theorem kX2_allComers_13 : kX2_allComers 13 = some (s_ist 14 3) := rfl
theorem kX2_allComers_14 : kX2_allComers 14 = some (s_ild 15 3) := rfl
theorem kX2_allComers_15 : kX2_allComers 15 = some (s_push 16 (.inl (4))) := rfl
theorem kX2_allComers_16 : kX2_allComers 16 = some (s_icmp 19 38 (fun x y => y ≤ x)) := rfl
theorem kX2_allComers_19 : kX2_allComers 19 = some (s_ild 20 1) := rfl
theorem kX2_allComers_20 : kX2_allComers 20 = some (s_ald 21 0) := rfl
theorem kX2_allComers_21 : kX2_allComers 21 = some (s_get 24 2 4) := rfl
theorem kX2_allComers_24 : kX2_allComers 24 = some (s_ild 25 2) := rfl
theorem kX2_allComers_25 : kX2_allComers 25 = some (s_push 26 (.inl (4))) := rfl
theorem kX2_allComers_26 : kX2_allComers 26 = some (s_bin 27 (fun x y => m_wrap (x * y))) := rfl
theorem kX2_allComers_27 : kX2_allComers 27 = some (s_ild 28 3) := rfl
theorem kX2_allComers_28 : kX2_allComers 28 = some (s_bin 29 (fun x y => m_wrap (x + y))) := rfl
theorem kX2_allComers_29 : kX2_allComers 29 = some (s_iald 30) := rfl
theorem kX2_allComers_30 : kX2_allComers 30 = some (s_bin 31 (fun x y => m_wrap (x + y))) := rfl
theorem kX2_allComers_31 : kX2_allComers 31 = some (s_ist 32 1) := rfl
theorem kX2_allComers_32 : kX2_allComers 32 = some (s_inc 35 3 (1)) := rfl
theorem kX2_allComers_35 : kX2_allComers 35 = some (s_goto 14) := rfl
theorem kX2_allComers_38 : kX2_allComers 38 = some (s_inc 41 2 (1)) := rfl
theorem kX2_allComers_41 : kX2_allComers 41 = some (s_goto 4) := rfl
theorem kX2_allComers_44 : kX2_allComers 44 = some (s_ild 45 1) := rfl
theorem kX2_allComers_45 : kX2_allComers 45 = some (s_ret) := rfl
def wX2_allComers : m_GK := m_wp 4 kX2_allComers
set_option maxRecDepth 100000 in
set_option maxHeartbeats 4000000 in
theorem sX2_allComers (l : Launch) (X : m_X) (hX : m_inj X.1) : m_Sound l X 1 yX2_allComers cX2_allComers 4 (some .int) wX2_allComers := m_sound_of hX (by decide) (fun p e s m args below meth c q C hr => m_bt_all (m_bt_all (m_bt_all (m_bt_all (m_lf_all (o_iconst C (x := (0)) (m_rngd rfl) dX2_allComers_0 rfl)) (m_bt_all (m_lf_all (o_istore_n C (i := 1) rfl dX2_allComers_1 rfl)) (m_lf_all (o_iconst C (x := (0)) (m_rngd rfl) dX2_allComers_2 rfl)))) (m_bt_all (m_bt_all (m_lf_all (o_istore_n C (i := 2) rfl dX2_allComers_3 rfl)) (m_lf_all (o_iload_n C (i := 2) rfl dX2_allComers_4 rfl))) (m_bt_all (m_lf_all (o_aload_n C (i := 0) rfl dX2_allComers_5 rfl)) (m_lf_all (o_get C (ci := 2) (k := 0) (N := 8) (rf := RX2) (T := TX2) rfl ginX2 (Nat.le_of_ble_eq_true rfl) (m_tb_of 105 (by decide +kernel) rfl) dX2_allComers_6 rfl))))) (m_bt_all (m_bt_all (m_bt_all (m_lf_all (o_icmp_ge C dX2_allComers_9 rfl rfl)) (m_lf_all (o_iconst C (x := (0)) (m_rngd rfl) dX2_allComers_12 rfl))) (m_bt_all (m_lf_all (o_istore_n C (i := 3) rfl dX2_allComers_13 rfl)) (m_lf_all (o_iload_n C (i := 3) rfl dX2_allComers_14 rfl)))) (m_bt_all (m_bt_all (m_lf_all (o_iconst C (x := (4)) (m_rngd rfl) dX2_allComers_15 rfl)) (m_lf_all (o_icmp_ge C dX2_allComers_16 rfl rfl))) (m_bt_all (m_lf_all (o_iload_n C (i := 1) rfl dX2_allComers_19 rfl)) (m_lf_all (o_aload_n C (i := 0) rfl dX2_allComers_20 rfl)))))) (m_bt_all (m_bt_all (m_bt_all (m_lf_all (o_get C (ci := 2) (k := 4) (N := 8) (rf := RX2) (T := TX2) rfl ginX2 (Nat.le_of_ble_eq_true rfl) (m_tb_of 122 (by decide +kernel) rfl) dX2_allComers_21 rfl)) (m_bt_all (m_lf_all (o_iload_n C (i := 2) rfl dX2_allComers_24 rfl)) (m_lf_all (o_iconst C (x := (4)) (m_rngd rfl) dX2_allComers_25 rfl)))) (m_bt_all (m_bt_all (m_lf_all (o_imul C dX2_allComers_26 rfl)) (m_lf_all (o_iload_n C (i := 3) rfl dX2_allComers_27 rfl))) (m_bt_all (m_lf_all (o_iadd C dX2_allComers_28 rfl)) (m_lf_all (o_iald C dX2_allComers_29 rfl))))) (m_bt_all (m_bt_all (m_bt_all (m_lf_all (o_iadd C dX2_allComers_30 rfl)) (m_lf_all (o_istore_n C (i := 1) rfl dX2_allComers_31 rfl))) (m_bt_all (m_lf_all (o_iinc C dX2_allComers_32 rfl)) (m_lf_all (o_goto C dX2_allComers_35 rfl)))) (m_bt_all (m_bt_all (m_lf_all (o_iinc C dX2_allComers_38 rfl)) (m_lf_all (o_goto C dX2_allComers_41 rfl))) (m_bt_all (m_lf_all (o_iload_n C (i := 1) rfl dX2_allComers_44 rfl)) (m_lf_all (o_iret C hr dX2_allComers_45)))))))
set_option maxRecDepth 20000 in
def kX0_nextSecond : m_C := m_bt 51 (m_bt 24 (m_bt 12 (m_bt 4 (m_bt 2 (m_bt 1 (m_lf 0 (s_push 1 (.inl (0)))) (m_lf 1 (s_ist 2 3))) (m_bt 3 (m_lf 2 (s_ild 3 3)) (m_lf 3 (s_push 4 (.inl (4)))))) (m_bt 8 (m_bt 7 (m_lf 4 (s_icmp 7 98 (fun x y => y < x))) (m_lf 7 (s_ald 8 0))) (m_bt 11 (m_lf 8 (s_get 11 0 6)) (m_lf 11 (s_ild 12 2))))) (m_bt 18 (m_bt 14 (m_bt 13 (m_lf 12 (s_iald 13)) (m_lf 13 (s_push 14 (.inl (4))))) (m_bt 17 (m_lf 14 (s_icmp 17 98 (fun x y => y ≤ x))) (m_lf 17 (s_ald 18 1)))) (m_bt 22 (m_bt 21 (m_lf 18 (s_get 21 2 4)) (m_lf 21 (s_ild 22 2))) (m_bt 23 (m_lf 22 (s_push 23 (.inl (4)))) (m_lf 23 (s_bin 24 (fun x y => m_wrap (x * y)))))))) (m_bt 36 (m_bt 30 (m_bt 28 (m_bt 25 (m_lf 24 (s_ald 25 0)) (m_lf 25 (s_get 28 0 6))) (m_bt 29 (m_lf 28 (s_ild 29 2)) (m_lf 29 (s_iald 30)))) (m_bt 32 (m_bt 31 (m_lf 30 (s_bin 31 (fun x y => m_wrap (x + y)))) (m_lf 31 (s_iald 32))) (m_bt 34 (m_lf 32 (s_ist 34 4)) (m_lf 34 (s_ild 36 4))))) (m_bt 44 (m_bt 40 (m_bt 39 (m_lf 36 (s_if 39 75 (fun x => x ≤ 0))) (m_lf 39 (s_ald 40 0))) (m_bt 43 (m_lf 40 (s_get 43 0 7)) (m_lf 43 (s_ild 44 2)))) (m_bt 47 (m_bt 45 (m_lf 44 (s_iald 45)) (m_lf 45 (s_ild 47 4))) (m_bt 50 (m_lf 47 (s_icmp 50 75 (fun x y => y ≤ x))) (m_lf 50 (s_ald 51 0))))))) (m_bt 76 (m_bt 65 (m_bt 59 (m_bt 55 (m_bt 54 (m_lf 51 (s_get 54 0 6)) (m_lf 54 (s_ild 55 2))) (m_bt 56 (m_lf 55 (s_iald 56)) (m_lf 56 (s_push 59 (.inl (900)))))) (m_bt 61 (m_bt 60 (m_lf 59 (s_bin 60 (fun x y => m_wrap (x * y)))) (m_lf 60 (s_ald 61 0))) (m_bt 64 (m_lf 61 (s_get 64 0 7)) (m_lf 64 (s_ild 65 2))))) (m_bt 72 (m_bt 69 (m_bt 66 (m_lf 65 (s_iald 66)) (m_lf 66 (s_push 69 (.inl (900))))) (m_bt 70 (m_lf 69 (s_bin 70 (fun x y => m_wrap (x * y)))) (m_lf 70 (s_ild 72 4)))) (m_bt 74 (m_bt 73 (m_lf 72 (s_div 73)) (m_lf 73 (s_bin 74 (fun x y => m_wrap (x + y))))) (m_bt 75 (m_lf 74 (s_ret)) (m_lf 75 (s_ald 76 0)))))) (m_bt 86 (m_bt 82 (m_bt 80 (m_bt 79 (m_lf 76 (s_get 79 0 6)) (m_lf 79 (s_ild 80 2))) (m_bt 81 (m_lf 80 (s_dup2 81)) (m_lf 81 (s_iald 82)))) (m_bt 84 (m_bt 83 (m_lf 82 (s_push 83 (.inl (1)))) (m_lf 83 (s_bin 84 (fun x y => m_wrap (x + y))))) (m_bt 85 (m_lf 84 (s_iast 85)) (m_lf 85 (s_ald 86 0))))) (m_bt 92 (m_bt 90 (m_bt 89 (m_lf 86 (s_get 89 0 7)) (m_lf 89 (s_ild 90 2))) (m_bt 91 (m_lf 90 (s_push 91 (.inl (0)))) (m_lf 91 (s_iast 92)))) (m_bt 98 (m_bt 95 (m_lf 92 (s_inc 95 3 (1))) (m_lf 95 (s_goto 2))) (m_bt 101 (m_lf 98 (s_push 101 (.inl (3600)))) (m_lf 101 (s_ret)))))))
theorem kX0_nextSecond_0 : kX0_nextSecond 0 = some (s_push 1 (.inl (0))) := rfl
theorem kX0_nextSecond_1 : kX0_nextSecond 1 = some (s_ist 2 3) := rfl
theorem kX0_nextSecond_2 : kX0_nextSecond 2 = some (s_ild 3 3) := rfl
theorem kX0_nextSecond_3 : kX0_nextSecond 3 = some (s_push 4 (.inl (4))) := rfl
theorem kX0_nextSecond_4 : kX0_nextSecond 4 = some (s_icmp 7 98 (fun x y => y < x)) := rfl
theorem kX0_nextSecond_7 : kX0_nextSecond 7 = some (s_ald 8 0) := rfl
theorem kX0_nextSecond_8 : kX0_nextSecond 8 = some (s_get 11 0 6) := rfl
theorem kX0_nextSecond_11 : kX0_nextSecond 11 = some (s_ild 12 2) := rfl
theorem kX0_nextSecond_12 : kX0_nextSecond 12 = some (s_iald 13) := rfl
theorem kX0_nextSecond_13 : kX0_nextSecond 13 = some (s_push 14 (.inl (4))) := rfl
theorem kX0_nextSecond_14 : kX0_nextSecond 14 = some (s_icmp 17 98 (fun x y => y ≤ x)) := rfl
theorem kX0_nextSecond_17 : kX0_nextSecond 17 = some (s_ald 18 1) := rfl
theorem kX0_nextSecond_18 : kX0_nextSecond 18 = some (s_get 21 2 4) := rfl
theorem kX0_nextSecond_21 : kX0_nextSecond 21 = some (s_ild 22 2) := rfl
theorem kX0_nextSecond_22 : kX0_nextSecond 22 = some (s_push 23 (.inl (4))) := rfl
theorem kX0_nextSecond_23 : kX0_nextSecond 23 = some (s_bin 24 (fun x y => m_wrap (x * y))) := rfl
theorem kX0_nextSecond_24 : kX0_nextSecond 24 = some (s_ald 25 0) := rfl
theorem kX0_nextSecond_25 : kX0_nextSecond 25 = some (s_get 28 0 6) := rfl
theorem kX0_nextSecond_28 : kX0_nextSecond 28 = some (s_ild 29 2) := rfl
theorem kX0_nextSecond_29 : kX0_nextSecond 29 = some (s_iald 30) := rfl
theorem kX0_nextSecond_30 : kX0_nextSecond 30 = some (s_bin 31 (fun x y => m_wrap (x + y))) := rfl
theorem kX0_nextSecond_31 : kX0_nextSecond 31 = some (s_iald 32) := rfl
theorem kX0_nextSecond_32 : kX0_nextSecond 32 = some (s_ist 34 4) := rfl
theorem kX0_nextSecond_34 : kX0_nextSecond 34 = some (s_ild 36 4) := rfl
theorem kX0_nextSecond_36 : kX0_nextSecond 36 = some (s_if 39 75 (fun x => x ≤ 0)) := rfl
theorem kX0_nextSecond_39 : kX0_nextSecond 39 = some (s_ald 40 0) := rfl
theorem kX0_nextSecond_40 : kX0_nextSecond 40 = some (s_get 43 0 7) := rfl
theorem kX0_nextSecond_43 : kX0_nextSecond 43 = some (s_ild 44 2) := rfl
theorem kX0_nextSecond_44 : kX0_nextSecond 44 = some (s_iald 45) := rfl
theorem kX0_nextSecond_45 : kX0_nextSecond 45 = some (s_ild 47 4) := rfl
theorem kX0_nextSecond_47 : kX0_nextSecond 47 = some (s_icmp 50 75 (fun x y => y ≤ x)) := rfl
theorem kX0_nextSecond_50 : kX0_nextSecond 50 = some (s_ald 51 0) := rfl
theorem kX0_nextSecond_51 : kX0_nextSecond 51 = some (s_get 54 0 6) := rfl
theorem kX0_nextSecond_54 : kX0_nextSecond 54 = some (s_ild 55 2) := rfl
theorem kX0_nextSecond_55 : kX0_nextSecond 55 = some (s_iald 56) := rfl
theorem kX0_nextSecond_56 : kX0_nextSecond 56 = some (s_push 59 (.inl (900))) := rfl
theorem kX0_nextSecond_59 : kX0_nextSecond 59 = some (s_bin 60 (fun x y => m_wrap (x * y))) := rfl
theorem kX0_nextSecond_60 : kX0_nextSecond 60 = some (s_ald 61 0) := rfl
theorem kX0_nextSecond_61 : kX0_nextSecond 61 = some (s_get 64 0 7) := rfl
theorem kX0_nextSecond_64 : kX0_nextSecond 64 = some (s_ild 65 2) := rfl
theorem kX0_nextSecond_65 : kX0_nextSecond 65 = some (s_iald 66) := rfl
theorem kX0_nextSecond_66 : kX0_nextSecond 66 = some (s_push 69 (.inl (900))) := rfl
theorem kX0_nextSecond_69 : kX0_nextSecond 69 = some (s_bin 70 (fun x y => m_wrap (x * y))) := rfl
theorem kX0_nextSecond_70 : kX0_nextSecond 70 = some (s_ild 72 4) := rfl
theorem kX0_nextSecond_72 : kX0_nextSecond 72 = some (s_div 73) := rfl
theorem kX0_nextSecond_73 : kX0_nextSecond 73 = some (s_bin 74 (fun x y => m_wrap (x + y))) := rfl
theorem kX0_nextSecond_74 : kX0_nextSecond 74 = some (s_ret) := rfl
theorem kX0_nextSecond_75 : kX0_nextSecond 75 = some (s_ald 76 0) := rfl
theorem kX0_nextSecond_76 : kX0_nextSecond 76 = some (s_get 79 0 6) := rfl
theorem kX0_nextSecond_79 : kX0_nextSecond 79 = some (s_ild 80 2) := rfl
theorem kX0_nextSecond_80 : kX0_nextSecond 80 = some (s_dup2 81) := rfl
theorem kX0_nextSecond_81 : kX0_nextSecond 81 = some (s_iald 82) := rfl
theorem kX0_nextSecond_82 : kX0_nextSecond 82 = some (s_push 83 (.inl (1))) := rfl
theorem kX0_nextSecond_83 : kX0_nextSecond 83 = some (s_bin 84 (fun x y => m_wrap (x + y))) := rfl
theorem kX0_nextSecond_84 : kX0_nextSecond 84 = some (s_iast 85) := rfl
theorem kX0_nextSecond_85 : kX0_nextSecond 85 = some (s_ald 86 0) := rfl
theorem kX0_nextSecond_86 : kX0_nextSecond 86 = some (s_get 89 0 7) := rfl
theorem kX0_nextSecond_89 : kX0_nextSecond 89 = some (s_ild 90 2) := rfl
theorem kX0_nextSecond_90 : kX0_nextSecond 90 = some (s_push 91 (.inl (0))) := rfl
theorem kX0_nextSecond_91 : kX0_nextSecond 91 = some (s_iast 92) := rfl
theorem kX0_nextSecond_92 : kX0_nextSecond 92 = some (s_inc 95 3 (1)) := rfl
theorem kX0_nextSecond_95 : kX0_nextSecond 95 = some (s_goto 2) := rfl
theorem kX0_nextSecond_98 : kX0_nextSecond 98 = some (s_push 101 (.inl (3600))) := rfl
theorem kX0_nextSecond_101 : kX0_nextSecond 101 = some (s_ret) := rfl
def wX0_nextSecond : m_GK := m_wp 5 kX0_nextSecond
set_option maxRecDepth 100000 in
set_option maxHeartbeats 4000000 in
theorem sX0_nextSecond (l : Launch) (X : m_X) (hX : m_inj X.1) : m_Sound l X 1 yX0_nextSecond cX0_nextSecond 5 (some .int) wX0_nextSecond := m_sound_of hX (by decide) (fun p e s m args below meth c q C hr => m_bt_all (m_bt_all (m_bt_all (m_bt_all (m_bt_all (m_bt_all (m_lf_all (o_iconst C (x := (0)) (m_rngd rfl) dX0_nextSecond_0 rfl)) (m_lf_all (o_istore_n C (i := 3) rfl dX0_nextSecond_1 rfl))) (m_bt_all (m_lf_all (o_iload_n C (i := 3) rfl dX0_nextSecond_2 rfl)) (m_lf_all (o_iconst C (x := (4)) (m_rngd rfl) dX0_nextSecond_3 rfl)))) (m_bt_all (m_bt_all (m_lf_all (o_icmp_gt C dX0_nextSecond_4 rfl rfl)) (m_lf_all (o_aload_n C (i := 0) rfl dX0_nextSecond_7 rfl))) (m_bt_all (m_lf_all (o_get C (ci := 0) (k := 6) (N := 8) (rf := RX0) (T := TX0) rfl ginX0 (Nat.le_of_ble_eq_true rfl) (m_tb_of 258 (by decide +kernel) rfl) dX0_nextSecond_8 rfl)) (m_lf_all (o_iload_n C (i := 2) rfl dX0_nextSecond_11 rfl))))) (m_bt_all (m_bt_all (m_bt_all (m_lf_all (o_iald C dX0_nextSecond_12 rfl)) (m_lf_all (o_iconst C (x := (4)) (m_rngd rfl) dX0_nextSecond_13 rfl))) (m_bt_all (m_lf_all (o_icmp_ge C dX0_nextSecond_14 rfl rfl)) (m_lf_all (o_aload_n C (i := 1) rfl dX0_nextSecond_17 rfl)))) (m_bt_all (m_bt_all (m_lf_all (o_get C (ci := 2) (k := 4) (N := 8) (rf := RX2) (T := TX2) rfl ginX2 (Nat.le_of_ble_eq_true rfl) (m_tb_of 123 (by decide +kernel) rfl) dX0_nextSecond_18 rfl)) (m_lf_all (o_iload_n C (i := 2) rfl dX0_nextSecond_21 rfl))) (m_bt_all (m_lf_all (o_iconst C (x := (4)) (m_rngd rfl) dX0_nextSecond_22 rfl)) (m_lf_all (o_imul C dX0_nextSecond_23 rfl)))))) (m_bt_all (m_bt_all (m_bt_all (m_bt_all (m_lf_all (o_aload_n C (i := 0) rfl dX0_nextSecond_24 rfl)) (m_lf_all (o_get C (ci := 0) (k := 6) (N := 8) (rf := RX0) (T := TX0) rfl ginX0 (Nat.le_of_ble_eq_true rfl) (m_tb_of 258 (by decide +kernel) rfl) dX0_nextSecond_25 rfl))) (m_bt_all (m_lf_all (o_iload_n C (i := 2) rfl dX0_nextSecond_28 rfl)) (m_lf_all (o_iald C dX0_nextSecond_29 rfl)))) (m_bt_all (m_bt_all (m_lf_all (o_iadd C dX0_nextSecond_30 rfl)) (m_lf_all (o_iald C dX0_nextSecond_31 rfl))) (m_bt_all (m_lf_all (o_istore C dX0_nextSecond_32 rfl)) (m_lf_all (o_iload C dX0_nextSecond_34 rfl))))) (m_bt_all (m_bt_all (m_bt_all (m_lf_all (o_if_le C dX0_nextSecond_36 rfl rfl)) (m_lf_all (o_aload_n C (i := 0) rfl dX0_nextSecond_39 rfl))) (m_bt_all (m_lf_all (o_get C (ci := 0) (k := 7) (N := 8) (rf := RX0) (T := TX0) rfl ginX0 (Nat.le_of_ble_eq_true rfl) (m_tb_of 259 (by decide +kernel) rfl) dX0_nextSecond_40 rfl)) (m_lf_all (o_iload_n C (i := 2) rfl dX0_nextSecond_43 rfl)))) (m_bt_all (m_bt_all (m_lf_all (o_iald C dX0_nextSecond_44 rfl)) (m_lf_all (o_iload C dX0_nextSecond_45 rfl))) (m_bt_all (m_lf_all (o_icmp_ge C dX0_nextSecond_47 rfl rfl)) (m_lf_all (o_aload_n C (i := 0) rfl dX0_nextSecond_50 rfl))))))) (m_bt_all (m_bt_all (m_bt_all (m_bt_all (m_bt_all (m_lf_all (o_get C (ci := 0) (k := 6) (N := 8) (rf := RX0) (T := TX0) rfl ginX0 (Nat.le_of_ble_eq_true rfl) (m_tb_of 258 (by decide +kernel) rfl) dX0_nextSecond_51 rfl)) (m_lf_all (o_iload_n C (i := 2) rfl dX0_nextSecond_54 rfl))) (m_bt_all (m_lf_all (o_iald C dX0_nextSecond_55 rfl)) (m_lf_all (o_sipush C (x := (900)) (m_rngd rfl) rfl dX0_nextSecond_56 rfl)))) (m_bt_all (m_bt_all (m_lf_all (o_imul C dX0_nextSecond_59 rfl)) (m_lf_all (o_aload_n C (i := 0) rfl dX0_nextSecond_60 rfl))) (m_bt_all (m_lf_all (o_get C (ci := 0) (k := 7) (N := 8) (rf := RX0) (T := TX0) rfl ginX0 (Nat.le_of_ble_eq_true rfl) (m_tb_of 259 (by decide +kernel) rfl) dX0_nextSecond_61 rfl)) (m_lf_all (o_iload_n C (i := 2) rfl dX0_nextSecond_64 rfl))))) (m_bt_all (m_bt_all (m_bt_all (m_lf_all (o_iald C dX0_nextSecond_65 rfl)) (m_lf_all (o_sipush C (x := (900)) (m_rngd rfl) rfl dX0_nextSecond_66 rfl))) (m_bt_all (m_lf_all (o_imul C dX0_nextSecond_69 rfl)) (m_lf_all (o_iload C dX0_nextSecond_70 rfl)))) (m_bt_all (m_bt_all (m_lf_all (o_idiv C dX0_nextSecond_72 rfl)) (m_lf_all (o_iadd C dX0_nextSecond_73 rfl))) (m_bt_all (m_lf_all (o_iret C hr dX0_nextSecond_74)) (m_lf_all (o_aload_n C (i := 0) rfl dX0_nextSecond_75 rfl)))))) (m_bt_all (m_bt_all (m_bt_all (m_bt_all (m_lf_all (o_get C (ci := 0) (k := 6) (N := 8) (rf := RX0) (T := TX0) rfl ginX0 (Nat.le_of_ble_eq_true rfl) (m_tb_of 258 (by decide +kernel) rfl) dX0_nextSecond_76 rfl)) (m_lf_all (o_iload_n C (i := 2) rfl dX0_nextSecond_79 rfl))) (m_bt_all (m_lf_all (o_dup2 C dX0_nextSecond_80 rfl)) (m_lf_all (o_iald C dX0_nextSecond_81 rfl)))) (m_bt_all (m_bt_all (m_lf_all (o_iconst C (x := (1)) (m_rngd rfl) dX0_nextSecond_82 rfl)) (m_lf_all (o_iadd C dX0_nextSecond_83 rfl))) (m_bt_all (m_lf_all (o_iast C dX0_nextSecond_84 rfl)) (m_lf_all (o_aload_n C (i := 0) rfl dX0_nextSecond_85 rfl))))) (m_bt_all (m_bt_all (m_bt_all (m_lf_all (o_get C (ci := 0) (k := 7) (N := 8) (rf := RX0) (T := TX0) rfl ginX0 (Nat.le_of_ble_eq_true rfl) (m_tb_of 259 (by decide +kernel) rfl) dX0_nextSecond_86 rfl)) (m_lf_all (o_iload_n C (i := 2) rfl dX0_nextSecond_89 rfl))) (m_bt_all (m_lf_all (o_iconst C (x := (0)) (m_rngd rfl) dX0_nextSecond_90 rfl)) (m_lf_all (o_iast C dX0_nextSecond_91 rfl)))) (m_bt_all (m_bt_all (m_lf_all (o_iinc C dX0_nextSecond_92 rfl)) (m_lf_all (o_goto C dX0_nextSecond_95 rfl))) (m_bt_all (m_lf_all (o_sipush C (x := (3600)) (m_rngd rfl) rfl dX0_nextSecond_98 rfl)) (m_lf_all (o_iret C hr dX0_nextSecond_101))))))))
set_option maxRecDepth 20000 in
def kX2_hasSort : m_C := m_bt 9 (m_bt 4 (m_bt 1 (m_lf 0 (s_ild 1 1)) (m_lf 1 (s_if 4 16 (fun x => x < 0)))) (m_bt 5 (m_lf 4 (s_ild 5 1)) (m_bt 6 (m_lf 5 (s_ald 6 0)) (m_lf 6 (s_get 9 2 0))))) (m_bt 13 (m_bt 12 (m_lf 9 (s_icmp 12 16 (fun x y => y ≤ x))) (m_lf 12 (s_push 13 (.inl (1))))) (m_bt 16 (m_lf 13 (s_goto 17)) (m_bt 17 (m_lf 16 (s_push 17 (.inl (0)))) (m_lf 17 (s_retz)))))
theorem kX2_hasSort_0 : kX2_hasSort 0 = some (s_ild 1 1) := rfl
theorem kX2_hasSort_1 : kX2_hasSort 1 = some (s_if 4 16 (fun x => x < 0)) := rfl
theorem kX2_hasSort_4 : kX2_hasSort 4 = some (s_ild 5 1) := rfl
theorem kX2_hasSort_5 : kX2_hasSort 5 = some (s_ald 6 0) := rfl
theorem kX2_hasSort_6 : kX2_hasSort 6 = some (s_get 9 2 0) := rfl
theorem kX2_hasSort_9 : kX2_hasSort 9 = some (s_icmp 12 16 (fun x y => y ≤ x)) := rfl
theorem kX2_hasSort_12 : kX2_hasSort 12 = some (s_push 13 (.inl (1))) := rfl
theorem kX2_hasSort_13 : kX2_hasSort 13 = some (s_goto 17) := rfl
theorem kX2_hasSort_16 : kX2_hasSort 16 = some (s_push 17 (.inl (0))) := rfl
theorem kX2_hasSort_17 : kX2_hasSort 17 = some (s_retz) := rfl
def wX2_hasSort : m_GK := m_wp 2 kX2_hasSort
set_option maxRecDepth 100000 in
set_option maxHeartbeats 4000000 in
theorem sX2_hasSort (l : Launch) (X : m_X) (hX : m_inj X.1) : m_Sound l X 1 yX2_hasSort cX2_hasSort 2 (some .boolean) wX2_hasSort := m_sound_of hX (by decide) (fun p e s m args below meth c q C hr => m_bt_all (m_bt_all (m_bt_all (m_lf_all (o_iload_n C (i := 1) rfl dX2_hasSort_0 rfl)) (m_lf_all (o_if_lt C dX2_hasSort_1 rfl rfl))) (m_bt_all (m_lf_all (o_iload_n C (i := 1) rfl dX2_hasSort_4 rfl)) (m_bt_all (m_lf_all (o_aload_n C (i := 0) rfl dX2_hasSort_5 rfl)) (m_lf_all (o_get C (ci := 2) (k := 0) (N := 8) (rf := RX2) (T := TX2) rfl ginX2 (Nat.le_of_ble_eq_true rfl) (m_tb_of 105 (by decide +kernel) rfl) dX2_hasSort_6 rfl))))) (m_bt_all (m_bt_all (m_lf_all (o_icmp_ge C dX2_hasSort_9 rfl rfl)) (m_lf_all (o_iconst C (x := (1)) (m_rngd rfl) dX2_hasSort_12 rfl))) (m_bt_all (m_lf_all (o_goto C dX2_hasSort_13 rfl)) (m_bt_all (m_lf_all (o_iconst C (x := (0)) (m_rngd rfl) dX2_hasSort_16 rfl)) (m_lf_all (o_zret C hr dX2_hasSort_17))))))
set_option maxRecDepth 20000 in
def kX8_isQuarter : m_C := m_bt 6 (m_bt 4 (m_bt 1 (m_lf 0 (s_ild 1 0)) (m_lf 1 (s_if 4 13 (fun x => x < 0)))) (m_bt 5 (m_lf 4 (s_ild 5 0)) (m_lf 5 (s_push 6 (.inl (4)))))) (m_bt 10 (m_bt 9 (m_lf 6 (s_icmp 9 13 (fun x y => y ≤ x))) (m_lf 9 (s_push 10 (.inl (1))))) (m_bt 13 (m_lf 10 (s_goto 14)) (m_bt 14 (m_lf 13 (s_push 14 (.inl (0)))) (m_lf 14 (s_retz)))))
theorem kX8_isQuarter_0 : kX8_isQuarter 0 = some (s_ild 1 0) := rfl
theorem kX8_isQuarter_1 : kX8_isQuarter 1 = some (s_if 4 13 (fun x => x < 0)) := rfl
theorem kX8_isQuarter_4 : kX8_isQuarter 4 = some (s_ild 5 0) := rfl
theorem kX8_isQuarter_5 : kX8_isQuarter 5 = some (s_push 6 (.inl (4))) := rfl
theorem kX8_isQuarter_6 : kX8_isQuarter 6 = some (s_icmp 9 13 (fun x y => y ≤ x)) := rfl
theorem kX8_isQuarter_9 : kX8_isQuarter 9 = some (s_push 10 (.inl (1))) := rfl
theorem kX8_isQuarter_10 : kX8_isQuarter 10 = some (s_goto 14) := rfl
theorem kX8_isQuarter_13 : kX8_isQuarter 13 = some (s_push 14 (.inl (0))) := rfl
theorem kX8_isQuarter_14 : kX8_isQuarter 14 = some (s_retz) := rfl
def wX8_isQuarter : m_GK := m_wp 1 kX8_isQuarter
set_option maxRecDepth 100000 in
set_option maxHeartbeats 4000000 in
theorem sX8_isQuarter (l : Launch) (X : m_X) (hX : m_inj X.1) : m_Sound l X 1 yX8_isQuarter cX8_isQuarter 1 (some .boolean) wX8_isQuarter := m_sound_of hX (by decide) (fun p e s m args below meth c q C hr => m_bt_all (m_bt_all (m_bt_all (m_lf_all (o_iload_n C (i := 0) rfl dX8_isQuarter_0 rfl)) (m_lf_all (o_if_lt C dX8_isQuarter_1 rfl rfl))) (m_bt_all (m_lf_all (o_iload_n C (i := 0) rfl dX8_isQuarter_4 rfl)) (m_lf_all (o_iconst C (x := (4)) (m_rngd rfl) dX8_isQuarter_5 rfl)))) (m_bt_all (m_bt_all (m_lf_all (o_icmp_ge C dX8_isQuarter_6 rfl rfl)) (m_lf_all (o_iconst C (x := (1)) (m_rngd rfl) dX8_isQuarter_9 rfl))) (m_bt_all (m_lf_all (o_goto C dX8_isQuarter_10 rfl)) (m_bt_all (m_lf_all (o_iconst C (x := (0)) (m_rngd rfl) dX8_isQuarter_13 rfl)) (m_lf_all (o_zret C hr dX8_isQuarter_14))))))
set_option maxRecDepth 20000 in
def kX2_needOf : m_C := m_bt 23 (m_bt 12 (m_bt 5 (m_bt 1 (m_lf 0 (s_ald 1 0)) (m_bt 2 (m_lf 1 (s_ild 2 1)) (m_lf 2 (s_callV 5 2 2 wX2_hasSort)))) (m_bt 8 (m_lf 5 (s_if 8 15 (fun x => x = 0))) (m_bt 9 (m_lf 8 (s_ild 9 2)) (m_lf 9 (s_callS 12 1 wX8_isQuarter))))) (m_bt 17 (m_bt 15 (m_lf 12 (s_if 15 17 (fun x => ¬ x = 0))) (m_bt 16 (m_lf 15 (s_push 16 (.inl (0)))) (m_lf 16 (s_ret)))) (m_bt 21 (m_bt 18 (m_lf 17 (s_ald 18 0)) (m_lf 18 (s_get 21 2 5))) (m_bt 22 (m_lf 21 (s_ild 22 1)) (m_lf 22 (s_push 23 (.inl (4)))))))) (m_bt 32 (m_bt 26 (m_bt 24 (m_lf 23 (s_bin 24 (fun x y => m_wrap (x * y)))) (m_bt 25 (m_lf 24 (s_ild 25 2)) (m_lf 25 (s_bin 26 (fun x y => m_wrap (x + y)))))) (m_bt 28 (m_bt 27 (m_lf 26 (s_iald 27)) (m_lf 27 (s_ist 28 3))) (m_bt 29 (m_lf 28 (s_ild 29 3)) (m_lf 29 (s_if 32 41 (fun x => ¬ x = 0)))))) (m_bt 37 (m_bt 33 (m_lf 32 (s_ald 33 0)) (m_bt 36 (m_lf 33 (s_get 36 2 2)) (m_lf 36 (s_ild 37 1)))) (m_bt 41 (m_bt 38 (m_lf 37 (s_iald 38)) (m_lf 38 (s_goto 42))) (m_bt 42 (m_lf 41 (s_ild 42 3)) (m_lf 42 (s_ret))))))
theorem kX2_needOf_0 : kX2_needOf 0 = some (s_ald 1 0) := rfl
theorem kX2_needOf_1 : kX2_needOf 1 = some (s_ild 2 1) := rfl
theorem kX2_needOf_2 : kX2_needOf 2 = some (s_callV 5 2 2 wX2_hasSort) := rfl
theorem kX2_needOf_5 : kX2_needOf 5 = some (s_if 8 15 (fun x => x = 0)) := rfl
theorem kX2_needOf_8 : kX2_needOf 8 = some (s_ild 9 2) := rfl
theorem kX2_needOf_9 : kX2_needOf 9 = some (s_callS 12 1 wX8_isQuarter) := rfl
theorem kX2_needOf_12 : kX2_needOf 12 = some (s_if 15 17 (fun x => ¬ x = 0)) := rfl
theorem kX2_needOf_15 : kX2_needOf 15 = some (s_push 16 (.inl (0))) := rfl
theorem kX2_needOf_16 : kX2_needOf 16 = some (s_ret) := rfl
theorem kX2_needOf_17 : kX2_needOf 17 = some (s_ald 18 0) := rfl
theorem kX2_needOf_18 : kX2_needOf 18 = some (s_get 21 2 5) := rfl
theorem kX2_needOf_21 : kX2_needOf 21 = some (s_ild 22 1) := rfl
theorem kX2_needOf_22 : kX2_needOf 22 = some (s_push 23 (.inl (4))) := rfl
theorem kX2_needOf_23 : kX2_needOf 23 = some (s_bin 24 (fun x y => m_wrap (x * y))) := rfl
theorem kX2_needOf_24 : kX2_needOf 24 = some (s_ild 25 2) := rfl
theorem kX2_needOf_25 : kX2_needOf 25 = some (s_bin 26 (fun x y => m_wrap (x + y))) := rfl
theorem kX2_needOf_26 : kX2_needOf 26 = some (s_iald 27) := rfl
theorem kX2_needOf_27 : kX2_needOf 27 = some (s_ist 28 3) := rfl
theorem kX2_needOf_28 : kX2_needOf 28 = some (s_ild 29 3) := rfl
theorem kX2_needOf_29 : kX2_needOf 29 = some (s_if 32 41 (fun x => ¬ x = 0)) := rfl
theorem kX2_needOf_32 : kX2_needOf 32 = some (s_ald 33 0) := rfl
theorem kX2_needOf_33 : kX2_needOf 33 = some (s_get 36 2 2) := rfl
theorem kX2_needOf_36 : kX2_needOf 36 = some (s_ild 37 1) := rfl
theorem kX2_needOf_37 : kX2_needOf 37 = some (s_iald 38) := rfl
theorem kX2_needOf_38 : kX2_needOf 38 = some (s_goto 42) := rfl
theorem kX2_needOf_41 : kX2_needOf 41 = some (s_ild 42 3) := rfl
theorem kX2_needOf_42 : kX2_needOf 42 = some (s_ret) := rfl
def wX2_needOf : m_GK := m_wp 4 kX2_needOf
set_option maxRecDepth 100000 in
set_option maxHeartbeats 4000000 in
theorem sX2_needOf (l : Launch) (X : m_X) (hX : m_inj X.1) : m_Sound l X 2 yX2_needOf cX2_needOf 4 (some .int) wX2_needOf := m_sound_of hX (by decide) (fun p e s m args below meth c q C hr => m_bt_all (m_bt_all (m_bt_all (m_bt_all (m_lf_all (o_aload_n C (i := 0) rfl dX2_needOf_0 rfl)) (m_bt_all (m_lf_all (o_iload_n C (i := 1) rfl dX2_needOf_1 rfl)) (m_lf_all (o_callV C (T := TX2) (N := 8) (sX2_hasSort l X hX) rfl (m_in_of [532, 533, 534, 73] (by decide +kernel) (by decide +kernel)) (m_tb_of 535 (by decide +kernel) rfl) (by decide +kernel) rfl ⟨Nat.le_of_ble_eq_true rfl, Nat.le_of_ble_eq_true rfl⟩ dX2_needOf_2 rfl)))) (m_bt_all (m_lf_all (o_if_eq C dX2_needOf_5 rfl rfl)) (m_bt_all (m_lf_all (o_iload_n C (i := 2) rfl dX2_needOf_8 rfl)) (m_lf_all (o_callN C (sX8_isQuarter l X hX) (fun h => h.2.1.2.1) (m_in_of [530, 72] (by decide +kernel) (by decide +kernel)) (m_tb_of 531 (by decide +kernel) rfl) (by decide +kernel) ⟨Nat.le_of_ble_eq_true rfl, Nat.le_of_ble_eq_true rfl⟩ dX2_needOf_9 rfl))))) (m_bt_all (m_bt_all (m_lf_all (o_if_ne C dX2_needOf_12 rfl rfl)) (m_bt_all (m_lf_all (o_iconst C (x := (0)) (m_rngd rfl) dX2_needOf_15 rfl)) (m_lf_all (o_iret C hr dX2_needOf_16)))) (m_bt_all (m_bt_all (m_lf_all (o_aload_n C (i := 0) rfl dX2_needOf_17 rfl)) (m_lf_all (o_get C (ci := 2) (k := 5) (N := 8) (rf := RX2) (T := TX2) rfl ginX2 (Nat.le_of_ble_eq_true rfl) (m_tb_of 124 (by decide +kernel) rfl) dX2_needOf_18 rfl))) (m_bt_all (m_lf_all (o_iload_n C (i := 1) rfl dX2_needOf_21 rfl)) (m_lf_all (o_iconst C (x := (4)) (m_rngd rfl) dX2_needOf_22 rfl)))))) (m_bt_all (m_bt_all (m_bt_all (m_lf_all (o_imul C dX2_needOf_23 rfl)) (m_bt_all (m_lf_all (o_iload_n C (i := 2) rfl dX2_needOf_24 rfl)) (m_lf_all (o_iadd C dX2_needOf_25 rfl)))) (m_bt_all (m_bt_all (m_lf_all (o_iald C dX2_needOf_26 rfl)) (m_lf_all (o_istore_n C (i := 3) rfl dX2_needOf_27 rfl))) (m_bt_all (m_lf_all (o_iload_n C (i := 3) rfl dX2_needOf_28 rfl)) (m_lf_all (o_if_ne C dX2_needOf_29 rfl rfl))))) (m_bt_all (m_bt_all (m_lf_all (o_aload_n C (i := 0) rfl dX2_needOf_32 rfl)) (m_bt_all (m_lf_all (o_get C (ci := 2) (k := 2) (N := 8) (rf := RX2) (T := TX2) rfl ginX2 (Nat.le_of_ble_eq_true rfl) (m_tb_of 116 (by decide +kernel) rfl) dX2_needOf_33 rfl)) (m_lf_all (o_iload_n C (i := 1) rfl dX2_needOf_36 rfl)))) (m_bt_all (m_bt_all (m_lf_all (o_iald C dX2_needOf_37 rfl)) (m_lf_all (o_goto C dX2_needOf_38 rfl))) (m_bt_all (m_lf_all (o_iload_n C (i := 3) rfl dX2_needOf_41 rfl)) (m_lf_all (o_iret C hr dX2_needOf_42)))))))
set_option maxRecDepth 20000 in
def kX0_addNext : m_C := m_bt 78 (m_bt 36 (m_bt 18 (m_bt 7 (m_bt 2 (m_bt 1 (m_lf 0 (s_push 1 (.inl (-1)))) (m_lf 1 (s_ist 2 2))) (m_bt 5 (m_lf 2 (s_push 5 (.inl (3600)))) (m_bt 6 (m_lf 5 (s_ist 6 3)) (m_lf 6 (s_push 7 (.inl (0))))))) (m_bt 11 (m_bt 9 (m_lf 7 (s_ist 9 4)) (m_lf 9 (s_ild 11 4))) (m_bt 12 (m_lf 11 (s_ald 12 1)) (m_bt 15 (m_lf 12 (s_get 15 2 0)) (m_lf 15 (s_icmp 18 45 (fun x y => y ≤ x))))))) (m_bt 27 (m_bt 20 (m_bt 19 (m_lf 18 (s_ald 19 0)) (m_lf 19 (s_ald 20 1))) (m_bt 22 (m_lf 20 (s_ild 22 4)) (m_bt 25 (m_lf 22 (s_callV 25 3 0 wX0_nextSecond)) (m_lf 25 (s_ist 27 5))))) (m_bt 30 (m_bt 29 (m_lf 27 (s_ild 29 5)) (m_lf 29 (s_ild 30 3))) (m_bt 33 (m_lf 30 (s_icmp 33 39 (fun x y => y ≤ x))) (m_bt 35 (m_lf 33 (s_ild 35 4)) (m_lf 35 (s_ist 36 2))))))) (m_bt 59 (m_bt 46 (m_bt 39 (m_bt 38 (m_lf 36 (s_ild 38 5)) (m_lf 38 (s_ist 39 3))) (m_bt 42 (m_lf 39 (s_inc 42 4 (1))) (m_bt 45 (m_lf 42 (s_goto 9)) (m_lf 45 (s_ild 46 2))))) (m_bt 50 (m_bt 49 (m_lf 46 (s_if 49 59 (fun x => x < 0))) (m_lf 49 (s_ald 50 0))) (m_bt 53 (m_lf 50 (s_get 53 0 0)) (m_bt 56 (m_lf 53 (s_push 56 (.inl (500)))) (m_lf 56 (s_icmp 59 60 (fun x y => x < y))))))) (m_bt 68 (m_bt 61 (m_bt 60 (m_lf 59 (s_retv)) (m_lf 60 (s_ald 61 0))) (m_bt 64 (m_lf 61 (s_get 64 0 1)) (m_bt 65 (m_lf 64 (s_ald 65 0)) (m_lf 65 (s_get 68 0 0))))) (m_bt 71 (m_bt 69 (m_lf 68 (s_ild 69 2)) (m_bt 70 (m_lf 69 (s_iast 70)) (m_lf 70 (s_ald 71 0)))) (m_bt 74 (m_lf 71 (s_get 74 0 2)) (m_bt 75 (m_lf 74 (s_ald 75 0)) (m_lf 75 (s_get 78 0 0)))))))) (m_bt 110 (m_bt 94 (m_bt 85 (m_bt 80 (m_bt 79 (m_lf 78 (s_ild 79 3)) (m_lf 79 (s_iast 80))) (m_bt 81 (m_lf 80 (s_ald 81 0)) (m_bt 84 (m_lf 81 (s_get 84 0 3)) (m_lf 84 (s_ald 85 0))))) (m_bt 89 (m_bt 88 (m_lf 85 (s_get 88 0 0)) (m_lf 88 (s_ald 89 1))) (m_bt 90 (m_lf 89 (s_ild 90 2)) (m_bt 91 (m_lf 90 (s_ald 91 0)) (m_lf 91 (s_get 94 0 6)))))) (m_bt 101 (m_bt 96 (m_bt 95 (m_lf 94 (s_ild 95 2)) (m_lf 95 (s_iald 96))) (m_bt 99 (m_lf 96 (s_callV 99 3 2 wX2_needOf)) (m_bt 100 (m_lf 99 (s_iast 100)) (m_lf 100 (s_ald 101 0))))) (m_bt 105 (m_bt 104 (m_lf 101 (s_get 104 0 4)) (m_lf 104 (s_ald 105 0))) (m_bt 108 (m_lf 105 (s_get 108 0 0)) (m_bt 109 (m_lf 108 (s_push 109 (.inl (-1)))) (m_lf 109 (s_iast 110))))))) (m_bt 126 (m_bt 119 (m_bt 114 (m_bt 111 (m_lf 110 (s_ald 111 0)) (m_lf 111 (s_get 114 0 5))) (m_bt 115 (m_lf 114 (s_ald 115 0)) (m_bt 118 (m_lf 115 (s_get 118 0 0)) (m_lf 118 (s_push 119 (.inl (0))))))) (m_bt 121 (m_bt 120 (m_lf 119 (s_zast 120)) (m_lf 120 (s_ald 121 0))) (m_bt 124 (m_lf 121 (s_get 124 0 7)) (m_bt 125 (m_lf 124 (s_ild 125 2)) (m_lf 125 (s_dup2 126)))))) (m_bt 131 (m_bt 128 (m_bt 127 (m_lf 126 (s_iald 127)) (m_lf 127 (s_push 128 (.inl (1))))) (m_bt 129 (m_lf 128 (s_bin 129 (fun x y => m_wrap (x + y)))) (m_bt 130 (m_lf 129 (s_iast 130)) (m_lf 130 (s_ald 131 0))))) (m_bt 136 (m_bt 132 (m_lf 131 (s_dup 132)) (m_bt 135 (m_lf 132 (s_get 135 0 0)) (m_lf 135 (s_push 136 (.inl (1)))))) (m_bt 137 (m_lf 136 (s_bin 137 (fun x y => m_wrap (x + y)))) (m_bt 140 (m_lf 137 (s_put 140 0 0)) (m_lf 140 (s_retv))))))))
theorem kX0_addNext_0 : kX0_addNext 0 = some (s_push 1 (.inl (-1))) := rfl
theorem kX0_addNext_1 : kX0_addNext 1 = some (s_ist 2 2) := rfl
theorem kX0_addNext_2 : kX0_addNext 2 = some (s_push 5 (.inl (3600))) := rfl
theorem kX0_addNext_5 : kX0_addNext 5 = some (s_ist 6 3) := rfl
theorem kX0_addNext_6 : kX0_addNext 6 = some (s_push 7 (.inl (0))) := rfl
theorem kX0_addNext_7 : kX0_addNext 7 = some (s_ist 9 4) := rfl
theorem kX0_addNext_9 : kX0_addNext 9 = some (s_ild 11 4) := rfl
theorem kX0_addNext_11 : kX0_addNext 11 = some (s_ald 12 1) := rfl
theorem kX0_addNext_12 : kX0_addNext 12 = some (s_get 15 2 0) := rfl
theorem kX0_addNext_15 : kX0_addNext 15 = some (s_icmp 18 45 (fun x y => y ≤ x)) := rfl
theorem kX0_addNext_18 : kX0_addNext 18 = some (s_ald 19 0) := rfl
theorem kX0_addNext_19 : kX0_addNext 19 = some (s_ald 20 1) := rfl
theorem kX0_addNext_20 : kX0_addNext 20 = some (s_ild 22 4) := rfl
theorem kX0_addNext_22 : kX0_addNext 22 = some (s_callV 25 3 0 wX0_nextSecond) := rfl
theorem kX0_addNext_25 : kX0_addNext 25 = some (s_ist 27 5) := rfl
theorem kX0_addNext_27 : kX0_addNext 27 = some (s_ild 29 5) := rfl
theorem kX0_addNext_29 : kX0_addNext 29 = some (s_ild 30 3) := rfl
theorem kX0_addNext_30 : kX0_addNext 30 = some (s_icmp 33 39 (fun x y => y ≤ x)) := rfl
theorem kX0_addNext_33 : kX0_addNext 33 = some (s_ild 35 4) := rfl
theorem kX0_addNext_35 : kX0_addNext 35 = some (s_ist 36 2) := rfl
theorem kX0_addNext_36 : kX0_addNext 36 = some (s_ild 38 5) := rfl
theorem kX0_addNext_38 : kX0_addNext 38 = some (s_ist 39 3) := rfl
theorem kX0_addNext_39 : kX0_addNext 39 = some (s_inc 42 4 (1)) := rfl
theorem kX0_addNext_42 : kX0_addNext 42 = some (s_goto 9) := rfl
theorem kX0_addNext_45 : kX0_addNext 45 = some (s_ild 46 2) := rfl
theorem kX0_addNext_46 : kX0_addNext 46 = some (s_if 49 59 (fun x => x < 0)) := rfl
theorem kX0_addNext_49 : kX0_addNext 49 = some (s_ald 50 0) := rfl
theorem kX0_addNext_50 : kX0_addNext 50 = some (s_get 53 0 0) := rfl
theorem kX0_addNext_53 : kX0_addNext 53 = some (s_push 56 (.inl (500))) := rfl
theorem kX0_addNext_56 : kX0_addNext 56 = some (s_icmp 59 60 (fun x y => x < y)) := rfl
theorem kX0_addNext_59 : kX0_addNext 59 = some (s_retv) := rfl
theorem kX0_addNext_60 : kX0_addNext 60 = some (s_ald 61 0) := rfl
theorem kX0_addNext_61 : kX0_addNext 61 = some (s_get 64 0 1) := rfl
theorem kX0_addNext_64 : kX0_addNext 64 = some (s_ald 65 0) := rfl
theorem kX0_addNext_65 : kX0_addNext 65 = some (s_get 68 0 0) := rfl
theorem kX0_addNext_68 : kX0_addNext 68 = some (s_ild 69 2) := rfl
theorem kX0_addNext_69 : kX0_addNext 69 = some (s_iast 70) := rfl
theorem kX0_addNext_70 : kX0_addNext 70 = some (s_ald 71 0) := rfl
theorem kX0_addNext_71 : kX0_addNext 71 = some (s_get 74 0 2) := rfl
theorem kX0_addNext_74 : kX0_addNext 74 = some (s_ald 75 0) := rfl
theorem kX0_addNext_75 : kX0_addNext 75 = some (s_get 78 0 0) := rfl
theorem kX0_addNext_78 : kX0_addNext 78 = some (s_ild 79 3) := rfl
theorem kX0_addNext_79 : kX0_addNext 79 = some (s_iast 80) := rfl
theorem kX0_addNext_80 : kX0_addNext 80 = some (s_ald 81 0) := rfl
theorem kX0_addNext_81 : kX0_addNext 81 = some (s_get 84 0 3) := rfl
theorem kX0_addNext_84 : kX0_addNext 84 = some (s_ald 85 0) := rfl
theorem kX0_addNext_85 : kX0_addNext 85 = some (s_get 88 0 0) := rfl
theorem kX0_addNext_88 : kX0_addNext 88 = some (s_ald 89 1) := rfl
theorem kX0_addNext_89 : kX0_addNext 89 = some (s_ild 90 2) := rfl
theorem kX0_addNext_90 : kX0_addNext 90 = some (s_ald 91 0) := rfl
theorem kX0_addNext_91 : kX0_addNext 91 = some (s_get 94 0 6) := rfl
theorem kX0_addNext_94 : kX0_addNext 94 = some (s_ild 95 2) := rfl
theorem kX0_addNext_95 : kX0_addNext 95 = some (s_iald 96) := rfl
theorem kX0_addNext_96 : kX0_addNext 96 = some (s_callV 99 3 2 wX2_needOf) := rfl
theorem kX0_addNext_99 : kX0_addNext 99 = some (s_iast 100) := rfl
theorem kX0_addNext_100 : kX0_addNext 100 = some (s_ald 101 0) := rfl
theorem kX0_addNext_101 : kX0_addNext 101 = some (s_get 104 0 4) := rfl
theorem kX0_addNext_104 : kX0_addNext 104 = some (s_ald 105 0) := rfl
theorem kX0_addNext_105 : kX0_addNext 105 = some (s_get 108 0 0) := rfl
theorem kX0_addNext_108 : kX0_addNext 108 = some (s_push 109 (.inl (-1))) := rfl
theorem kX0_addNext_109 : kX0_addNext 109 = some (s_iast 110) := rfl
theorem kX0_addNext_110 : kX0_addNext 110 = some (s_ald 111 0) := rfl
theorem kX0_addNext_111 : kX0_addNext 111 = some (s_get 114 0 5) := rfl
theorem kX0_addNext_114 : kX0_addNext 114 = some (s_ald 115 0) := rfl
theorem kX0_addNext_115 : kX0_addNext 115 = some (s_get 118 0 0) := rfl
theorem kX0_addNext_118 : kX0_addNext 118 = some (s_push 119 (.inl (0))) := rfl
theorem kX0_addNext_119 : kX0_addNext 119 = some (s_zast 120) := rfl
theorem kX0_addNext_120 : kX0_addNext 120 = some (s_ald 121 0) := rfl
theorem kX0_addNext_121 : kX0_addNext 121 = some (s_get 124 0 7) := rfl
theorem kX0_addNext_124 : kX0_addNext 124 = some (s_ild 125 2) := rfl
theorem kX0_addNext_125 : kX0_addNext 125 = some (s_dup2 126) := rfl
theorem kX0_addNext_126 : kX0_addNext 126 = some (s_iald 127) := rfl
theorem kX0_addNext_127 : kX0_addNext 127 = some (s_push 128 (.inl (1))) := rfl
theorem kX0_addNext_128 : kX0_addNext 128 = some (s_bin 129 (fun x y => m_wrap (x + y))) := rfl
theorem kX0_addNext_129 : kX0_addNext 129 = some (s_iast 130) := rfl
theorem kX0_addNext_130 : kX0_addNext 130 = some (s_ald 131 0) := rfl
theorem kX0_addNext_131 : kX0_addNext 131 = some (s_dup 132) := rfl
theorem kX0_addNext_132 : kX0_addNext 132 = some (s_get 135 0 0) := rfl
theorem kX0_addNext_135 : kX0_addNext 135 = some (s_push 136 (.inl (1))) := rfl
theorem kX0_addNext_136 : kX0_addNext 136 = some (s_bin 137 (fun x y => m_wrap (x + y))) := rfl
theorem kX0_addNext_137 : kX0_addNext 137 = some (s_put 140 0 0) := rfl
theorem kX0_addNext_140 : kX0_addNext 140 = some (s_retv) := rfl
def wX0_addNext : m_GK := m_wp 6 kX0_addNext
set_option maxRecDepth 100000 in
set_option maxHeartbeats 4000000 in
theorem sX0_addNext (l : Launch) (X : m_X) (hX : m_inj X.1) : m_Sound l X 3 yX0_addNext cX0_addNext 6 none wX0_addNext := m_sound_of hX (by decide) (fun p e s m args below meth c q C hr => m_bt_all (m_bt_all (m_bt_all (m_bt_all (m_bt_all (m_bt_all (m_lf_all (o_iconst C (x := (-1)) (m_rngd rfl) dX0_addNext_0 rfl)) (m_lf_all (o_istore_n C (i := 2) rfl dX0_addNext_1 rfl))) (m_bt_all (m_lf_all (o_sipush C (x := (3600)) (m_rngd rfl) rfl dX0_addNext_2 rfl)) (m_bt_all (m_lf_all (o_istore_n C (i := 3) rfl dX0_addNext_5 rfl)) (m_lf_all (o_iconst C (x := (0)) (m_rngd rfl) dX0_addNext_6 rfl))))) (m_bt_all (m_bt_all (m_lf_all (o_istore C dX0_addNext_7 rfl)) (m_lf_all (o_iload C dX0_addNext_9 rfl))) (m_bt_all (m_lf_all (o_aload_n C (i := 1) rfl dX0_addNext_11 rfl)) (m_bt_all (m_lf_all (o_get C (ci := 2) (k := 0) (N := 8) (rf := RX2) (T := TX2) rfl ginX2 (Nat.le_of_ble_eq_true rfl) (m_tb_of 108 (by decide +kernel) rfl) dX0_addNext_12 rfl)) (m_lf_all (o_icmp_ge C dX0_addNext_15 rfl rfl)))))) (m_bt_all (m_bt_all (m_bt_all (m_lf_all (o_aload_n C (i := 0) rfl dX0_addNext_18 rfl)) (m_lf_all (o_aload_n C (i := 1) rfl dX0_addNext_19 rfl))) (m_bt_all (m_lf_all (o_iload C dX0_addNext_20 rfl)) (m_bt_all (m_lf_all (o_callV C (T := TX0) (N := 8) (sX0_nextSecond l X hX) rfl (m_in_of [621, 623, 10, 77] (by decide +kernel) (by decide +kernel)) (m_tb_of 624 (by decide +kernel) rfl) (by decide +kernel) rfl ⟨Nat.le_of_ble_eq_true rfl, Nat.le_of_ble_eq_true rfl⟩ dX0_addNext_22 rfl)) (m_lf_all (o_istore C dX0_addNext_25 rfl))))) (m_bt_all (m_bt_all (m_lf_all (o_iload C dX0_addNext_27 rfl)) (m_lf_all (o_iload_n C (i := 3) rfl dX0_addNext_29 rfl))) (m_bt_all (m_lf_all (o_icmp_ge C dX0_addNext_30 rfl rfl)) (m_bt_all (m_lf_all (o_iload C dX0_addNext_33 rfl)) (m_lf_all (o_istore_n C (i := 2) rfl dX0_addNext_35 rfl))))))) (m_bt_all (m_bt_all (m_bt_all (m_bt_all (m_lf_all (o_iload C dX0_addNext_36 rfl)) (m_lf_all (o_istore_n C (i := 3) rfl dX0_addNext_38 rfl))) (m_bt_all (m_lf_all (o_iinc C dX0_addNext_39 rfl)) (m_bt_all (m_lf_all (o_goto C dX0_addNext_42 rfl)) (m_lf_all (o_iload_n C (i := 2) rfl dX0_addNext_45 rfl))))) (m_bt_all (m_bt_all (m_lf_all (o_if_lt C dX0_addNext_46 rfl rfl)) (m_lf_all (o_aload_n C (i := 0) rfl dX0_addNext_49 rfl))) (m_bt_all (m_lf_all (o_get C (ci := 0) (k := 0) (N := 8) (rf := RX0) (T := TX0) rfl ginX0 (Nat.le_of_ble_eq_true rfl) (m_tb_of 243 (by decide +kernel) rfl) dX0_addNext_50 rfl)) (m_bt_all (m_lf_all (o_sipush C (x := (500)) (m_rngd rfl) rfl dX0_addNext_53 rfl)) (m_lf_all (o_icmp_lt C dX0_addNext_56 rfl rfl)))))) (m_bt_all (m_bt_all (m_bt_all (m_lf_all (o_vret C hr dX0_addNext_59)) (m_lf_all (o_aload_n C (i := 0) rfl dX0_addNext_60 rfl))) (m_bt_all (m_lf_all (o_get C (ci := 0) (k := 1) (N := 8) (rf := RX0) (T := TX0) rfl ginX0 (Nat.le_of_ble_eq_true rfl) (m_tb_of 245 (by decide +kernel) rfl) dX0_addNext_61 rfl)) (m_bt_all (m_lf_all (o_aload_n C (i := 0) rfl dX0_addNext_64 rfl)) (m_lf_all (o_get C (ci := 0) (k := 0) (N := 8) (rf := RX0) (T := TX0) rfl ginX0 (Nat.le_of_ble_eq_true rfl) (m_tb_of 243 (by decide +kernel) rfl) dX0_addNext_65 rfl))))) (m_bt_all (m_bt_all (m_lf_all (o_iload_n C (i := 2) rfl dX0_addNext_68 rfl)) (m_bt_all (m_lf_all (o_iast C dX0_addNext_69 rfl)) (m_lf_all (o_aload_n C (i := 0) rfl dX0_addNext_70 rfl)))) (m_bt_all (m_lf_all (o_get C (ci := 0) (k := 2) (N := 8) (rf := RX0) (T := TX0) rfl ginX0 (Nat.le_of_ble_eq_true rfl) (m_tb_of 248 (by decide +kernel) rfl) dX0_addNext_71 rfl)) (m_bt_all (m_lf_all (o_aload_n C (i := 0) rfl dX0_addNext_74 rfl)) (m_lf_all (o_get C (ci := 0) (k := 0) (N := 8) (rf := RX0) (T := TX0) rfl ginX0 (Nat.le_of_ble_eq_true rfl) (m_tb_of 243 (by decide +kernel) rfl) dX0_addNext_75 rfl)))))))) (m_bt_all (m_bt_all (m_bt_all (m_bt_all (m_bt_all (m_lf_all (o_iload_n C (i := 3) rfl dX0_addNext_78 rfl)) (m_lf_all (o_iast C dX0_addNext_79 rfl))) (m_bt_all (m_lf_all (o_aload_n C (i := 0) rfl dX0_addNext_80 rfl)) (m_bt_all (m_lf_all (o_get C (ci := 0) (k := 3) (N := 8) (rf := RX0) (T := TX0) rfl ginX0 (Nat.le_of_ble_eq_true rfl) (m_tb_of 250 (by decide +kernel) rfl) dX0_addNext_81 rfl)) (m_lf_all (o_aload_n C (i := 0) rfl dX0_addNext_84 rfl))))) (m_bt_all (m_bt_all (m_lf_all (o_get C (ci := 0) (k := 0) (N := 8) (rf := RX0) (T := TX0) rfl ginX0 (Nat.le_of_ble_eq_true rfl) (m_tb_of 243 (by decide +kernel) rfl) dX0_addNext_85 rfl)) (m_lf_all (o_aload_n C (i := 1) rfl dX0_addNext_88 rfl))) (m_bt_all (m_lf_all (o_iload_n C (i := 2) rfl dX0_addNext_89 rfl)) (m_bt_all (m_lf_all (o_aload_n C (i := 0) rfl dX0_addNext_90 rfl)) (m_lf_all (o_get C (ci := 0) (k := 6) (N := 8) (rf := RX0) (T := TX0) rfl ginX0 (Nat.le_of_ble_eq_true rfl) (m_tb_of 258 (by decide +kernel) rfl) dX0_addNext_91 rfl)))))) (m_bt_all (m_bt_all (m_bt_all (m_lf_all (o_iload_n C (i := 2) rfl dX0_addNext_94 rfl)) (m_lf_all (o_iald C dX0_addNext_95 rfl))) (m_bt_all (m_lf_all (o_callV C (T := TX2) (N := 8) (sX2_needOf l X hX) rfl (m_in_of [625, 626, 627, 73] (by decide +kernel) (by decide +kernel)) (m_tb_of 628 (by decide +kernel) rfl) (by decide +kernel) rfl ⟨Nat.le_of_ble_eq_true rfl, Nat.le_of_ble_eq_true rfl⟩ dX0_addNext_96 rfl)) (m_bt_all (m_lf_all (o_iast C dX0_addNext_99 rfl)) (m_lf_all (o_aload_n C (i := 0) rfl dX0_addNext_100 rfl))))) (m_bt_all (m_bt_all (m_lf_all (o_get C (ci := 0) (k := 4) (N := 8) (rf := RX0) (T := TX0) rfl ginX0 (Nat.le_of_ble_eq_true rfl) (m_tb_of 253 (by decide +kernel) rfl) dX0_addNext_101 rfl)) (m_lf_all (o_aload_n C (i := 0) rfl dX0_addNext_104 rfl))) (m_bt_all (m_lf_all (o_get C (ci := 0) (k := 0) (N := 8) (rf := RX0) (T := TX0) rfl ginX0 (Nat.le_of_ble_eq_true rfl) (m_tb_of 243 (by decide +kernel) rfl) dX0_addNext_105 rfl)) (m_bt_all (m_lf_all (o_iconst C (x := (-1)) (m_rngd rfl) dX0_addNext_108 rfl)) (m_lf_all (o_iast C dX0_addNext_109 rfl))))))) (m_bt_all (m_bt_all (m_bt_all (m_bt_all (m_lf_all (o_aload_n C (i := 0) rfl dX0_addNext_110 rfl)) (m_lf_all (o_get C (ci := 0) (k := 5) (N := 8) (rf := RX0) (T := TX0) rfl ginX0 (Nat.le_of_ble_eq_true rfl) (m_tb_of 256 (by decide +kernel) rfl) dX0_addNext_111 rfl))) (m_bt_all (m_lf_all (o_aload_n C (i := 0) rfl dX0_addNext_114 rfl)) (m_bt_all (m_lf_all (o_get C (ci := 0) (k := 0) (N := 8) (rf := RX0) (T := TX0) rfl ginX0 (Nat.le_of_ble_eq_true rfl) (m_tb_of 243 (by decide +kernel) rfl) dX0_addNext_115 rfl)) (m_lf_all (o_iconst C (x := (0)) (m_rngd rfl) dX0_addNext_118 rfl))))) (m_bt_all (m_bt_all (m_lf_all (o_zast C dX0_addNext_119 rfl)) (m_lf_all (o_aload_n C (i := 0) rfl dX0_addNext_120 rfl))) (m_bt_all (m_lf_all (o_get C (ci := 0) (k := 7) (N := 8) (rf := RX0) (T := TX0) rfl ginX0 (Nat.le_of_ble_eq_true rfl) (m_tb_of 259 (by decide +kernel) rfl) dX0_addNext_121 rfl)) (m_bt_all (m_lf_all (o_iload_n C (i := 2) rfl dX0_addNext_124 rfl)) (m_lf_all (o_dup2 C dX0_addNext_125 rfl)))))) (m_bt_all (m_bt_all (m_bt_all (m_lf_all (o_iald C dX0_addNext_126 rfl)) (m_lf_all (o_iconst C (x := (1)) (m_rngd rfl) dX0_addNext_127 rfl))) (m_bt_all (m_lf_all (o_iadd C dX0_addNext_128 rfl)) (m_bt_all (m_lf_all (o_iast C dX0_addNext_129 rfl)) (m_lf_all (o_aload_n C (i := 0) rfl dX0_addNext_130 rfl))))) (m_bt_all (m_bt_all (m_lf_all (o_dup C dX0_addNext_131 rfl)) (m_bt_all (m_lf_all (o_get C (ci := 0) (k := 0) (N := 8) (rf := RX0) (T := TX0) rfl ginX0 (Nat.le_of_ble_eq_true rfl) (m_tb_of 243 (by decide +kernel) rfl) dX0_addNext_132 rfl)) (m_lf_all (o_iconst C (x := (1)) (m_rngd rfl) dX0_addNext_135 rfl)))) (m_bt_all (m_lf_all (o_iadd C dX0_addNext_136 rfl)) (m_bt_all (m_lf_all (o_put C (ci := 0) (k := 0) (N := 8) (rf := RX0) (T := TX0) rfl ginX0 (Nat.le_of_ble_eq_true rfl) (m_tb_of 243 (by decide +kernel) rfl) (ty0 := tyX0) tyX0_ok nmX0 rfl rfl dX0_addNext_137 rfl)) (m_lf_all (o_vret C hr dX0_addNext_140)))))))))
set_option maxRecDepth 20000 in
def kX0_gather : m_C := m_bt 26 (m_bt 13 (m_bt 6 (m_bt 2 (m_bt 1 (m_lf 0 (s_ald 1 0)) (m_lf 1 (s_push 2 (.inl (0))))) (m_bt 5 (m_lf 2 (s_put 5 0 0)) (m_lf 5 (s_push 6 (.inl (0)))))) (m_bt 8 (m_bt 7 (m_lf 6 (s_ist 7 2)) (m_lf 7 (s_ild 8 2))) (m_bt 9 (m_lf 8 (s_push 9 (.inl (5)))) (m_bt 12 (m_lf 9 (s_icmp 12 32 (fun x y => y ≤ x))) (m_lf 12 (s_ald 13 0)))))) (m_bt 19 (m_bt 17 (m_bt 16 (m_lf 13 (s_get 16 0 6)) (m_lf 16 (s_ild 17 2))) (m_bt 18 (m_lf 17 (s_push 18 (.inl (0)))) (m_lf 18 (s_iast 19)))) (m_bt 23 (m_bt 20 (m_lf 19 (s_ald 20 0)) (m_lf 20 (s_get 23 0 7))) (m_bt 24 (m_lf 23 (s_ild 24 2)) (m_bt 25 (m_lf 24 (s_push 25 (.inl (0)))) (m_lf 25 (s_iast 26))))))) (m_bt 45 (m_bt 36 (m_bt 32 (m_bt 29 (m_lf 26 (s_inc 29 2 (1))) (m_lf 29 (s_goto 7))) (m_bt 33 (m_lf 32 (s_ald 33 1)) (m_lf 33 (s_callV 36 1 2 wX2_allComers)))) (m_bt 42 (m_bt 39 (m_lf 36 (s_push 39 (.inl (500)))) (m_lf 39 (s_min 42))) (m_bt 43 (m_lf 42 (s_ist 43 2)) (m_bt 44 (m_lf 43 (s_push 44 (.inl (0)))) (m_lf 44 (s_ist 45 3)))))) (m_bt 51 (m_bt 47 (m_bt 46 (m_lf 45 (s_ild 46 3)) (m_lf 46 (s_ild 47 2))) (m_bt 50 (m_lf 47 (s_icmp 50 61 (fun x y => y ≤ x))) (m_lf 50 (s_ald 51 0)))) (m_bt 55 (m_bt 52 (m_lf 51 (s_ald 52 1)) (m_lf 52 (s_callV 55 2 0 wX0_addNext))) (m_bt 58 (m_lf 55 (s_inc 58 3 (1))) (m_bt 61 (m_lf 58 (s_goto 45)) (m_lf 61 (s_retv)))))))
theorem kX0_gather_0 : kX0_gather 0 = some (s_ald 1 0) := rfl
theorem kX0_gather_1 : kX0_gather 1 = some (s_push 2 (.inl (0))) := rfl
theorem kX0_gather_2 : kX0_gather 2 = some (s_put 5 0 0) := rfl
theorem kX0_gather_5 : kX0_gather 5 = some (s_push 6 (.inl (0))) := rfl
theorem kX0_gather_6 : kX0_gather 6 = some (s_ist 7 2) := rfl
theorem kX0_gather_7 : kX0_gather 7 = some (s_ild 8 2) := rfl
theorem kX0_gather_8 : kX0_gather 8 = some (s_push 9 (.inl (5))) := rfl
theorem kX0_gather_9 : kX0_gather 9 = some (s_icmp 12 32 (fun x y => y ≤ x)) := rfl
theorem kX0_gather_12 : kX0_gather 12 = some (s_ald 13 0) := rfl
theorem kX0_gather_13 : kX0_gather 13 = some (s_get 16 0 6) := rfl
theorem kX0_gather_16 : kX0_gather 16 = some (s_ild 17 2) := rfl
theorem kX0_gather_17 : kX0_gather 17 = some (s_push 18 (.inl (0))) := rfl
theorem kX0_gather_18 : kX0_gather 18 = some (s_iast 19) := rfl
theorem kX0_gather_19 : kX0_gather 19 = some (s_ald 20 0) := rfl
theorem kX0_gather_20 : kX0_gather 20 = some (s_get 23 0 7) := rfl
theorem kX0_gather_23 : kX0_gather 23 = some (s_ild 24 2) := rfl
theorem kX0_gather_24 : kX0_gather 24 = some (s_push 25 (.inl (0))) := rfl
theorem kX0_gather_25 : kX0_gather 25 = some (s_iast 26) := rfl
theorem kX0_gather_26 : kX0_gather 26 = some (s_inc 29 2 (1)) := rfl
theorem kX0_gather_29 : kX0_gather 29 = some (s_goto 7) := rfl
theorem kX0_gather_32 : kX0_gather 32 = some (s_ald 33 1) := rfl
theorem kX0_gather_33 : kX0_gather 33 = some (s_callV 36 1 2 wX2_allComers) := rfl
theorem kX0_gather_36 : kX0_gather 36 = some (s_push 39 (.inl (500))) := rfl
theorem kX0_gather_39 : kX0_gather 39 = some (s_min 42) := rfl
theorem kX0_gather_42 : kX0_gather 42 = some (s_ist 43 2) := rfl
theorem kX0_gather_43 : kX0_gather 43 = some (s_push 44 (.inl (0))) := rfl
theorem kX0_gather_44 : kX0_gather 44 = some (s_ist 45 3) := rfl
theorem kX0_gather_45 : kX0_gather 45 = some (s_ild 46 3) := rfl
theorem kX0_gather_46 : kX0_gather 46 = some (s_ild 47 2) := rfl
theorem kX0_gather_47 : kX0_gather 47 = some (s_icmp 50 61 (fun x y => y ≤ x)) := rfl
theorem kX0_gather_50 : kX0_gather 50 = some (s_ald 51 0) := rfl
theorem kX0_gather_51 : kX0_gather 51 = some (s_ald 52 1) := rfl
theorem kX0_gather_52 : kX0_gather 52 = some (s_callV 55 2 0 wX0_addNext) := rfl
theorem kX0_gather_55 : kX0_gather 55 = some (s_inc 58 3 (1)) := rfl
theorem kX0_gather_58 : kX0_gather 58 = some (s_goto 45) := rfl
theorem kX0_gather_61 : kX0_gather 61 = some (s_retv) := rfl
def wX0_gather : m_GK := m_wp 4 kX0_gather
set_option maxRecDepth 100000 in
set_option maxHeartbeats 4000000 in
theorem sX0_gather (l : Launch) (X : m_X) (hX : m_inj X.1) : m_Sound l X 4 yX0_gather cX0_gather 4 none wX0_gather := m_sound_of hX (by decide) (fun p e s m args below meth c q C hr => m_bt_all (m_bt_all (m_bt_all (m_bt_all (m_bt_all (m_lf_all (o_aload_n C (i := 0) rfl dX0_gather_0 rfl)) (m_lf_all (o_iconst C (x := (0)) (m_rngd rfl) dX0_gather_1 rfl))) (m_bt_all (m_lf_all (o_put C (ci := 0) (k := 0) (N := 8) (rf := RX0) (T := TX0) rfl ginX0 (Nat.le_of_ble_eq_true rfl) (m_tb_of 243 (by decide +kernel) rfl) (ty0 := tyX0) tyX0_ok nmX0 rfl rfl dX0_gather_2 rfl)) (m_lf_all (o_iconst C (x := (0)) (m_rngd rfl) dX0_gather_5 rfl)))) (m_bt_all (m_bt_all (m_lf_all (o_istore_n C (i := 2) rfl dX0_gather_6 rfl)) (m_lf_all (o_iload_n C (i := 2) rfl dX0_gather_7 rfl))) (m_bt_all (m_lf_all (o_iconst C (x := (5)) (m_rngd rfl) dX0_gather_8 rfl)) (m_bt_all (m_lf_all (o_icmp_ge C dX0_gather_9 rfl rfl)) (m_lf_all (o_aload_n C (i := 0) rfl dX0_gather_12 rfl)))))) (m_bt_all (m_bt_all (m_bt_all (m_lf_all (o_get C (ci := 0) (k := 6) (N := 8) (rf := RX0) (T := TX0) rfl ginX0 (Nat.le_of_ble_eq_true rfl) (m_tb_of 258 (by decide +kernel) rfl) dX0_gather_13 rfl)) (m_lf_all (o_iload_n C (i := 2) rfl dX0_gather_16 rfl))) (m_bt_all (m_lf_all (o_iconst C (x := (0)) (m_rngd rfl) dX0_gather_17 rfl)) (m_lf_all (o_iast C dX0_gather_18 rfl)))) (m_bt_all (m_bt_all (m_lf_all (o_aload_n C (i := 0) rfl dX0_gather_19 rfl)) (m_lf_all (o_get C (ci := 0) (k := 7) (N := 8) (rf := RX0) (T := TX0) rfl ginX0 (Nat.le_of_ble_eq_true rfl) (m_tb_of 259 (by decide +kernel) rfl) dX0_gather_20 rfl))) (m_bt_all (m_lf_all (o_iload_n C (i := 2) rfl dX0_gather_23 rfl)) (m_bt_all (m_lf_all (o_iconst C (x := (0)) (m_rngd rfl) dX0_gather_24 rfl)) (m_lf_all (o_iast C dX0_gather_25 rfl))))))) (m_bt_all (m_bt_all (m_bt_all (m_bt_all (m_lf_all (o_iinc C dX0_gather_26 rfl)) (m_lf_all (o_goto C dX0_gather_29 rfl))) (m_bt_all (m_lf_all (o_aload_n C (i := 1) rfl dX0_gather_32 rfl)) (m_lf_all (o_callV C (T := TX2) (N := 8) (sX2_allComers l X hX) rfl (m_in_of [610, 611, 612, 73] (by decide +kernel) (by decide +kernel)) (m_tb_of 613 (by decide +kernel) rfl) (by decide +kernel) rfl ⟨Nat.le_of_ble_eq_true rfl, Nat.le_of_ble_eq_true rfl⟩ dX0_gather_33 rfl)))) (m_bt_all (m_bt_all (m_lf_all (o_sipush C (x := (500)) (m_rngd rfl) rfl dX0_gather_36 rfl)) (m_lf_all (o_min C (m_tb_of 614 (by decide +kernel) rfl) (m_tb_of 615 (by decide +kernel) rfl) (m_tb_of 87 (by decide +kernel) rfl) (m_tb_of 616 (by decide +kernel) rfl) ⟨Nat.le_of_ble_eq_true rfl, Nat.le_of_ble_eq_true rfl⟩ dX0_gather_39 rfl))) (m_bt_all (m_lf_all (o_istore_n C (i := 2) rfl dX0_gather_42 rfl)) (m_bt_all (m_lf_all (o_iconst C (x := (0)) (m_rngd rfl) dX0_gather_43 rfl)) (m_lf_all (o_istore_n C (i := 3) rfl dX0_gather_44 rfl)))))) (m_bt_all (m_bt_all (m_bt_all (m_lf_all (o_iload_n C (i := 3) rfl dX0_gather_45 rfl)) (m_lf_all (o_iload_n C (i := 2) rfl dX0_gather_46 rfl))) (m_bt_all (m_lf_all (o_icmp_ge C dX0_gather_47 rfl rfl)) (m_lf_all (o_aload_n C (i := 0) rfl dX0_gather_50 rfl)))) (m_bt_all (m_bt_all (m_lf_all (o_aload_n C (i := 1) rfl dX0_gather_51 rfl)) (m_lf_all (o_callV C (T := TX0) (N := 8) (sX0_addNext l X hX) rfl (m_in_of [617, 619, 9, 77] (by decide +kernel) (by decide +kernel)) (m_tb_of 620 (by decide +kernel) rfl) (by decide +kernel) rfl ⟨Nat.le_of_ble_eq_true rfl, Nat.le_of_ble_eq_true rfl⟩ dX0_gather_52 rfl))) (m_bt_all (m_lf_all (o_iinc C dX0_gather_55 rfl)) (m_bt_all (m_lf_all (o_goto C dX0_gather_58 rfl)) (m_lf_all (o_vret C hr dX0_gather_61))))))))
set_option maxRecDepth 20000 in
def kX3_clear : m_C := m_bt 30 (m_bt 15 (m_bt 6 (m_bt 2 (m_bt 1 (m_lf 0 (s_ald 1 0)) (m_lf 1 (s_push 2 (.inl (0))))) (m_bt 5 (m_lf 2 (s_put 5 3 0)) (m_lf 5 (s_ald 6 0)))) (m_bt 10 (m_bt 7 (m_lf 6 (s_push 7 (.inl (0)))) (m_lf 7 (s_put 10 3 1))) (m_bt 11 (m_lf 10 (s_ald 11 0)) (m_bt 12 (m_lf 11 (s_push 12 (.inl (0)))) (m_lf 12 (s_put 15 3 2)))))) (m_bt 21 (m_bt 17 (m_bt 16 (m_lf 15 (s_ald 16 0)) (m_lf 16 (s_push 17 (.inl (0))))) (m_bt 20 (m_lf 17 (s_put 20 3 3)) (m_lf 20 (s_ald 21 0)))) (m_bt 25 (m_bt 22 (m_lf 21 (s_push 22 (.inl (0)))) (m_lf 22 (s_put 25 3 4))) (m_bt 26 (m_lf 25 (s_ald 26 0)) (m_bt 27 (m_lf 26 (s_push 27 (.inl (0)))) (m_lf 27 (s_putz 30 3 5))))))) (m_bt 45 (m_bt 36 (m_bt 32 (m_bt 31 (m_lf 30 (s_ald 31 0)) (m_lf 31 (s_push 32 (.inl (-1))))) (m_bt 35 (m_lf 32 (s_put 35 3 6)) (m_lf 35 (s_ald 36 0)))) (m_bt 40 (m_bt 37 (m_lf 36 (s_push 37 (.inl (-1)))) (m_lf 37 (s_put 40 3 7))) (m_bt 41 (m_lf 40 (s_ald 41 0)) (m_bt 42 (m_lf 41 (s_push 42 (.inl (0)))) (m_lf 42 (s_put 45 3 8)))))) (m_bt 52 (m_bt 47 (m_bt 46 (m_lf 45 (s_ald 46 0)) (m_lf 46 (s_push 47 (.inl (0))))) (m_bt 50 (m_lf 47 (s_put 50 3 9)) (m_bt 51 (m_lf 50 (s_ald 51 0)) (m_lf 51 (s_push 52 (.inl (0))))))) (m_bt 56 (m_bt 55 (m_lf 52 (s_put 55 3 10)) (m_lf 55 (s_ald 56 0))) (m_bt 57 (m_lf 56 (s_push 57 (.inl (-1)))) (m_bt 60 (m_lf 57 (s_put 60 3 11)) (m_lf 60 (s_retv)))))))
theorem kX3_clear_0 : kX3_clear 0 = some (s_ald 1 0) := rfl
theorem kX3_clear_1 : kX3_clear 1 = some (s_push 2 (.inl (0))) := rfl
theorem kX3_clear_2 : kX3_clear 2 = some (s_put 5 3 0) := rfl
theorem kX3_clear_5 : kX3_clear 5 = some (s_ald 6 0) := rfl
theorem kX3_clear_6 : kX3_clear 6 = some (s_push 7 (.inl (0))) := rfl
theorem kX3_clear_7 : kX3_clear 7 = some (s_put 10 3 1) := rfl
theorem kX3_clear_10 : kX3_clear 10 = some (s_ald 11 0) := rfl
theorem kX3_clear_11 : kX3_clear 11 = some (s_push 12 (.inl (0))) := rfl
theorem kX3_clear_12 : kX3_clear 12 = some (s_put 15 3 2) := rfl
theorem kX3_clear_15 : kX3_clear 15 = some (s_ald 16 0) := rfl
theorem kX3_clear_16 : kX3_clear 16 = some (s_push 17 (.inl (0))) := rfl
theorem kX3_clear_17 : kX3_clear 17 = some (s_put 20 3 3) := rfl
theorem kX3_clear_20 : kX3_clear 20 = some (s_ald 21 0) := rfl
theorem kX3_clear_21 : kX3_clear 21 = some (s_push 22 (.inl (0))) := rfl
theorem kX3_clear_22 : kX3_clear 22 = some (s_put 25 3 4) := rfl
theorem kX3_clear_25 : kX3_clear 25 = some (s_ald 26 0) := rfl
theorem kX3_clear_26 : kX3_clear 26 = some (s_push 27 (.inl (0))) := rfl
theorem kX3_clear_27 : kX3_clear 27 = some (s_putz 30 3 5) := rfl
theorem kX3_clear_30 : kX3_clear 30 = some (s_ald 31 0) := rfl
theorem kX3_clear_31 : kX3_clear 31 = some (s_push 32 (.inl (-1))) := rfl
theorem kX3_clear_32 : kX3_clear 32 = some (s_put 35 3 6) := rfl
theorem kX3_clear_35 : kX3_clear 35 = some (s_ald 36 0) := rfl
theorem kX3_clear_36 : kX3_clear 36 = some (s_push 37 (.inl (-1))) := rfl
theorem kX3_clear_37 : kX3_clear 37 = some (s_put 40 3 7) := rfl
theorem kX3_clear_40 : kX3_clear 40 = some (s_ald 41 0) := rfl
theorem kX3_clear_41 : kX3_clear 41 = some (s_push 42 (.inl (0))) := rfl
theorem kX3_clear_42 : kX3_clear 42 = some (s_put 45 3 8) := rfl
theorem kX3_clear_45 : kX3_clear 45 = some (s_ald 46 0) := rfl
theorem kX3_clear_46 : kX3_clear 46 = some (s_push 47 (.inl (0))) := rfl
theorem kX3_clear_47 : kX3_clear 47 = some (s_put 50 3 9) := rfl
theorem kX3_clear_50 : kX3_clear 50 = some (s_ald 51 0) := rfl
theorem kX3_clear_51 : kX3_clear 51 = some (s_push 52 (.inl (0))) := rfl
theorem kX3_clear_52 : kX3_clear 52 = some (s_put 55 3 10) := rfl
theorem kX3_clear_55 : kX3_clear 55 = some (s_ald 56 0) := rfl
theorem kX3_clear_56 : kX3_clear 56 = some (s_push 57 (.inl (-1))) := rfl
theorem kX3_clear_57 : kX3_clear 57 = some (s_put 60 3 11) := rfl
theorem kX3_clear_60 : kX3_clear 60 = some (s_retv) := rfl
def wX3_clear : m_GK := m_wp 1 kX3_clear
set_option maxRecDepth 100000 in
set_option maxHeartbeats 4000000 in
theorem sX3_clear (l : Launch) (X : m_X) (hX : m_inj X.1) : m_Sound l X 1 yX3_clear cX3_clear 1 none wX3_clear := m_sound_of hX (by decide) (fun p e s m args below meth c q C hr => m_bt_all (m_bt_all (m_bt_all (m_bt_all (m_bt_all (m_lf_all (o_aload_n C (i := 0) rfl dX3_clear_0 rfl)) (m_lf_all (o_iconst C (x := (0)) (m_rngd rfl) dX3_clear_1 rfl))) (m_bt_all (m_lf_all (o_put C (ci := 3) (k := 0) (N := 12) (rf := RX3) (T := TX3) rfl ginX3 (Nat.le_of_ble_eq_true rfl) (m_tb_of 189 (by decide +kernel) rfl) (ty0 := tyX3) tyX3_ok nmX3 rfl rfl dX3_clear_2 rfl)) (m_lf_all (o_aload_n C (i := 0) rfl dX3_clear_5 rfl)))) (m_bt_all (m_bt_all (m_lf_all (o_iconst C (x := (0)) (m_rngd rfl) dX3_clear_6 rfl)) (m_lf_all (o_put C (ci := 3) (k := 1) (N := 12) (rf := RX3) (T := TX3) rfl ginX3 (Nat.le_of_ble_eq_true rfl) (m_tb_of 191 (by decide +kernel) rfl) (ty0 := tyX3) tyX3_ok nmX3 rfl rfl dX3_clear_7 rfl))) (m_bt_all (m_lf_all (o_aload_n C (i := 0) rfl dX3_clear_10 rfl)) (m_bt_all (m_lf_all (o_iconst C (x := (0)) (m_rngd rfl) dX3_clear_11 rfl)) (m_lf_all (o_put C (ci := 3) (k := 2) (N := 12) (rf := RX3) (T := TX3) rfl ginX3 (Nat.le_of_ble_eq_true rfl) (m_tb_of 192 (by decide +kernel) rfl) (ty0 := tyX3) tyX3_ok nmX3 rfl rfl dX3_clear_12 rfl)))))) (m_bt_all (m_bt_all (m_bt_all (m_lf_all (o_aload_n C (i := 0) rfl dX3_clear_15 rfl)) (m_lf_all (o_iconst C (x := (0)) (m_rngd rfl) dX3_clear_16 rfl))) (m_bt_all (m_lf_all (o_put C (ci := 3) (k := 3) (N := 12) (rf := RX3) (T := TX3) rfl ginX3 (Nat.le_of_ble_eq_true rfl) (m_tb_of 194 (by decide +kernel) rfl) (ty0 := tyX3) tyX3_ok nmX3 rfl rfl dX3_clear_17 rfl)) (m_lf_all (o_aload_n C (i := 0) rfl dX3_clear_20 rfl)))) (m_bt_all (m_bt_all (m_lf_all (o_iconst C (x := (0)) (m_rngd rfl) dX3_clear_21 rfl)) (m_lf_all (o_put C (ci := 3) (k := 4) (N := 12) (rf := RX3) (T := TX3) rfl ginX3 (Nat.le_of_ble_eq_true rfl) (m_tb_of 197 (by decide +kernel) rfl) (ty0 := tyX3) tyX3_ok nmX3 rfl rfl dX3_clear_22 rfl))) (m_bt_all (m_lf_all (o_aload_n C (i := 0) rfl dX3_clear_25 rfl)) (m_bt_all (m_lf_all (o_iconst C (x := (0)) (m_rngd rfl) dX3_clear_26 rfl)) (m_lf_all (o_putz C (ci := 3) (k := 5) (N := 12) (rf := RX3) (T := TX3) rfl ginX3 (Nat.le_of_ble_eq_true rfl) (m_tb_of 199 (by decide +kernel) rfl) (ty0 := tyX3) tyX3_ok nmX3 rfl rfl dX3_clear_27 rfl))))))) (m_bt_all (m_bt_all (m_bt_all (m_bt_all (m_lf_all (o_aload_n C (i := 0) rfl dX3_clear_30 rfl)) (m_lf_all (o_iconst C (x := (-1)) (m_rngd rfl) dX3_clear_31 rfl))) (m_bt_all (m_lf_all (o_put C (ci := 3) (k := 6) (N := 12) (rf := RX3) (T := TX3) rfl ginX3 (Nat.le_of_ble_eq_true rfl) (m_tb_of 201 (by decide +kernel) rfl) (ty0 := tyX3) tyX3_ok nmX3 rfl rfl dX3_clear_32 rfl)) (m_lf_all (o_aload_n C (i := 0) rfl dX3_clear_35 rfl)))) (m_bt_all (m_bt_all (m_lf_all (o_iconst C (x := (-1)) (m_rngd rfl) dX3_clear_36 rfl)) (m_lf_all (o_put C (ci := 3) (k := 7) (N := 12) (rf := RX3) (T := TX3) rfl ginX3 (Nat.le_of_ble_eq_true rfl) (m_tb_of 203 (by decide +kernel) rfl) (ty0 := tyX3) tyX3_ok nmX3 rfl rfl dX3_clear_37 rfl))) (m_bt_all (m_lf_all (o_aload_n C (i := 0) rfl dX3_clear_40 rfl)) (m_bt_all (m_lf_all (o_iconst C (x := (0)) (m_rngd rfl) dX3_clear_41 rfl)) (m_lf_all (o_put C (ci := 3) (k := 8) (N := 12) (rf := RX3) (T := TX3) rfl ginX3 (Nat.le_of_ble_eq_true rfl) (m_tb_of 205 (by decide +kernel) rfl) (ty0 := tyX3) tyX3_ok nmX3 rfl rfl dX3_clear_42 rfl)))))) (m_bt_all (m_bt_all (m_bt_all (m_lf_all (o_aload_n C (i := 0) rfl dX3_clear_45 rfl)) (m_lf_all (o_iconst C (x := (0)) (m_rngd rfl) dX3_clear_46 rfl))) (m_bt_all (m_lf_all (o_put C (ci := 3) (k := 9) (N := 12) (rf := RX3) (T := TX3) rfl ginX3 (Nat.le_of_ble_eq_true rfl) (m_tb_of 207 (by decide +kernel) rfl) (ty0 := tyX3) tyX3_ok nmX3 rfl rfl dX3_clear_47 rfl)) (m_bt_all (m_lf_all (o_aload_n C (i := 0) rfl dX3_clear_50 rfl)) (m_lf_all (o_iconst C (x := (0)) (m_rngd rfl) dX3_clear_51 rfl))))) (m_bt_all (m_bt_all (m_lf_all (o_put C (ci := 3) (k := 10) (N := 12) (rf := RX3) (T := TX3) rfl ginX3 (Nat.le_of_ble_eq_true rfl) (m_tb_of 209 (by decide +kernel) rfl) (ty0 := tyX3) tyX3_ok nmX3 rfl rfl dX3_clear_52 rfl)) (m_lf_all (o_aload_n C (i := 0) rfl dX3_clear_55 rfl))) (m_bt_all (m_lf_all (o_iconst C (x := (-1)) (m_rngd rfl) dX3_clear_56 rfl)) (m_bt_all (m_lf_all (o_put C (ci := 3) (k := 11) (N := 12) (rf := RX3) (T := TX3) rfl ginX3 (Nat.le_of_ble_eq_true rfl) (m_tb_of 211 (by decide +kernel) rfl) (ty0 := tyX3) tyX3_ok nmX3 rfl rfl dX3_clear_57 rfl)) (m_lf_all (o_vret C hr dX3_clear_60))))))))
set_option maxRecDepth 20000 in
def kX1_begin : m_C := m_bt 42 (m_bt 21 (m_bt 10 (m_bt 5 (m_bt 1 (m_lf 0 (s_ald 1 0)) (m_bt 2 (m_lf 1 (s_ald 2 1)) (m_lf 2 (s_putr 5 1 7)))) (m_bt 6 (m_lf 5 (s_ald 6 0)) (m_bt 7 (m_lf 6 (s_push 7 (.inl (-1)))) (m_lf 7 (s_put 10 1 8))))) (m_bt 15 (m_bt 11 (m_lf 10 (s_ald 11 0)) (m_bt 12 (m_lf 11 (s_push 12 (.inl (0)))) (m_lf 12 (s_put 15 1 9)))) (m_bt 17 (m_bt 16 (m_lf 15 (s_ald 16 0)) (m_lf 16 (s_push 17 (.inl (0))))) (m_bt 20 (m_lf 17 (s_put 20 1 10)) (m_lf 20 (s_ald 21 0)))))) (m_bt 31 (m_bt 26 (m_bt 22 (m_lf 21 (s_push 22 (.inl (0)))) (m_bt 25 (m_lf 22 (s_put 25 1 4)) (m_lf 25 (s_ald 26 0)))) (m_bt 27 (m_lf 26 (s_push 27 (.inl (-1)))) (m_bt 30 (m_lf 27 (s_put 30 1 5)) (m_lf 30 (s_push 31 (.inl (0))))))) (m_bt 34 (m_bt 32 (m_lf 31 (s_ist 32 2)) (m_bt 33 (m_lf 32 (s_ild 33 2)) (m_lf 33 (s_push 34 (.inl (5)))))) (m_bt 38 (m_bt 37 (m_lf 34 (s_icmp 37 64 (fun x y => y ≤ x))) (m_lf 37 (s_ald 38 0))) (m_bt 41 (m_lf 38 (s_get 41 1 0)) (m_lf 41 (s_ild 42 2))))))) (m_bt 61 (m_bt 50 (m_bt 45 (m_bt 43 (m_lf 42 (s_push 43 (.inl (0)))) (m_bt 44 (m_lf 43 (s_iast 44)) (m_lf 44 (s_ald 45 0)))) (m_bt 48 (m_lf 45 (s_get 48 1 1)) (m_bt 49 (m_lf 48 (s_ild 49 2)) (m_lf 49 (s_push 50 (.inl (0))))))) (m_bt 55 (m_bt 51 (m_lf 50 (s_iast 51)) (m_bt 52 (m_lf 51 (s_ald 52 0)) (m_lf 52 (s_get 55 1 2)))) (m_bt 57 (m_bt 56 (m_lf 55 (s_ild 56 2)) (m_lf 56 (s_push 57 (.inl (0))))) (m_bt 58 (m_lf 57 (s_iast 58)) (m_lf 58 (s_inc 61 2 (1))))))) (m_bt 73 (m_bt 66 (m_bt 64 (m_lf 61 (s_goto 32)) (m_bt 65 (m_lf 64 (s_push 65 (.inl (0)))) (m_lf 65 (s_ist 66 2)))) (m_bt 69 (m_bt 67 (m_lf 66 (s_ild 67 2)) (m_lf 67 (s_push 69 (.inl (6))))) (m_bt 72 (m_lf 69 (s_icmp 72 87 (fun x y => y ≤ x))) (m_lf 72 (s_ald 73 0))))) (m_bt 78 (m_bt 76 (m_lf 73 (s_get 76 1 3)) (m_bt 77 (m_lf 76 (s_ild 77 2)) (m_lf 77 (s_aald 78)))) (m_bt 84 (m_bt 81 (m_lf 78 (s_callV 81 1 3 wX3_clear)) (m_lf 81 (s_inc 84 2 (1)))) (m_bt 87 (m_lf 84 (s_goto 66)) (m_lf 87 (s_retv)))))))
theorem kX1_begin_0 : kX1_begin 0 = some (s_ald 1 0) := rfl
theorem kX1_begin_1 : kX1_begin 1 = some (s_ald 2 1) := rfl
theorem kX1_begin_2 : kX1_begin 2 = some (s_putr 5 1 7) := rfl
theorem kX1_begin_5 : kX1_begin 5 = some (s_ald 6 0) := rfl
theorem kX1_begin_6 : kX1_begin 6 = some (s_push 7 (.inl (-1))) := rfl
theorem kX1_begin_7 : kX1_begin 7 = some (s_put 10 1 8) := rfl
theorem kX1_begin_10 : kX1_begin 10 = some (s_ald 11 0) := rfl
theorem kX1_begin_11 : kX1_begin 11 = some (s_push 12 (.inl (0))) := rfl
theorem kX1_begin_12 : kX1_begin 12 = some (s_put 15 1 9) := rfl
theorem kX1_begin_15 : kX1_begin 15 = some (s_ald 16 0) := rfl
theorem kX1_begin_16 : kX1_begin 16 = some (s_push 17 (.inl (0))) := rfl
theorem kX1_begin_17 : kX1_begin 17 = some (s_put 20 1 10) := rfl
theorem kX1_begin_20 : kX1_begin 20 = some (s_ald 21 0) := rfl
theorem kX1_begin_21 : kX1_begin 21 = some (s_push 22 (.inl (0))) := rfl
theorem kX1_begin_22 : kX1_begin 22 = some (s_put 25 1 4) := rfl
theorem kX1_begin_25 : kX1_begin 25 = some (s_ald 26 0) := rfl
theorem kX1_begin_26 : kX1_begin 26 = some (s_push 27 (.inl (-1))) := rfl
theorem kX1_begin_27 : kX1_begin 27 = some (s_put 30 1 5) := rfl
theorem kX1_begin_30 : kX1_begin 30 = some (s_push 31 (.inl (0))) := rfl
theorem kX1_begin_31 : kX1_begin 31 = some (s_ist 32 2) := rfl
theorem kX1_begin_32 : kX1_begin 32 = some (s_ild 33 2) := rfl
theorem kX1_begin_33 : kX1_begin 33 = some (s_push 34 (.inl (5))) := rfl
theorem kX1_begin_34 : kX1_begin 34 = some (s_icmp 37 64 (fun x y => y ≤ x)) := rfl
theorem kX1_begin_37 : kX1_begin 37 = some (s_ald 38 0) := rfl
theorem kX1_begin_38 : kX1_begin 38 = some (s_get 41 1 0) := rfl
theorem kX1_begin_41 : kX1_begin 41 = some (s_ild 42 2) := rfl
theorem kX1_begin_42 : kX1_begin 42 = some (s_push 43 (.inl (0))) := rfl
theorem kX1_begin_43 : kX1_begin 43 = some (s_iast 44) := rfl
theorem kX1_begin_44 : kX1_begin 44 = some (s_ald 45 0) := rfl
theorem kX1_begin_45 : kX1_begin 45 = some (s_get 48 1 1) := rfl
theorem kX1_begin_48 : kX1_begin 48 = some (s_ild 49 2) := rfl
theorem kX1_begin_49 : kX1_begin 49 = some (s_push 50 (.inl (0))) := rfl
theorem kX1_begin_50 : kX1_begin 50 = some (s_iast 51) := rfl
theorem kX1_begin_51 : kX1_begin 51 = some (s_ald 52 0) := rfl
theorem kX1_begin_52 : kX1_begin 52 = some (s_get 55 1 2) := rfl
theorem kX1_begin_55 : kX1_begin 55 = some (s_ild 56 2) := rfl
theorem kX1_begin_56 : kX1_begin 56 = some (s_push 57 (.inl (0))) := rfl
theorem kX1_begin_57 : kX1_begin 57 = some (s_iast 58) := rfl
theorem kX1_begin_58 : kX1_begin 58 = some (s_inc 61 2 (1)) := rfl
theorem kX1_begin_61 : kX1_begin 61 = some (s_goto 32) := rfl
theorem kX1_begin_64 : kX1_begin 64 = some (s_push 65 (.inl (0))) := rfl
theorem kX1_begin_65 : kX1_begin 65 = some (s_ist 66 2) := rfl
theorem kX1_begin_66 : kX1_begin 66 = some (s_ild 67 2) := rfl
theorem kX1_begin_67 : kX1_begin 67 = some (s_push 69 (.inl (6))) := rfl
theorem kX1_begin_69 : kX1_begin 69 = some (s_icmp 72 87 (fun x y => y ≤ x)) := rfl
theorem kX1_begin_72 : kX1_begin 72 = some (s_ald 73 0) := rfl
theorem kX1_begin_73 : kX1_begin 73 = some (s_get 76 1 3) := rfl
theorem kX1_begin_76 : kX1_begin 76 = some (s_ild 77 2) := rfl
theorem kX1_begin_77 : kX1_begin 77 = some (s_aald 78) := rfl
theorem kX1_begin_78 : kX1_begin 78 = some (s_callV 81 1 3 wX3_clear) := rfl
theorem kX1_begin_81 : kX1_begin 81 = some (s_inc 84 2 (1)) := rfl
theorem kX1_begin_84 : kX1_begin 84 = some (s_goto 66) := rfl
theorem kX1_begin_87 : kX1_begin 87 = some (s_retv) := rfl
def wX1_begin : m_GK := m_wp 3 kX1_begin
set_option maxRecDepth 100000 in
set_option maxHeartbeats 4000000 in
theorem sX1_begin (l : Launch) (X : m_X) (hX : m_inj X.1) : m_Sound l X 2 yX1_begin cX1_begin 3 none wX1_begin := m_sound_of hX (by decide) (fun p e s m args below meth c q C hr => m_bt_all (m_bt_all (m_bt_all (m_bt_all (m_bt_all (m_lf_all (o_aload_n C (i := 0) rfl dX1_begin_0 rfl)) (m_bt_all (m_lf_all (o_aload_n C (i := 1) rfl dX1_begin_1 rfl)) (m_lf_all (o_putr C (ci := 1) (k := 7) (N := 11) (rf := RX1) (T := TX1) rfl ginX1 (Nat.le_of_ble_eq_true rfl) (m_tb_of 293 (by decide +kernel) rfl) (ty0 := tyX1) tyX1_ok nmX1 rfl rfl dX1_begin_2 rfl)))) (m_bt_all (m_lf_all (o_aload_n C (i := 0) rfl dX1_begin_5 rfl)) (m_bt_all (m_lf_all (o_iconst C (x := (-1)) (m_rngd rfl) dX1_begin_6 rfl)) (m_lf_all (o_put C (ci := 1) (k := 8) (N := 11) (rf := RX1) (T := TX1) rfl ginX1 (Nat.le_of_ble_eq_true rfl) (m_tb_of 294 (by decide +kernel) rfl) (ty0 := tyX1) tyX1_ok nmX1 rfl rfl dX1_begin_7 rfl))))) (m_bt_all (m_bt_all (m_lf_all (o_aload_n C (i := 0) rfl dX1_begin_10 rfl)) (m_bt_all (m_lf_all (o_iconst C (x := (0)) (m_rngd rfl) dX1_begin_11 rfl)) (m_lf_all (o_put C (ci := 1) (k := 9) (N := 11) (rf := RX1) (T := TX1) rfl ginX1 (Nat.le_of_ble_eq_true rfl) (m_tb_of 295 (by decide +kernel) rfl) (ty0 := tyX1) tyX1_ok nmX1 rfl rfl dX1_begin_12 rfl)))) (m_bt_all (m_bt_all (m_lf_all (o_aload_n C (i := 0) rfl dX1_begin_15 rfl)) (m_lf_all (o_iconst C (x := (0)) (m_rngd rfl) dX1_begin_16 rfl))) (m_bt_all (m_lf_all (o_put C (ci := 1) (k := 10) (N := 11) (rf := RX1) (T := TX1) rfl ginX1 (Nat.le_of_ble_eq_true rfl) (m_tb_of 296 (by decide +kernel) rfl) (ty0 := tyX1) tyX1_ok nmX1 rfl rfl dX1_begin_17 rfl)) (m_lf_all (o_aload_n C (i := 0) rfl dX1_begin_20 rfl)))))) (m_bt_all (m_bt_all (m_bt_all (m_lf_all (o_iconst C (x := (0)) (m_rngd rfl) dX1_begin_21 rfl)) (m_bt_all (m_lf_all (o_put C (ci := 1) (k := 4) (N := 11) (rf := RX1) (T := TX1) rfl ginX1 (Nat.le_of_ble_eq_true rfl) (m_tb_of 288 (by decide +kernel) rfl) (ty0 := tyX1) tyX1_ok nmX1 rfl rfl dX1_begin_22 rfl)) (m_lf_all (o_aload_n C (i := 0) rfl dX1_begin_25 rfl)))) (m_bt_all (m_lf_all (o_iconst C (x := (-1)) (m_rngd rfl) dX1_begin_26 rfl)) (m_bt_all (m_lf_all (o_put C (ci := 1) (k := 5) (N := 11) (rf := RX1) (T := TX1) rfl ginX1 (Nat.le_of_ble_eq_true rfl) (m_tb_of 290 (by decide +kernel) rfl) (ty0 := tyX1) tyX1_ok nmX1 rfl rfl dX1_begin_27 rfl)) (m_lf_all (o_iconst C (x := (0)) (m_rngd rfl) dX1_begin_30 rfl))))) (m_bt_all (m_bt_all (m_lf_all (o_istore_n C (i := 2) rfl dX1_begin_31 rfl)) (m_bt_all (m_lf_all (o_iload_n C (i := 2) rfl dX1_begin_32 rfl)) (m_lf_all (o_iconst C (x := (5)) (m_rngd rfl) dX1_begin_33 rfl)))) (m_bt_all (m_bt_all (m_lf_all (o_icmp_ge C dX1_begin_34 rfl rfl)) (m_lf_all (o_aload_n C (i := 0) rfl dX1_begin_37 rfl))) (m_bt_all (m_lf_all (o_get C (ci := 1) (k := 0) (N := 11) (rf := RX1) (T := TX1) rfl ginX1 (Nat.le_of_ble_eq_true rfl) (m_tb_of 280 (by decide +kernel) rfl) dX1_begin_38 rfl)) (m_lf_all (o_iload_n C (i := 2) rfl dX1_begin_41 rfl))))))) (m_bt_all (m_bt_all (m_bt_all (m_bt_all (m_lf_all (o_iconst C (x := (0)) (m_rngd rfl) dX1_begin_42 rfl)) (m_bt_all (m_lf_all (o_iast C dX1_begin_43 rfl)) (m_lf_all (o_aload_n C (i := 0) rfl dX1_begin_44 rfl)))) (m_bt_all (m_lf_all (o_get C (ci := 1) (k := 1) (N := 11) (rf := RX1) (T := TX1) rfl ginX1 (Nat.le_of_ble_eq_true rfl) (m_tb_of 282 (by decide +kernel) rfl) dX1_begin_45 rfl)) (m_bt_all (m_lf_all (o_iload_n C (i := 2) rfl dX1_begin_48 rfl)) (m_lf_all (o_iconst C (x := (0)) (m_rngd rfl) dX1_begin_49 rfl))))) (m_bt_all (m_bt_all (m_lf_all (o_iast C dX1_begin_50 rfl)) (m_bt_all (m_lf_all (o_aload_n C (i := 0) rfl dX1_begin_51 rfl)) (m_lf_all (o_get C (ci := 1) (k := 2) (N := 11) (rf := RX1) (T := TX1) rfl ginX1 (Nat.le_of_ble_eq_true rfl) (m_tb_of 284 (by decide +kernel) rfl) dX1_begin_52 rfl)))) (m_bt_all (m_bt_all (m_lf_all (o_iload_n C (i := 2) rfl dX1_begin_55 rfl)) (m_lf_all (o_iconst C (x := (0)) (m_rngd rfl) dX1_begin_56 rfl))) (m_bt_all (m_lf_all (o_iast C dX1_begin_57 rfl)) (m_lf_all (o_iinc C dX1_begin_58 rfl)))))) (m_bt_all (m_bt_all (m_bt_all (m_lf_all (o_goto C dX1_begin_61 rfl)) (m_bt_all (m_lf_all (o_iconst C (x := (0)) (m_rngd rfl) dX1_begin_64 rfl)) (m_lf_all (o_istore_n C (i := 2) rfl dX1_begin_65 rfl)))) (m_bt_all (m_bt_all (m_lf_all (o_iload_n C (i := 2) rfl dX1_begin_66 rfl)) (m_lf_all (o_bipush C (x := (6)) (m_rngd rfl) rfl dX1_begin_67 rfl))) (m_bt_all (m_lf_all (o_icmp_ge C dX1_begin_69 rfl rfl)) (m_lf_all (o_aload_n C (i := 0) rfl dX1_begin_72 rfl))))) (m_bt_all (m_bt_all (m_lf_all (o_get C (ci := 1) (k := 3) (N := 11) (rf := RX1) (T := TX1) rfl ginX1 (Nat.le_of_ble_eq_true rfl) (m_tb_of 286 (by decide +kernel) rfl) dX1_begin_73 rfl)) (m_bt_all (m_lf_all (o_iload_n C (i := 2) rfl dX1_begin_76 rfl)) (m_lf_all (o_aald C dX1_begin_77 rfl)))) (m_bt_all (m_bt_all (m_lf_all (o_callV C (T := TX3) (N := 12) (sX3_clear l X hX) rfl (m_in_of [602, 603, 604, 76] (by decide +kernel) (by decide +kernel)) (m_tb_of 605 (by decide +kernel) rfl) (by decide +kernel) rfl ⟨Nat.le_of_ble_eq_true rfl, Nat.le_of_ble_eq_true rfl⟩ dX1_begin_78 rfl)) (m_lf_all (o_iinc C dX1_begin_81 rfl))) (m_bt_all (m_lf_all (o_goto C dX1_begin_84 rfl)) (m_lf_all (o_vret C hr dX1_begin_87))))))))
set_option maxRecDepth 20000 in
def kX2_hasLane : m_C := m_bt 9 (m_bt 4 (m_bt 1 (m_lf 0 (s_ild 1 1)) (m_lf 1 (s_if 4 16 (fun x => x < 0)))) (m_bt 5 (m_lf 4 (s_ild 5 1)) (m_bt 6 (m_lf 5 (s_ald 6 0)) (m_lf 6 (s_get 9 2 1))))) (m_bt 13 (m_bt 12 (m_lf 9 (s_icmp 12 16 (fun x y => y ≤ x))) (m_lf 12 (s_push 13 (.inl (1))))) (m_bt 16 (m_lf 13 (s_goto 17)) (m_bt 17 (m_lf 16 (s_push 17 (.inl (0)))) (m_lf 17 (s_retz)))))
theorem kX2_hasLane_0 : kX2_hasLane 0 = some (s_ild 1 1) := rfl
theorem kX2_hasLane_1 : kX2_hasLane 1 = some (s_if 4 16 (fun x => x < 0)) := rfl
theorem kX2_hasLane_4 : kX2_hasLane 4 = some (s_ild 5 1) := rfl
theorem kX2_hasLane_5 : kX2_hasLane 5 = some (s_ald 6 0) := rfl
theorem kX2_hasLane_6 : kX2_hasLane 6 = some (s_get 9 2 1) := rfl
theorem kX2_hasLane_9 : kX2_hasLane 9 = some (s_icmp 12 16 (fun x y => y ≤ x)) := rfl
theorem kX2_hasLane_12 : kX2_hasLane 12 = some (s_push 13 (.inl (1))) := rfl
theorem kX2_hasLane_13 : kX2_hasLane 13 = some (s_goto 17) := rfl
theorem kX2_hasLane_16 : kX2_hasLane 16 = some (s_push 17 (.inl (0))) := rfl
theorem kX2_hasLane_17 : kX2_hasLane 17 = some (s_retz) := rfl
def wX2_hasLane : m_GK := m_wp 2 kX2_hasLane
set_option maxRecDepth 100000 in
set_option maxHeartbeats 4000000 in
theorem sX2_hasLane (l : Launch) (X : m_X) (hX : m_inj X.1) : m_Sound l X 1 yX2_hasLane cX2_hasLane 2 (some .boolean) wX2_hasLane := m_sound_of hX (by decide) (fun p e s m args below meth c q C hr => m_bt_all (m_bt_all (m_bt_all (m_lf_all (o_iload_n C (i := 1) rfl dX2_hasLane_0 rfl)) (m_lf_all (o_if_lt C dX2_hasLane_1 rfl rfl))) (m_bt_all (m_lf_all (o_iload_n C (i := 1) rfl dX2_hasLane_4 rfl)) (m_bt_all (m_lf_all (o_aload_n C (i := 0) rfl dX2_hasLane_5 rfl)) (m_lf_all (o_get C (ci := 2) (k := 1) (N := 8) (rf := RX2) (T := TX2) rfl ginX2 (Nat.le_of_ble_eq_true rfl) (m_tb_of 110 (by decide +kernel) rfl) dX2_hasLane_6 rfl))))) (m_bt_all (m_bt_all (m_lf_all (o_icmp_ge C dX2_hasLane_9 rfl rfl)) (m_lf_all (o_iconst C (x := (1)) (m_rngd rfl) dX2_hasLane_12 rfl))) (m_bt_all (m_lf_all (o_goto C dX2_hasLane_13 rfl)) (m_bt_all (m_lf_all (o_iconst C (x := (0)) (m_rngd rfl) dX2_hasLane_16 rfl)) (m_lf_all (o_zret C hr dX2_hasLane_17))))))
set_option maxRecDepth 20000 in
def kX2_wordOf : m_C := m_bt 32 (m_bt 18 (m_bt 9 (m_bt 2 (m_bt 1 (m_lf 0 (s_ald 1 0)) (m_lf 1 (s_ild 2 1))) (m_bt 5 (m_lf 2 (s_callV 5 2 2 wX2_hasLane)) (m_bt 8 (m_lf 5 (s_if 8 15 (fun x => x = 0))) (m_lf 8 (s_ild 9 2))))) (m_bt 15 (m_bt 12 (m_lf 9 (s_callS 12 1 wX8_isQuarter)) (m_lf 12 (s_if 15 17 (fun x => ¬ x = 0)))) (m_bt 16 (m_lf 15 (s_push 16 (.inl (0)))) (m_bt 17 (m_lf 16 (s_ret)) (m_lf 17 (s_ald 18 0)))))) (m_bt 25 (m_bt 22 (m_bt 21 (m_lf 18 (s_get 21 2 6)) (m_lf 21 (s_ild 22 1))) (m_bt 23 (m_lf 22 (s_push 23 (.inl (4)))) (m_bt 24 (m_lf 23 (s_bin 24 (fun x y => m_wrap (x * y)))) (m_lf 24 (s_iald 25))))) (m_bt 27 (m_bt 26 (m_lf 25 (s_ist 26 3)) (m_lf 26 (s_push 27 (.inl (1))))) (m_bt 29 (m_lf 27 (s_ist 29 4)) (m_bt 31 (m_lf 29 (s_ild 31 4)) (m_lf 31 (s_ild 32 2))))))) (m_bt 48 (m_bt 41 (m_bt 36 (m_bt 35 (m_lf 32 (s_icmp 35 67 (fun x y => y < x))) (m_lf 35 (s_ald 36 0))) (m_bt 39 (m_lf 36 (s_get 39 2 6)) (m_bt 40 (m_lf 39 (s_ild 40 1)) (m_lf 40 (s_push 41 (.inl (4))))))) (m_bt 44 (m_bt 42 (m_lf 41 (s_bin 42 (fun x y => m_wrap (x * y)))) (m_lf 42 (s_ild 44 4))) (m_bt 45 (m_lf 44 (s_bin 45 (fun x y => m_wrap (x + y)))) (m_bt 46 (m_lf 45 (s_iald 46)) (m_lf 46 (s_ist 48 5)))))) (m_bt 58 (m_bt 51 (m_bt 50 (m_lf 48 (s_ild 50 5)) (m_lf 50 (s_push 51 (.inl (-1))))) (m_bt 54 (m_lf 51 (s_icmp 54 58 (fun x y => ¬ x = y))) (m_bt 55 (m_lf 54 (s_ild 55 3)) (m_lf 55 (s_goto 60))))) (m_bt 64 (m_bt 60 (m_lf 58 (s_ild 60 5)) (m_bt 61 (m_lf 60 (s_ist 61 3)) (m_lf 61 (s_inc 64 4 (1))))) (m_bt 67 (m_lf 64 (s_goto 29)) (m_bt 68 (m_lf 67 (s_ild 68 3)) (m_lf 68 (s_ret)))))))
theorem kX2_wordOf_0 : kX2_wordOf 0 = some (s_ald 1 0) := rfl
theorem kX2_wordOf_1 : kX2_wordOf 1 = some (s_ild 2 1) := rfl
theorem kX2_wordOf_2 : kX2_wordOf 2 = some (s_callV 5 2 2 wX2_hasLane) := rfl
theorem kX2_wordOf_5 : kX2_wordOf 5 = some (s_if 8 15 (fun x => x = 0)) := rfl
theorem kX2_wordOf_8 : kX2_wordOf 8 = some (s_ild 9 2) := rfl
theorem kX2_wordOf_9 : kX2_wordOf 9 = some (s_callS 12 1 wX8_isQuarter) := rfl
theorem kX2_wordOf_12 : kX2_wordOf 12 = some (s_if 15 17 (fun x => ¬ x = 0)) := rfl
theorem kX2_wordOf_15 : kX2_wordOf 15 = some (s_push 16 (.inl (0))) := rfl
theorem kX2_wordOf_16 : kX2_wordOf 16 = some (s_ret) := rfl
theorem kX2_wordOf_17 : kX2_wordOf 17 = some (s_ald 18 0) := rfl
theorem kX2_wordOf_18 : kX2_wordOf 18 = some (s_get 21 2 6) := rfl
theorem kX2_wordOf_21 : kX2_wordOf 21 = some (s_ild 22 1) := rfl
theorem kX2_wordOf_22 : kX2_wordOf 22 = some (s_push 23 (.inl (4))) := rfl
theorem kX2_wordOf_23 : kX2_wordOf 23 = some (s_bin 24 (fun x y => m_wrap (x * y))) := rfl
theorem kX2_wordOf_24 : kX2_wordOf 24 = some (s_iald 25) := rfl
theorem kX2_wordOf_25 : kX2_wordOf 25 = some (s_ist 26 3) := rfl
theorem kX2_wordOf_26 : kX2_wordOf 26 = some (s_push 27 (.inl (1))) := rfl
theorem kX2_wordOf_27 : kX2_wordOf 27 = some (s_ist 29 4) := rfl
theorem kX2_wordOf_29 : kX2_wordOf 29 = some (s_ild 31 4) := rfl
theorem kX2_wordOf_31 : kX2_wordOf 31 = some (s_ild 32 2) := rfl
theorem kX2_wordOf_32 : kX2_wordOf 32 = some (s_icmp 35 67 (fun x y => y < x)) := rfl
theorem kX2_wordOf_35 : kX2_wordOf 35 = some (s_ald 36 0) := rfl
theorem kX2_wordOf_36 : kX2_wordOf 36 = some (s_get 39 2 6) := rfl
theorem kX2_wordOf_39 : kX2_wordOf 39 = some (s_ild 40 1) := rfl
theorem kX2_wordOf_40 : kX2_wordOf 40 = some (s_push 41 (.inl (4))) := rfl
theorem kX2_wordOf_41 : kX2_wordOf 41 = some (s_bin 42 (fun x y => m_wrap (x * y))) := rfl
theorem kX2_wordOf_42 : kX2_wordOf 42 = some (s_ild 44 4) := rfl
theorem kX2_wordOf_44 : kX2_wordOf 44 = some (s_bin 45 (fun x y => m_wrap (x + y))) := rfl
theorem kX2_wordOf_45 : kX2_wordOf 45 = some (s_iald 46) := rfl
theorem kX2_wordOf_46 : kX2_wordOf 46 = some (s_ist 48 5) := rfl
theorem kX2_wordOf_48 : kX2_wordOf 48 = some (s_ild 50 5) := rfl
theorem kX2_wordOf_50 : kX2_wordOf 50 = some (s_push 51 (.inl (-1))) := rfl
theorem kX2_wordOf_51 : kX2_wordOf 51 = some (s_icmp 54 58 (fun x y => ¬ x = y)) := rfl
theorem kX2_wordOf_54 : kX2_wordOf 54 = some (s_ild 55 3) := rfl
theorem kX2_wordOf_55 : kX2_wordOf 55 = some (s_goto 60) := rfl
theorem kX2_wordOf_58 : kX2_wordOf 58 = some (s_ild 60 5) := rfl
theorem kX2_wordOf_60 : kX2_wordOf 60 = some (s_ist 61 3) := rfl
theorem kX2_wordOf_61 : kX2_wordOf 61 = some (s_inc 64 4 (1)) := rfl
theorem kX2_wordOf_64 : kX2_wordOf 64 = some (s_goto 29) := rfl
theorem kX2_wordOf_67 : kX2_wordOf 67 = some (s_ild 68 3) := rfl
theorem kX2_wordOf_68 : kX2_wordOf 68 = some (s_ret) := rfl
def wX2_wordOf : m_GK := m_wp 6 kX2_wordOf
set_option maxRecDepth 100000 in
set_option maxHeartbeats 4000000 in
theorem sX2_wordOf (l : Launch) (X : m_X) (hX : m_inj X.1) : m_Sound l X 2 yX2_wordOf cX2_wordOf 6 (some .int) wX2_wordOf := m_sound_of hX (by decide) (fun p e s m args below meth c q C hr => m_bt_all (m_bt_all (m_bt_all (m_bt_all (m_bt_all (m_lf_all (o_aload_n C (i := 0) rfl dX2_wordOf_0 rfl)) (m_lf_all (o_iload_n C (i := 1) rfl dX2_wordOf_1 rfl))) (m_bt_all (m_lf_all (o_callV C (T := TX2) (N := 8) (sX2_hasLane l X hX) rfl (m_in_of [544, 545, 546, 73] (by decide +kernel) (by decide +kernel)) (m_tb_of 547 (by decide +kernel) rfl) (by decide +kernel) rfl ⟨Nat.le_of_ble_eq_true rfl, Nat.le_of_ble_eq_true rfl⟩ dX2_wordOf_2 rfl)) (m_bt_all (m_lf_all (o_if_eq C dX2_wordOf_5 rfl rfl)) (m_lf_all (o_iload_n C (i := 2) rfl dX2_wordOf_8 rfl))))) (m_bt_all (m_bt_all (m_lf_all (o_callN C (sX8_isQuarter l X hX) (fun h => h.2.1.2.1) (m_in_of [530, 72] (by decide +kernel) (by decide +kernel)) (m_tb_of 531 (by decide +kernel) rfl) (by decide +kernel) ⟨Nat.le_of_ble_eq_true rfl, Nat.le_of_ble_eq_true rfl⟩ dX2_wordOf_9 rfl)) (m_lf_all (o_if_ne C dX2_wordOf_12 rfl rfl))) (m_bt_all (m_lf_all (o_iconst C (x := (0)) (m_rngd rfl) dX2_wordOf_15 rfl)) (m_bt_all (m_lf_all (o_iret C hr dX2_wordOf_16)) (m_lf_all (o_aload_n C (i := 0) rfl dX2_wordOf_17 rfl)))))) (m_bt_all (m_bt_all (m_bt_all (m_lf_all (o_get C (ci := 2) (k := 6) (N := 8) (rf := RX2) (T := TX2) rfl ginX2 (Nat.le_of_ble_eq_true rfl) (m_tb_of 125 (by decide +kernel) rfl) dX2_wordOf_18 rfl)) (m_lf_all (o_iload_n C (i := 1) rfl dX2_wordOf_21 rfl))) (m_bt_all (m_lf_all (o_iconst C (x := (4)) (m_rngd rfl) dX2_wordOf_22 rfl)) (m_bt_all (m_lf_all (o_imul C dX2_wordOf_23 rfl)) (m_lf_all (o_iald C dX2_wordOf_24 rfl))))) (m_bt_all (m_bt_all (m_lf_all (o_istore_n C (i := 3) rfl dX2_wordOf_25 rfl)) (m_lf_all (o_iconst C (x := (1)) (m_rngd rfl) dX2_wordOf_26 rfl))) (m_bt_all (m_lf_all (o_istore C dX2_wordOf_27 rfl)) (m_bt_all (m_lf_all (o_iload C dX2_wordOf_29 rfl)) (m_lf_all (o_iload_n C (i := 2) rfl dX2_wordOf_31 rfl))))))) (m_bt_all (m_bt_all (m_bt_all (m_bt_all (m_lf_all (o_icmp_gt C dX2_wordOf_32 rfl rfl)) (m_lf_all (o_aload_n C (i := 0) rfl dX2_wordOf_35 rfl))) (m_bt_all (m_lf_all (o_get C (ci := 2) (k := 6) (N := 8) (rf := RX2) (T := TX2) rfl ginX2 (Nat.le_of_ble_eq_true rfl) (m_tb_of 125 (by decide +kernel) rfl) dX2_wordOf_36 rfl)) (m_bt_all (m_lf_all (o_iload_n C (i := 1) rfl dX2_wordOf_39 rfl)) (m_lf_all (o_iconst C (x := (4)) (m_rngd rfl) dX2_wordOf_40 rfl))))) (m_bt_all (m_bt_all (m_lf_all (o_imul C dX2_wordOf_41 rfl)) (m_lf_all (o_iload C dX2_wordOf_42 rfl))) (m_bt_all (m_lf_all (o_iadd C dX2_wordOf_44 rfl)) (m_bt_all (m_lf_all (o_iald C dX2_wordOf_45 rfl)) (m_lf_all (o_istore C dX2_wordOf_46 rfl)))))) (m_bt_all (m_bt_all (m_bt_all (m_lf_all (o_iload C dX2_wordOf_48 rfl)) (m_lf_all (o_iconst C (x := (-1)) (m_rngd rfl) dX2_wordOf_50 rfl))) (m_bt_all (m_lf_all (o_icmp_ne C dX2_wordOf_51 rfl rfl)) (m_bt_all (m_lf_all (o_iload_n C (i := 3) rfl dX2_wordOf_54 rfl)) (m_lf_all (o_goto C dX2_wordOf_55 rfl))))) (m_bt_all (m_bt_all (m_lf_all (o_iload C dX2_wordOf_58 rfl)) (m_bt_all (m_lf_all (o_istore_n C (i := 3) rfl dX2_wordOf_60 rfl)) (m_lf_all (o_iinc C dX2_wordOf_61 rfl)))) (m_bt_all (m_lf_all (o_goto C dX2_wordOf_64 rfl)) (m_bt_all (m_lf_all (o_iload_n C (i := 3) rfl dX2_wordOf_67 rfl)) (m_lf_all (o_iret C hr dX2_wordOf_68))))))))
set_option maxRecDepth 20000 in
def kJ6_bitCount_0f7a4 : m_C := m_bt 27 (m_bt 14 (m_bt 7 (m_bt 2 (m_bt 1 (m_lf 0 (s_ild 1 0)) (m_lf 1 (s_ild 2 0))) (m_bt 3 (m_lf 2 (s_push 3 (.inl (1)))) (m_bt 4 (m_lf 3 (s_bin 4 m_iushr)) (m_lf 4 (s_push 7 (.inl (1431655765))))))) (m_bt 9 (m_bt 8 (m_lf 7 (s_bin 8 m_iand)) (m_lf 8 (s_bin 9 (fun x y => m_wrap (x - y))))) (m_bt 10 (m_lf 9 (s_ist 10 0)) (m_bt 11 (m_lf 10 (s_ild 11 0)) (m_lf 11 (s_push 14 (.inl (858993459)))))))) (m_bt 21 (m_bt 16 (m_bt 15 (m_lf 14 (s_bin 15 m_iand)) (m_lf 15 (s_ild 16 0))) (m_bt 17 (m_lf 16 (s_push 17 (.inl (2)))) (m_bt 18 (m_lf 17 (s_bin 18 m_iushr)) (m_lf 18 (s_push 21 (.inl (858993459))))))) (m_bt 24 (m_bt 22 (m_lf 21 (s_bin 22 m_iand)) (m_bt 23 (m_lf 22 (s_bin 23 (fun x y => m_wrap (x + y)))) (m_lf 23 (s_ist 24 0)))) (m_bt 25 (m_lf 24 (s_ild 25 0)) (m_bt 26 (m_lf 25 (s_ild 26 0)) (m_lf 26 (s_push 27 (.inl (4))))))))) (m_bt 40 (m_bt 34 (m_bt 29 (m_bt 28 (m_lf 27 (s_bin 28 m_iushr)) (m_lf 28 (s_bin 29 (fun x y => m_wrap (x + y))))) (m_bt 32 (m_lf 29 (s_push 32 (.inl (252645135)))) (m_bt 33 (m_lf 32 (s_bin 33 m_iand)) (m_lf 33 (s_ist 34 0))))) (m_bt 36 (m_bt 35 (m_lf 34 (s_ild 35 0)) (m_lf 35 (s_ild 36 0))) (m_bt 38 (m_lf 36 (s_push 38 (.inl (8)))) (m_bt 39 (m_lf 38 (s_bin 39 m_iushr)) (m_lf 39 (s_bin 40 (fun x y => m_wrap (x + y)))))))) (m_bt 46 (m_bt 42 (m_bt 41 (m_lf 40 (s_ist 41 0)) (m_lf 41 (s_ild 42 0))) (m_bt 43 (m_lf 42 (s_ild 43 0)) (m_bt 45 (m_lf 43 (s_push 45 (.inl (16)))) (m_lf 45 (s_bin 46 m_iushr))))) (m_bt 49 (m_bt 47 (m_lf 46 (s_bin 47 (fun x y => m_wrap (x + y)))) (m_bt 48 (m_lf 47 (s_ist 48 0)) (m_lf 48 (s_ild 49 0)))) (m_bt 51 (m_lf 49 (s_push 51 (.inl (63)))) (m_bt 52 (m_lf 51 (s_bin 52 m_iand)) (m_lf 52 (s_ret)))))))
theorem kJ6_bitCount_0f7a4_0 : kJ6_bitCount_0f7a4 0 = some (s_ild 1 0) := rfl
theorem kJ6_bitCount_0f7a4_1 : kJ6_bitCount_0f7a4 1 = some (s_ild 2 0) := rfl
theorem kJ6_bitCount_0f7a4_2 : kJ6_bitCount_0f7a4 2 = some (s_push 3 (.inl (1))) := rfl
theorem kJ6_bitCount_0f7a4_3 : kJ6_bitCount_0f7a4 3 = some (s_bin 4 m_iushr) := rfl
theorem kJ6_bitCount_0f7a4_4 : kJ6_bitCount_0f7a4 4 = some (s_push 7 (.inl (1431655765))) := rfl
theorem kJ6_bitCount_0f7a4_7 : kJ6_bitCount_0f7a4 7 = some (s_bin 8 m_iand) := rfl
theorem kJ6_bitCount_0f7a4_8 : kJ6_bitCount_0f7a4 8 = some (s_bin 9 (fun x y => m_wrap (x - y))) := rfl
theorem kJ6_bitCount_0f7a4_9 : kJ6_bitCount_0f7a4 9 = some (s_ist 10 0) := rfl
theorem kJ6_bitCount_0f7a4_10 : kJ6_bitCount_0f7a4 10 = some (s_ild 11 0) := rfl
theorem kJ6_bitCount_0f7a4_11 : kJ6_bitCount_0f7a4 11 = some (s_push 14 (.inl (858993459))) := rfl
theorem kJ6_bitCount_0f7a4_14 : kJ6_bitCount_0f7a4 14 = some (s_bin 15 m_iand) := rfl
theorem kJ6_bitCount_0f7a4_15 : kJ6_bitCount_0f7a4 15 = some (s_ild 16 0) := rfl
theorem kJ6_bitCount_0f7a4_16 : kJ6_bitCount_0f7a4 16 = some (s_push 17 (.inl (2))) := rfl
theorem kJ6_bitCount_0f7a4_17 : kJ6_bitCount_0f7a4 17 = some (s_bin 18 m_iushr) := rfl
theorem kJ6_bitCount_0f7a4_18 : kJ6_bitCount_0f7a4 18 = some (s_push 21 (.inl (858993459))) := rfl
theorem kJ6_bitCount_0f7a4_21 : kJ6_bitCount_0f7a4 21 = some (s_bin 22 m_iand) := rfl
theorem kJ6_bitCount_0f7a4_22 : kJ6_bitCount_0f7a4 22 = some (s_bin 23 (fun x y => m_wrap (x + y))) := rfl
theorem kJ6_bitCount_0f7a4_23 : kJ6_bitCount_0f7a4 23 = some (s_ist 24 0) := rfl
theorem kJ6_bitCount_0f7a4_24 : kJ6_bitCount_0f7a4 24 = some (s_ild 25 0) := rfl
theorem kJ6_bitCount_0f7a4_25 : kJ6_bitCount_0f7a4 25 = some (s_ild 26 0) := rfl
theorem kJ6_bitCount_0f7a4_26 : kJ6_bitCount_0f7a4 26 = some (s_push 27 (.inl (4))) := rfl
theorem kJ6_bitCount_0f7a4_27 : kJ6_bitCount_0f7a4 27 = some (s_bin 28 m_iushr) := rfl
theorem kJ6_bitCount_0f7a4_28 : kJ6_bitCount_0f7a4 28 = some (s_bin 29 (fun x y => m_wrap (x + y))) := rfl
theorem kJ6_bitCount_0f7a4_29 : kJ6_bitCount_0f7a4 29 = some (s_push 32 (.inl (252645135))) := rfl
theorem kJ6_bitCount_0f7a4_32 : kJ6_bitCount_0f7a4 32 = some (s_bin 33 m_iand) := rfl
theorem kJ6_bitCount_0f7a4_33 : kJ6_bitCount_0f7a4 33 = some (s_ist 34 0) := rfl
theorem kJ6_bitCount_0f7a4_34 : kJ6_bitCount_0f7a4 34 = some (s_ild 35 0) := rfl
theorem kJ6_bitCount_0f7a4_35 : kJ6_bitCount_0f7a4 35 = some (s_ild 36 0) := rfl
theorem kJ6_bitCount_0f7a4_36 : kJ6_bitCount_0f7a4 36 = some (s_push 38 (.inl (8))) := rfl
theorem kJ6_bitCount_0f7a4_38 : kJ6_bitCount_0f7a4 38 = some (s_bin 39 m_iushr) := rfl
theorem kJ6_bitCount_0f7a4_39 : kJ6_bitCount_0f7a4 39 = some (s_bin 40 (fun x y => m_wrap (x + y))) := rfl
theorem kJ6_bitCount_0f7a4_40 : kJ6_bitCount_0f7a4 40 = some (s_ist 41 0) := rfl
theorem kJ6_bitCount_0f7a4_41 : kJ6_bitCount_0f7a4 41 = some (s_ild 42 0) := rfl
theorem kJ6_bitCount_0f7a4_42 : kJ6_bitCount_0f7a4 42 = some (s_ild 43 0) := rfl
theorem kJ6_bitCount_0f7a4_43 : kJ6_bitCount_0f7a4 43 = some (s_push 45 (.inl (16))) := rfl
theorem kJ6_bitCount_0f7a4_45 : kJ6_bitCount_0f7a4 45 = some (s_bin 46 m_iushr) := rfl
theorem kJ6_bitCount_0f7a4_46 : kJ6_bitCount_0f7a4 46 = some (s_bin 47 (fun x y => m_wrap (x + y))) := rfl
theorem kJ6_bitCount_0f7a4_47 : kJ6_bitCount_0f7a4 47 = some (s_ist 48 0) := rfl
theorem kJ6_bitCount_0f7a4_48 : kJ6_bitCount_0f7a4 48 = some (s_ild 49 0) := rfl
theorem kJ6_bitCount_0f7a4_49 : kJ6_bitCount_0f7a4 49 = some (s_push 51 (.inl (63))) := rfl
theorem kJ6_bitCount_0f7a4_51 : kJ6_bitCount_0f7a4 51 = some (s_bin 52 m_iand) := rfl
theorem kJ6_bitCount_0f7a4_52 : kJ6_bitCount_0f7a4 52 = some (s_ret) := rfl
def wJ6_bitCount_0f7a4 : m_GK := m_wp 1 kJ6_bitCount_0f7a4
set_option maxRecDepth 100000 in
set_option maxHeartbeats 4000000 in
theorem sJ6_bitCount_0f7a4 (l : Launch) (X : m_X) (hX : m_inj X.1) : m_Sound l X 1 yJ6_bitCount_0f7a4 cJ6_bitCount_0f7a4 1 (some .int) wJ6_bitCount_0f7a4 := m_sound_of hX (by decide) (fun p e s m args below meth c q C hr => m_bt_all (m_bt_all (m_bt_all (m_bt_all (m_bt_all (m_lf_all (o_iload_n C (i := 0) rfl dJ6_bitCount_0f7a4_0 rfl)) (m_lf_all (o_iload_n C (i := 0) rfl dJ6_bitCount_0f7a4_1 rfl))) (m_bt_all (m_lf_all (o_iconst C (x := (1)) (m_rngd rfl) dJ6_bitCount_0f7a4_2 rfl)) (m_bt_all (m_lf_all (o_iushr C dJ6_bitCount_0f7a4_3 rfl)) (m_lf_all (o_ldcw C (x := (1431655765)) (m_rngd rfl) (m_tb_of 638 (by decide +kernel) rfl) dJ6_bitCount_0f7a4_4 rfl))))) (m_bt_all (m_bt_all (m_lf_all (o_iand C dJ6_bitCount_0f7a4_7 rfl)) (m_lf_all (o_isub C dJ6_bitCount_0f7a4_8 rfl))) (m_bt_all (m_lf_all (o_istore_n C (i := 0) rfl dJ6_bitCount_0f7a4_9 rfl)) (m_bt_all (m_lf_all (o_iload_n C (i := 0) rfl dJ6_bitCount_0f7a4_10 rfl)) (m_lf_all (o_ldcw C (x := (858993459)) (m_rngd rfl) (m_tb_of 639 (by decide +kernel) rfl) dJ6_bitCount_0f7a4_11 rfl)))))) (m_bt_all (m_bt_all (m_bt_all (m_lf_all (o_iand C dJ6_bitCount_0f7a4_14 rfl)) (m_lf_all (o_iload_n C (i := 0) rfl dJ6_bitCount_0f7a4_15 rfl))) (m_bt_all (m_lf_all (o_iconst C (x := (2)) (m_rngd rfl) dJ6_bitCount_0f7a4_16 rfl)) (m_bt_all (m_lf_all (o_iushr C dJ6_bitCount_0f7a4_17 rfl)) (m_lf_all (o_ldcw C (x := (858993459)) (m_rngd rfl) (m_tb_of 639 (by decide +kernel) rfl) dJ6_bitCount_0f7a4_18 rfl))))) (m_bt_all (m_bt_all (m_lf_all (o_iand C dJ6_bitCount_0f7a4_21 rfl)) (m_bt_all (m_lf_all (o_iadd C dJ6_bitCount_0f7a4_22 rfl)) (m_lf_all (o_istore_n C (i := 0) rfl dJ6_bitCount_0f7a4_23 rfl)))) (m_bt_all (m_lf_all (o_iload_n C (i := 0) rfl dJ6_bitCount_0f7a4_24 rfl)) (m_bt_all (m_lf_all (o_iload_n C (i := 0) rfl dJ6_bitCount_0f7a4_25 rfl)) (m_lf_all (o_iconst C (x := (4)) (m_rngd rfl) dJ6_bitCount_0f7a4_26 rfl))))))) (m_bt_all (m_bt_all (m_bt_all (m_bt_all (m_lf_all (o_iushr C dJ6_bitCount_0f7a4_27 rfl)) (m_lf_all (o_iadd C dJ6_bitCount_0f7a4_28 rfl))) (m_bt_all (m_lf_all (o_ldcw C (x := (252645135)) (m_rngd rfl) (m_tb_of 640 (by decide +kernel) rfl) dJ6_bitCount_0f7a4_29 rfl)) (m_bt_all (m_lf_all (o_iand C dJ6_bitCount_0f7a4_32 rfl)) (m_lf_all (o_istore_n C (i := 0) rfl dJ6_bitCount_0f7a4_33 rfl))))) (m_bt_all (m_bt_all (m_lf_all (o_iload_n C (i := 0) rfl dJ6_bitCount_0f7a4_34 rfl)) (m_lf_all (o_iload_n C (i := 0) rfl dJ6_bitCount_0f7a4_35 rfl))) (m_bt_all (m_lf_all (o_bipush C (x := (8)) (m_rngd rfl) rfl dJ6_bitCount_0f7a4_36 rfl)) (m_bt_all (m_lf_all (o_iushr C dJ6_bitCount_0f7a4_38 rfl)) (m_lf_all (o_iadd C dJ6_bitCount_0f7a4_39 rfl)))))) (m_bt_all (m_bt_all (m_bt_all (m_lf_all (o_istore_n C (i := 0) rfl dJ6_bitCount_0f7a4_40 rfl)) (m_lf_all (o_iload_n C (i := 0) rfl dJ6_bitCount_0f7a4_41 rfl))) (m_bt_all (m_lf_all (o_iload_n C (i := 0) rfl dJ6_bitCount_0f7a4_42 rfl)) (m_bt_all (m_lf_all (o_bipush C (x := (16)) (m_rngd rfl) rfl dJ6_bitCount_0f7a4_43 rfl)) (m_lf_all (o_iushr C dJ6_bitCount_0f7a4_45 rfl))))) (m_bt_all (m_bt_all (m_lf_all (o_iadd C dJ6_bitCount_0f7a4_46 rfl)) (m_bt_all (m_lf_all (o_istore_n C (i := 0) rfl dJ6_bitCount_0f7a4_47 rfl)) (m_lf_all (o_iload_n C (i := 0) rfl dJ6_bitCount_0f7a4_48 rfl)))) (m_bt_all (m_lf_all (o_bipush C (x := (63)) (m_rngd rfl) rfl dJ6_bitCount_0f7a4_49 rfl)) (m_bt_all (m_lf_all (o_iand C dJ6_bitCount_0f7a4_51 rfl)) (m_lf_all (o_iret C hr dJ6_bitCount_0f7a4_52))))))))
set_option maxRecDepth 20000 in
def kX1_enterQuarter : m_C := m_bt 74 (m_bt 34 (m_bt 18 (m_bt 9 (m_bt 4 (m_bt 1 (m_lf 0 (s_ild 1 1)) (m_lf 1 (s_push 4 (.inl (900))))) (m_bt 5 (m_lf 4 (s_div 5)) (m_bt 6 (m_lf 5 (s_push 6 (.inl (3)))) (m_lf 6 (s_min 9))))) (m_bt 11 (m_bt 10 (m_lf 9 (s_ist 10 2)) (m_lf 10 (s_ild 11 2))) (m_bt 12 (m_lf 11 (s_ald 12 0)) (m_bt 15 (m_lf 12 (s_get 15 1 8)) (m_lf 15 (s_icmp 18 19 (fun x y => ¬ x = y))))))) (m_bt 25 (m_bt 20 (m_bt 19 (m_lf 18 (s_retv)) (m_lf 19 (s_ald 20 0))) (m_bt 21 (m_lf 20 (s_ild 21 2)) (m_bt 24 (m_lf 21 (s_put 24 1 8)) (m_lf 24 (s_push 25 (.inl (0))))))) (m_bt 27 (m_bt 26 (m_lf 25 (s_ist 26 3)) (m_lf 26 (s_ild 27 3))) (m_bt 28 (m_lf 27 (s_ald 28 0)) (m_bt 31 (m_lf 28 (s_get 31 1 7)) (m_lf 31 (s_get 34 2 1))))))) (m_bt 55 (m_bt 43 (m_bt 38 (m_bt 37 (m_lf 34 (s_icmp 37 152 (fun x y => y ≤ x))) (m_lf 37 (s_ald 38 0))) (m_bt 41 (m_lf 38 (s_get 41 1 7)) (m_bt 42 (m_lf 41 (s_ild 42 3)) (m_lf 42 (s_ald 43 0))))) (m_bt 49 (m_bt 46 (m_lf 43 (s_get 46 1 8)) (m_lf 46 (s_callV 49 3 2 wX2_wordOf))) (m_bt 51 (m_lf 49 (s_ist 51 4)) (m_bt 52 (m_lf 51 (s_ald 52 0)) (m_lf 52 (s_get 55 1 8)))))) (m_bt 64 (m_bt 59 (m_bt 58 (m_lf 55 (s_if 58 81 (fun x => x ≤ 0))) (m_lf 58 (s_ald 59 0))) (m_bt 62 (m_lf 59 (s_get 62 1 7)) (m_bt 63 (m_lf 62 (s_ild 63 3)) (m_lf 63 (s_ald 64 0))))) (m_bt 68 (m_bt 67 (m_lf 64 (s_get 67 1 8)) (m_lf 67 (s_push 68 (.inl (1))))) (m_bt 69 (m_lf 68 (s_bin 69 (fun x y => m_wrap (x - y)))) (m_bt 72 (m_lf 69 (s_callV 72 3 2 wX2_wordOf)) (m_lf 72 (s_ild 74 4)))))))) (m_bt 113 (m_bt 92 (m_bt 84 (m_bt 78 (m_bt 77 (m_lf 74 (s_icmp 77 81 (fun x y => x = y))) (m_lf 77 (s_push 78 (.inl (1))))) (m_bt 81 (m_lf 78 (s_goto 82)) (m_bt 82 (m_lf 81 (s_push 82 (.inl (0)))) (m_lf 82 (s_ist 84 5))))) (m_bt 88 (m_bt 85 (m_lf 84 (s_ald 85 0)) (m_lf 85 (s_get 88 1 3))) (m_bt 89 (m_lf 88 (s_ild 89 3)) (m_bt 90 (m_lf 89 (s_aald 90)) (m_lf 90 (s_ild 92 4)))))) (m_bt 101 (m_bt 96 (m_bt 95 (m_lf 92 (s_put 95 3 8)) (m_lf 95 (s_ald 96 0))) (m_bt 99 (m_lf 96 (s_get 99 1 3)) (m_bt 100 (m_lf 99 (s_ild 100 3)) (m_lf 100 (s_aald 101))))) (m_bt 106 (m_bt 103 (m_lf 101 (s_ild 103 4)) (m_lf 103 (s_callS 106 1 wJ6_bitCount_0f7a4))) (m_bt 109 (m_lf 106 (s_put 109 3 9)) (m_bt 110 (m_lf 109 (s_ald 110 0)) (m_lf 110 (s_get 113 1 3))))))) (m_bt 132 (m_bt 121 (m_bt 115 (m_bt 114 (m_lf 113 (s_ild 114 3)) (m_lf 114 (s_aald 115))) (m_bt 117 (m_lf 115 (s_ild 117 5)) (m_bt 120 (m_lf 117 (s_if 120 142 (fun x => x = 0))) (m_lf 120 (s_ald 121 0))))) (m_bt 127 (m_bt 124 (m_lf 121 (s_get 124 1 8)) (m_lf 124 (s_push 127 (.inl (900))))) (m_bt 128 (m_lf 127 (s_bin 128 (fun x y => m_wrap (x * y)))) (m_bt 129 (m_lf 128 (s_ald 129 0)) (m_lf 129 (s_get 132 1 7)))))) (m_bt 142 (m_bt 137 (m_bt 135 (m_lf 132 (s_get 135 2 7)) (m_lf 135 (s_push 137 (.inl (6))))) (m_bt 138 (m_lf 137 (s_iald 138)) (m_bt 139 (m_lf 138 (s_bin 139 (fun x y => m_wrap (x + y)))) (m_lf 139 (s_goto 143))))) (m_bt 146 (m_bt 143 (m_lf 142 (s_push 143 (.inl (0)))) (m_lf 143 (s_put 146 3 10))) (m_bt 149 (m_lf 146 (s_inc 149 3 (1))) (m_bt 152 (m_lf 149 (s_goto 26)) (m_lf 152 (s_retv))))))))
theorem kX1_enterQuarter_0 : kX1_enterQuarter 0 = some (s_ild 1 1) := rfl
theorem kX1_enterQuarter_1 : kX1_enterQuarter 1 = some (s_push 4 (.inl (900))) := rfl
theorem kX1_enterQuarter_4 : kX1_enterQuarter 4 = some (s_div 5) := rfl
theorem kX1_enterQuarter_5 : kX1_enterQuarter 5 = some (s_push 6 (.inl (3))) := rfl
theorem kX1_enterQuarter_6 : kX1_enterQuarter 6 = some (s_min 9) := rfl
theorem kX1_enterQuarter_9 : kX1_enterQuarter 9 = some (s_ist 10 2) := rfl
theorem kX1_enterQuarter_10 : kX1_enterQuarter 10 = some (s_ild 11 2) := rfl
theorem kX1_enterQuarter_11 : kX1_enterQuarter 11 = some (s_ald 12 0) := rfl
theorem kX1_enterQuarter_12 : kX1_enterQuarter 12 = some (s_get 15 1 8) := rfl
theorem kX1_enterQuarter_15 : kX1_enterQuarter 15 = some (s_icmp 18 19 (fun x y => ¬ x = y)) := rfl
theorem kX1_enterQuarter_18 : kX1_enterQuarter 18 = some (s_retv) := rfl
theorem kX1_enterQuarter_19 : kX1_enterQuarter 19 = some (s_ald 20 0) := rfl
theorem kX1_enterQuarter_20 : kX1_enterQuarter 20 = some (s_ild 21 2) := rfl
theorem kX1_enterQuarter_21 : kX1_enterQuarter 21 = some (s_put 24 1 8) := rfl
theorem kX1_enterQuarter_24 : kX1_enterQuarter 24 = some (s_push 25 (.inl (0))) := rfl
theorem kX1_enterQuarter_25 : kX1_enterQuarter 25 = some (s_ist 26 3) := rfl
theorem kX1_enterQuarter_26 : kX1_enterQuarter 26 = some (s_ild 27 3) := rfl
theorem kX1_enterQuarter_27 : kX1_enterQuarter 27 = some (s_ald 28 0) := rfl
theorem kX1_enterQuarter_28 : kX1_enterQuarter 28 = some (s_get 31 1 7) := rfl
theorem kX1_enterQuarter_31 : kX1_enterQuarter 31 = some (s_get 34 2 1) := rfl
theorem kX1_enterQuarter_34 : kX1_enterQuarter 34 = some (s_icmp 37 152 (fun x y => y ≤ x)) := rfl
theorem kX1_enterQuarter_37 : kX1_enterQuarter 37 = some (s_ald 38 0) := rfl
theorem kX1_enterQuarter_38 : kX1_enterQuarter 38 = some (s_get 41 1 7) := rfl
theorem kX1_enterQuarter_41 : kX1_enterQuarter 41 = some (s_ild 42 3) := rfl
theorem kX1_enterQuarter_42 : kX1_enterQuarter 42 = some (s_ald 43 0) := rfl
theorem kX1_enterQuarter_43 : kX1_enterQuarter 43 = some (s_get 46 1 8) := rfl
theorem kX1_enterQuarter_46 : kX1_enterQuarter 46 = some (s_callV 49 3 2 wX2_wordOf) := rfl
theorem kX1_enterQuarter_49 : kX1_enterQuarter 49 = some (s_ist 51 4) := rfl
theorem kX1_enterQuarter_51 : kX1_enterQuarter 51 = some (s_ald 52 0) := rfl
theorem kX1_enterQuarter_52 : kX1_enterQuarter 52 = some (s_get 55 1 8) := rfl
theorem kX1_enterQuarter_55 : kX1_enterQuarter 55 = some (s_if 58 81 (fun x => x ≤ 0)) := rfl
theorem kX1_enterQuarter_58 : kX1_enterQuarter 58 = some (s_ald 59 0) := rfl
theorem kX1_enterQuarter_59 : kX1_enterQuarter 59 = some (s_get 62 1 7) := rfl
theorem kX1_enterQuarter_62 : kX1_enterQuarter 62 = some (s_ild 63 3) := rfl
theorem kX1_enterQuarter_63 : kX1_enterQuarter 63 = some (s_ald 64 0) := rfl
theorem kX1_enterQuarter_64 : kX1_enterQuarter 64 = some (s_get 67 1 8) := rfl
theorem kX1_enterQuarter_67 : kX1_enterQuarter 67 = some (s_push 68 (.inl (1))) := rfl
theorem kX1_enterQuarter_68 : kX1_enterQuarter 68 = some (s_bin 69 (fun x y => m_wrap (x - y))) := rfl
theorem kX1_enterQuarter_69 : kX1_enterQuarter 69 = some (s_callV 72 3 2 wX2_wordOf) := rfl
theorem kX1_enterQuarter_72 : kX1_enterQuarter 72 = some (s_ild 74 4) := rfl
theorem kX1_enterQuarter_74 : kX1_enterQuarter 74 = some (s_icmp 77 81 (fun x y => x = y)) := rfl
theorem kX1_enterQuarter_77 : kX1_enterQuarter 77 = some (s_push 78 (.inl (1))) := rfl
theorem kX1_enterQuarter_78 : kX1_enterQuarter 78 = some (s_goto 82) := rfl
theorem kX1_enterQuarter_81 : kX1_enterQuarter 81 = some (s_push 82 (.inl (0))) := rfl
theorem kX1_enterQuarter_82 : kX1_enterQuarter 82 = some (s_ist 84 5) := rfl
theorem kX1_enterQuarter_84 : kX1_enterQuarter 84 = some (s_ald 85 0) := rfl
theorem kX1_enterQuarter_85 : kX1_enterQuarter 85 = some (s_get 88 1 3) := rfl
theorem kX1_enterQuarter_88 : kX1_enterQuarter 88 = some (s_ild 89 3) := rfl
theorem kX1_enterQuarter_89 : kX1_enterQuarter 89 = some (s_aald 90) := rfl
theorem kX1_enterQuarter_90 : kX1_enterQuarter 90 = some (s_ild 92 4) := rfl
theorem kX1_enterQuarter_92 : kX1_enterQuarter 92 = some (s_put 95 3 8) := rfl
theorem kX1_enterQuarter_95 : kX1_enterQuarter 95 = some (s_ald 96 0) := rfl
theorem kX1_enterQuarter_96 : kX1_enterQuarter 96 = some (s_get 99 1 3) := rfl
theorem kX1_enterQuarter_99 : kX1_enterQuarter 99 = some (s_ild 100 3) := rfl
theorem kX1_enterQuarter_100 : kX1_enterQuarter 100 = some (s_aald 101) := rfl
theorem kX1_enterQuarter_101 : kX1_enterQuarter 101 = some (s_ild 103 4) := rfl
theorem kX1_enterQuarter_103 : kX1_enterQuarter 103 = some (s_callS 106 1 wJ6_bitCount_0f7a4) := rfl
theorem kX1_enterQuarter_106 : kX1_enterQuarter 106 = some (s_put 109 3 9) := rfl
theorem kX1_enterQuarter_109 : kX1_enterQuarter 109 = some (s_ald 110 0) := rfl
theorem kX1_enterQuarter_110 : kX1_enterQuarter 110 = some (s_get 113 1 3) := rfl
theorem kX1_enterQuarter_113 : kX1_enterQuarter 113 = some (s_ild 114 3) := rfl
theorem kX1_enterQuarter_114 : kX1_enterQuarter 114 = some (s_aald 115) := rfl
theorem kX1_enterQuarter_115 : kX1_enterQuarter 115 = some (s_ild 117 5) := rfl
theorem kX1_enterQuarter_117 : kX1_enterQuarter 117 = some (s_if 120 142 (fun x => x = 0)) := rfl
theorem kX1_enterQuarter_120 : kX1_enterQuarter 120 = some (s_ald 121 0) := rfl
theorem kX1_enterQuarter_121 : kX1_enterQuarter 121 = some (s_get 124 1 8) := rfl
theorem kX1_enterQuarter_124 : kX1_enterQuarter 124 = some (s_push 127 (.inl (900))) := rfl
theorem kX1_enterQuarter_127 : kX1_enterQuarter 127 = some (s_bin 128 (fun x y => m_wrap (x * y))) := rfl
theorem kX1_enterQuarter_128 : kX1_enterQuarter 128 = some (s_ald 129 0) := rfl
theorem kX1_enterQuarter_129 : kX1_enterQuarter 129 = some (s_get 132 1 7) := rfl
theorem kX1_enterQuarter_132 : kX1_enterQuarter 132 = some (s_get 135 2 7) := rfl
theorem kX1_enterQuarter_135 : kX1_enterQuarter 135 = some (s_push 137 (.inl (6))) := rfl
theorem kX1_enterQuarter_137 : kX1_enterQuarter 137 = some (s_iald 138) := rfl
theorem kX1_enterQuarter_138 : kX1_enterQuarter 138 = some (s_bin 139 (fun x y => m_wrap (x + y))) := rfl
theorem kX1_enterQuarter_139 : kX1_enterQuarter 139 = some (s_goto 143) := rfl
theorem kX1_enterQuarter_142 : kX1_enterQuarter 142 = some (s_push 143 (.inl (0))) := rfl
theorem kX1_enterQuarter_143 : kX1_enterQuarter 143 = some (s_put 146 3 10) := rfl
theorem kX1_enterQuarter_146 : kX1_enterQuarter 146 = some (s_inc 149 3 (1)) := rfl
theorem kX1_enterQuarter_149 : kX1_enterQuarter 149 = some (s_goto 26) := rfl
theorem kX1_enterQuarter_152 : kX1_enterQuarter 152 = some (s_retv) := rfl
def wX1_enterQuarter : m_GK := m_wp 6 kX1_enterQuarter
set_option maxRecDepth 100000 in
set_option maxHeartbeats 4000000 in
theorem sX1_enterQuarter (l : Launch) (X : m_X) (hX : m_inj X.1) : m_Sound l X 3 yX1_enterQuarter cX1_enterQuarter 6 none wX1_enterQuarter := m_sound_of hX (by decide) (fun p e s m args below meth c q C hr => m_bt_all (m_bt_all (m_bt_all (m_bt_all (m_bt_all (m_bt_all (m_lf_all (o_iload_n C (i := 1) rfl dX1_enterQuarter_0 rfl)) (m_lf_all (o_sipush C (x := (900)) (m_rngd rfl) rfl dX1_enterQuarter_1 rfl))) (m_bt_all (m_lf_all (o_idiv C dX1_enterQuarter_4 rfl)) (m_bt_all (m_lf_all (o_iconst C (x := (3)) (m_rngd rfl) dX1_enterQuarter_5 rfl)) (m_lf_all (o_min C (m_tb_of 633 (by decide +kernel) rfl) (m_tb_of 615 (by decide +kernel) rfl) (m_tb_of 87 (by decide +kernel) rfl) (m_tb_of 616 (by decide +kernel) rfl) ⟨Nat.le_of_ble_eq_true rfl, Nat.le_of_ble_eq_true rfl⟩ dX1_enterQuarter_6 rfl))))) (m_bt_all (m_bt_all (m_lf_all (o_istore_n C (i := 2) rfl dX1_enterQuarter_9 rfl)) (m_lf_all (o_iload_n C (i := 2) rfl dX1_enterQuarter_10 rfl))) (m_bt_all (m_lf_all (o_aload_n C (i := 0) rfl dX1_enterQuarter_11 rfl)) (m_bt_all (m_lf_all (o_get C (ci := 1) (k := 8) (N := 11) (rf := RX1) (T := TX1) rfl ginX1 (Nat.le_of_ble_eq_true rfl) (m_tb_of 294 (by decide +kernel) rfl) dX1_enterQuarter_12 rfl)) (m_lf_all (o_icmp_ne C dX1_enterQuarter_15 rfl rfl)))))) (m_bt_all (m_bt_all (m_bt_all (m_lf_all (o_vret C hr dX1_enterQuarter_18)) (m_lf_all (o_aload_n C (i := 0) rfl dX1_enterQuarter_19 rfl))) (m_bt_all (m_lf_all (o_iload_n C (i := 2) rfl dX1_enterQuarter_20 rfl)) (m_bt_all (m_lf_all (o_put C (ci := 1) (k := 8) (N := 11) (rf := RX1) (T := TX1) rfl ginX1 (Nat.le_of_ble_eq_true rfl) (m_tb_of 294 (by decide +kernel) rfl) (ty0 := tyX1) tyX1_ok nmX1 rfl rfl dX1_enterQuarter_21 rfl)) (m_lf_all (o_iconst C (x := (0)) (m_rngd rfl) dX1_enterQuarter_24 rfl))))) (m_bt_all (m_bt_all (m_lf_all (o_istore_n C (i := 3) rfl dX1_enterQuarter_25 rfl)) (m_lf_all (o_iload_n C (i := 3) rfl dX1_enterQuarter_26 rfl))) (m_bt_all (m_lf_all (o_aload_n C (i := 0) rfl dX1_enterQuarter_27 rfl)) (m_bt_all (m_lf_all (o_get C (ci := 1) (k := 7) (N := 11) (rf := RX1) (T := TX1) rfl ginX1 (Nat.le_of_ble_eq_true rfl) (m_tb_of 293 (by decide +kernel) rfl) dX1_enterQuarter_28 rfl)) (m_lf_all (o_get C (ci := 2) (k := 1) (N := 8) (rf := RX2) (T := TX2) rfl ginX2 (Nat.le_of_ble_eq_true rfl) (m_tb_of 112 (by decide +kernel) rfl) dX1_enterQuarter_31 rfl))))))) (m_bt_all (m_bt_all (m_bt_all (m_bt_all (m_lf_all (o_icmp_ge C dX1_enterQuarter_34 rfl rfl)) (m_lf_all (o_aload_n C (i := 0) rfl dX1_enterQuarter_37 rfl))) (m_bt_all (m_lf_all (o_get C (ci := 1) (k := 7) (N := 11) (rf := RX1) (T := TX1) rfl ginX1 (Nat.le_of_ble_eq_true rfl) (m_tb_of 293 (by decide +kernel) rfl) dX1_enterQuarter_38 rfl)) (m_bt_all (m_lf_all (o_iload_n C (i := 3) rfl dX1_enterQuarter_41 rfl)) (m_lf_all (o_aload_n C (i := 0) rfl dX1_enterQuarter_42 rfl))))) (m_bt_all (m_bt_all (m_lf_all (o_get C (ci := 1) (k := 8) (N := 11) (rf := RX1) (T := TX1) rfl ginX1 (Nat.le_of_ble_eq_true rfl) (m_tb_of 294 (by decide +kernel) rfl) dX1_enterQuarter_43 rfl)) (m_lf_all (o_callV C (T := TX2) (N := 8) (sX2_wordOf l X hX) rfl (m_in_of [634, 569, 570, 73] (by decide +kernel) (by decide +kernel)) (m_tb_of 571 (by decide +kernel) rfl) (by decide +kernel) rfl ⟨Nat.le_of_ble_eq_true rfl, Nat.le_of_ble_eq_true rfl⟩ dX1_enterQuarter_46 rfl))) (m_bt_all (m_lf_all (o_istore C dX1_enterQuarter_49 rfl)) (m_bt_all (m_lf_all (o_aload_n C (i := 0) rfl dX1_enterQuarter_51 rfl)) (m_lf_all (o_get C (ci := 1) (k := 8) (N := 11) (rf := RX1) (T := TX1) rfl ginX1 (Nat.le_of_ble_eq_true rfl) (m_tb_of 294 (by decide +kernel) rfl) dX1_enterQuarter_52 rfl)))))) (m_bt_all (m_bt_all (m_bt_all (m_lf_all (o_if_le C dX1_enterQuarter_55 rfl rfl)) (m_lf_all (o_aload_n C (i := 0) rfl dX1_enterQuarter_58 rfl))) (m_bt_all (m_lf_all (o_get C (ci := 1) (k := 7) (N := 11) (rf := RX1) (T := TX1) rfl ginX1 (Nat.le_of_ble_eq_true rfl) (m_tb_of 293 (by decide +kernel) rfl) dX1_enterQuarter_59 rfl)) (m_bt_all (m_lf_all (o_iload_n C (i := 3) rfl dX1_enterQuarter_62 rfl)) (m_lf_all (o_aload_n C (i := 0) rfl dX1_enterQuarter_63 rfl))))) (m_bt_all (m_bt_all (m_lf_all (o_get C (ci := 1) (k := 8) (N := 11) (rf := RX1) (T := TX1) rfl ginX1 (Nat.le_of_ble_eq_true rfl) (m_tb_of 294 (by decide +kernel) rfl) dX1_enterQuarter_64 rfl)) (m_lf_all (o_iconst C (x := (1)) (m_rngd rfl) dX1_enterQuarter_67 rfl))) (m_bt_all (m_lf_all (o_isub C dX1_enterQuarter_68 rfl)) (m_bt_all (m_lf_all (o_callV C (T := TX2) (N := 8) (sX2_wordOf l X hX) rfl (m_in_of [634, 569, 570, 73] (by decide +kernel) (by decide +kernel)) (m_tb_of 571 (by decide +kernel) rfl) (by decide +kernel) rfl ⟨Nat.le_of_ble_eq_true rfl, Nat.le_of_ble_eq_true rfl⟩ dX1_enterQuarter_69 rfl)) (m_lf_all (o_iload C dX1_enterQuarter_72 rfl)))))))) (m_bt_all (m_bt_all (m_bt_all (m_bt_all (m_bt_all (m_lf_all (o_icmp_eq C dX1_enterQuarter_74 rfl rfl)) (m_lf_all (o_iconst C (x := (1)) (m_rngd rfl) dX1_enterQuarter_77 rfl))) (m_bt_all (m_lf_all (o_goto C dX1_enterQuarter_78 rfl)) (m_bt_all (m_lf_all (o_iconst C (x := (0)) (m_rngd rfl) dX1_enterQuarter_81 rfl)) (m_lf_all (o_istore C dX1_enterQuarter_82 rfl))))) (m_bt_all (m_bt_all (m_lf_all (o_aload_n C (i := 0) rfl dX1_enterQuarter_84 rfl)) (m_lf_all (o_get C (ci := 1) (k := 3) (N := 11) (rf := RX1) (T := TX1) rfl ginX1 (Nat.le_of_ble_eq_true rfl) (m_tb_of 286 (by decide +kernel) rfl) dX1_enterQuarter_85 rfl))) (m_bt_all (m_lf_all (o_iload_n C (i := 3) rfl dX1_enterQuarter_88 rfl)) (m_bt_all (m_lf_all (o_aald C dX1_enterQuarter_89 rfl)) (m_lf_all (o_iload C dX1_enterQuarter_90 rfl)))))) (m_bt_all (m_bt_all (m_bt_all (m_lf_all (o_put C (ci := 3) (k := 8) (N := 12) (rf := RX3) (T := TX3) rfl ginX3 (Nat.le_of_ble_eq_true rfl) (m_tb_of 206 (by decide +kernel) rfl) (ty0 := tyX3) tyX3_ok nmX3 rfl rfl dX1_enterQuarter_92 rfl)) (m_lf_all (o_aload_n C (i := 0) rfl dX1_enterQuarter_95 rfl))) (m_bt_all (m_lf_all (o_get C (ci := 1) (k := 3) (N := 11) (rf := RX1) (T := TX1) rfl ginX1 (Nat.le_of_ble_eq_true rfl) (m_tb_of 286 (by decide +kernel) rfl) dX1_enterQuarter_96 rfl)) (m_bt_all (m_lf_all (o_iload_n C (i := 3) rfl dX1_enterQuarter_99 rfl)) (m_lf_all (o_aald C dX1_enterQuarter_100 rfl))))) (m_bt_all (m_bt_all (m_lf_all (o_iload C dX1_enterQuarter_101 rfl)) (m_lf_all (o_callS C (sJ6_bitCount_0f7a4 l X hX) (m_in_of [635, 636, 88] (by decide +kernel) (by decide +kernel)) (m_tb_of 637 (by decide +kernel) rfl) (by decide +kernel) ⟨Nat.le_of_ble_eq_true rfl, Nat.le_of_ble_eq_true rfl⟩ dX1_enterQuarter_103 rfl))) (m_bt_all (m_lf_all (o_put C (ci := 3) (k := 9) (N := 12) (rf := RX3) (T := TX3) rfl ginX3 (Nat.le_of_ble_eq_true rfl) (m_tb_of 208 (by decide +kernel) rfl) (ty0 := tyX3) tyX3_ok nmX3 rfl rfl dX1_enterQuarter_106 rfl)) (m_bt_all (m_lf_all (o_aload_n C (i := 0) rfl dX1_enterQuarter_109 rfl)) (m_lf_all (o_get C (ci := 1) (k := 3) (N := 11) (rf := RX1) (T := TX1) rfl ginX1 (Nat.le_of_ble_eq_true rfl) (m_tb_of 286 (by decide +kernel) rfl) dX1_enterQuarter_110 rfl))))))) (m_bt_all (m_bt_all (m_bt_all (m_bt_all (m_lf_all (o_iload_n C (i := 3) rfl dX1_enterQuarter_113 rfl)) (m_lf_all (o_aald C dX1_enterQuarter_114 rfl))) (m_bt_all (m_lf_all (o_iload C dX1_enterQuarter_115 rfl)) (m_bt_all (m_lf_all (o_if_eq C dX1_enterQuarter_117 rfl rfl)) (m_lf_all (o_aload_n C (i := 0) rfl dX1_enterQuarter_120 rfl))))) (m_bt_all (m_bt_all (m_lf_all (o_get C (ci := 1) (k := 8) (N := 11) (rf := RX1) (T := TX1) rfl ginX1 (Nat.le_of_ble_eq_true rfl) (m_tb_of 294 (by decide +kernel) rfl) dX1_enterQuarter_121 rfl)) (m_lf_all (o_sipush C (x := (900)) (m_rngd rfl) rfl dX1_enterQuarter_124 rfl))) (m_bt_all (m_lf_all (o_imul C dX1_enterQuarter_127 rfl)) (m_bt_all (m_lf_all (o_aload_n C (i := 0) rfl dX1_enterQuarter_128 rfl)) (m_lf_all (o_get C (ci := 1) (k := 7) (N := 11) (rf := RX1) (T := TX1) rfl ginX1 (Nat.le_of_ble_eq_true rfl) (m_tb_of 293 (by decide +kernel) rfl) dX1_enterQuarter_129 rfl)))))) (m_bt_all (m_bt_all (m_bt_all (m_lf_all (o_get C (ci := 2) (k := 7) (N := 8) (rf := RX2) (T := TX2) rfl ginX2 (Nat.le_of_ble_eq_true rfl) (m_tb_of 129 (by decide +kernel) rfl) dX1_enterQuarter_132 rfl)) (m_lf_all (o_bipush C (x := (6)) (m_rngd rfl) rfl dX1_enterQuarter_135 rfl))) (m_bt_all (m_lf_all (o_iald C dX1_enterQuarter_137 rfl)) (m_bt_all (m_lf_all (o_iadd C dX1_enterQuarter_138 rfl)) (m_lf_all (o_goto C dX1_enterQuarter_139 rfl))))) (m_bt_all (m_bt_all (m_lf_all (o_iconst C (x := (0)) (m_rngd rfl) dX1_enterQuarter_142 rfl)) (m_lf_all (o_put C (ci := 3) (k := 10) (N := 12) (rf := RX3) (T := TX3) rfl ginX3 (Nat.le_of_ble_eq_true rfl) (m_tb_of 210 (by decide +kernel) rfl) (ty0 := tyX3) tyX3_ok nmX3 rfl rfl dX1_enterQuarter_143 rfl))) (m_bt_all (m_lf_all (o_iinc C dX1_enterQuarter_146 rfl)) (m_bt_all (m_lf_all (o_goto C dX1_enterQuarter_149 rfl)) (m_lf_all (o_vret C hr dX1_enterQuarter_152)))))))))
set_option maxRecDepth 20000 in
def kX1_countStray : m_C := m_bt 29 (m_bt 14 (m_bt 6 (m_bt 2 (m_bt 1 (m_lf 0 (s_ald 1 0)) (m_lf 1 (s_dup 2))) (m_bt 5 (m_lf 2 (s_get 5 1 10)) (m_lf 5 (s_ald 6 0)))) (m_bt 12 (m_bt 9 (m_lf 6 (s_get 9 1 7)) (m_lf 9 (s_get 12 2 7))) (m_bt 13 (m_lf 12 (s_push 13 (.inl (2)))) (m_lf 13 (s_iald 14))))) (m_bt 23 (m_bt 17 (m_bt 16 (m_lf 14 (s_push 16 (.inl (8)))) (m_lf 16 (s_ald 17 0))) (m_bt 20 (m_lf 17 (s_get 20 1 7)) (m_lf 20 (s_get 23 2 7)))) (m_bt 26 (m_bt 25 (m_lf 23 (s_push 25 (.inl (7)))) (m_lf 25 (s_iald 26))) (m_bt 27 (m_lf 26 (s_bin 27 (fun x y => m_wrap (x * y)))) (m_bt 28 (m_lf 27 (s_bin 28 (fun x y => m_wrap (x - y)))) (m_lf 28 (s_push 29 (.inl (0))))))))) (m_bt 46 (m_bt 37 (m_bt 33 (m_bt 32 (m_lf 29 (s_max 32)) (m_lf 32 (s_bin 33 (fun x y => m_wrap (x + y))))) (m_bt 36 (m_lf 33 (s_put 36 1 10)) (m_lf 36 (s_ald 37 0)))) (m_bt 42 (m_bt 40 (m_lf 37 (s_get 40 1 10)) (m_lf 40 (s_push 42 (.inl (100))))) (m_bt 45 (m_lf 42 (s_icmp 45 47 (fun x y => y ≤ x))) (m_lf 45 (s_push 46 (.inl (0))))))) (m_bt 52 (m_bt 48 (m_bt 47 (m_lf 46 (s_retz)) (m_lf 47 (s_ald 48 0))) (m_bt 49 (m_lf 48 (s_dup 49)) (m_lf 49 (s_get 52 1 10)))) (m_bt 55 (m_bt 54 (m_lf 52 (s_push 54 (.inl (100)))) (m_lf 54 (s_bin 55 (fun x y => m_wrap (x - y))))) (m_bt 58 (m_lf 55 (s_put 58 1 10)) (m_bt 59 (m_lf 58 (s_push 59 (.inl (1)))) (m_lf 59 (s_retz)))))))
theorem kX1_countStray_0 : kX1_countStray 0 = some (s_ald 1 0) := rfl
theorem kX1_countStray_1 : kX1_countStray 1 = some (s_dup 2) := rfl
theorem kX1_countStray_2 : kX1_countStray 2 = some (s_get 5 1 10) := rfl
theorem kX1_countStray_5 : kX1_countStray 5 = some (s_ald 6 0) := rfl
theorem kX1_countStray_6 : kX1_countStray 6 = some (s_get 9 1 7) := rfl
theorem kX1_countStray_9 : kX1_countStray 9 = some (s_get 12 2 7) := rfl
theorem kX1_countStray_12 : kX1_countStray 12 = some (s_push 13 (.inl (2))) := rfl
theorem kX1_countStray_13 : kX1_countStray 13 = some (s_iald 14) := rfl
theorem kX1_countStray_14 : kX1_countStray 14 = some (s_push 16 (.inl (8))) := rfl
theorem kX1_countStray_16 : kX1_countStray 16 = some (s_ald 17 0) := rfl
theorem kX1_countStray_17 : kX1_countStray 17 = some (s_get 20 1 7) := rfl
theorem kX1_countStray_20 : kX1_countStray 20 = some (s_get 23 2 7) := rfl
theorem kX1_countStray_23 : kX1_countStray 23 = some (s_push 25 (.inl (7))) := rfl
theorem kX1_countStray_25 : kX1_countStray 25 = some (s_iald 26) := rfl
theorem kX1_countStray_26 : kX1_countStray 26 = some (s_bin 27 (fun x y => m_wrap (x * y))) := rfl
theorem kX1_countStray_27 : kX1_countStray 27 = some (s_bin 28 (fun x y => m_wrap (x - y))) := rfl
theorem kX1_countStray_28 : kX1_countStray 28 = some (s_push 29 (.inl (0))) := rfl
theorem kX1_countStray_29 : kX1_countStray 29 = some (s_max 32) := rfl
theorem kX1_countStray_32 : kX1_countStray 32 = some (s_bin 33 (fun x y => m_wrap (x + y))) := rfl
theorem kX1_countStray_33 : kX1_countStray 33 = some (s_put 36 1 10) := rfl
theorem kX1_countStray_36 : kX1_countStray 36 = some (s_ald 37 0) := rfl
theorem kX1_countStray_37 : kX1_countStray 37 = some (s_get 40 1 10) := rfl
theorem kX1_countStray_40 : kX1_countStray 40 = some (s_push 42 (.inl (100))) := rfl
theorem kX1_countStray_42 : kX1_countStray 42 = some (s_icmp 45 47 (fun x y => y ≤ x)) := rfl
theorem kX1_countStray_45 : kX1_countStray 45 = some (s_push 46 (.inl (0))) := rfl
theorem kX1_countStray_46 : kX1_countStray 46 = some (s_retz) := rfl
theorem kX1_countStray_47 : kX1_countStray 47 = some (s_ald 48 0) := rfl
theorem kX1_countStray_48 : kX1_countStray 48 = some (s_dup 49) := rfl
theorem kX1_countStray_49 : kX1_countStray 49 = some (s_get 52 1 10) := rfl
theorem kX1_countStray_52 : kX1_countStray 52 = some (s_push 54 (.inl (100))) := rfl
theorem kX1_countStray_54 : kX1_countStray 54 = some (s_bin 55 (fun x y => m_wrap (x - y))) := rfl
theorem kX1_countStray_55 : kX1_countStray 55 = some (s_put 58 1 10) := rfl
theorem kX1_countStray_58 : kX1_countStray 58 = some (s_push 59 (.inl (1))) := rfl
theorem kX1_countStray_59 : kX1_countStray 59 = some (s_retz) := rfl
def wX1_countStray : m_GK := m_wp 1 kX1_countStray
set_option maxRecDepth 100000 in
set_option maxHeartbeats 4000000 in
theorem sX1_countStray (l : Launch) (X : m_X) (hX : m_inj X.1) : m_Sound l X 1 yX1_countStray cX1_countStray 1 (some .boolean) wX1_countStray := m_sound_of hX (by decide) (fun p e s m args below meth c q C hr => m_bt_all (m_bt_all (m_bt_all (m_bt_all (m_bt_all (m_lf_all (o_aload_n C (i := 0) rfl dX1_countStray_0 rfl)) (m_lf_all (o_dup C dX1_countStray_1 rfl))) (m_bt_all (m_lf_all (o_get C (ci := 1) (k := 10) (N := 11) (rf := RX1) (T := TX1) rfl ginX1 (Nat.le_of_ble_eq_true rfl) (m_tb_of 296 (by decide +kernel) rfl) dX1_countStray_2 rfl)) (m_lf_all (o_aload_n C (i := 0) rfl dX1_countStray_5 rfl)))) (m_bt_all (m_bt_all (m_lf_all (o_get C (ci := 1) (k := 7) (N := 11) (rf := RX1) (T := TX1) rfl ginX1 (Nat.le_of_ble_eq_true rfl) (m_tb_of 293 (by decide +kernel) rfl) dX1_countStray_6 rfl)) (m_lf_all (o_get C (ci := 2) (k := 7) (N := 8) (rf := RX2) (T := TX2) rfl ginX2 (Nat.le_of_ble_eq_true rfl) (m_tb_of 129 (by decide +kernel) rfl) dX1_countStray_9 rfl))) (m_bt_all (m_lf_all (o_iconst C (x := (2)) (m_rngd rfl) dX1_countStray_12 rfl)) (m_lf_all (o_iald C dX1_countStray_13 rfl))))) (m_bt_all (m_bt_all (m_bt_all (m_lf_all (o_bipush C (x := (8)) (m_rngd rfl) rfl dX1_countStray_14 rfl)) (m_lf_all (o_aload_n C (i := 0) rfl dX1_countStray_16 rfl))) (m_bt_all (m_lf_all (o_get C (ci := 1) (k := 7) (N := 11) (rf := RX1) (T := TX1) rfl ginX1 (Nat.le_of_ble_eq_true rfl) (m_tb_of 293 (by decide +kernel) rfl) dX1_countStray_17 rfl)) (m_lf_all (o_get C (ci := 2) (k := 7) (N := 8) (rf := RX2) (T := TX2) rfl ginX2 (Nat.le_of_ble_eq_true rfl) (m_tb_of 129 (by decide +kernel) rfl) dX1_countStray_20 rfl)))) (m_bt_all (m_bt_all (m_lf_all (o_bipush C (x := (7)) (m_rngd rfl) rfl dX1_countStray_23 rfl)) (m_lf_all (o_iald C dX1_countStray_25 rfl))) (m_bt_all (m_lf_all (o_imul C dX1_countStray_26 rfl)) (m_bt_all (m_lf_all (o_isub C dX1_countStray_27 rfl)) (m_lf_all (o_iconst C (x := (0)) (m_rngd rfl) dX1_countStray_28 rfl))))))) (m_bt_all (m_bt_all (m_bt_all (m_bt_all (m_lf_all (o_max C (m_tb_of 649 (by decide +kernel) rfl) (m_tb_of 650 (by decide +kernel) rfl) (m_tb_of 87 (by decide +kernel) rfl) (m_tb_of 651 (by decide +kernel) rfl) ⟨Nat.le_of_ble_eq_true rfl, Nat.le_of_ble_eq_true rfl⟩ dX1_countStray_29 rfl)) (m_lf_all (o_iadd C dX1_countStray_32 rfl))) (m_bt_all (m_lf_all (o_put C (ci := 1) (k := 10) (N := 11) (rf := RX1) (T := TX1) rfl ginX1 (Nat.le_of_ble_eq_true rfl) (m_tb_of 296 (by decide +kernel) rfl) (ty0 := tyX1) tyX1_ok nmX1 rfl rfl dX1_countStray_33 rfl)) (m_lf_all (o_aload_n C (i := 0) rfl dX1_countStray_36 rfl)))) (m_bt_all (m_bt_all (m_lf_all (o_get C (ci := 1) (k := 10) (N := 11) (rf := RX1) (T := TX1) rfl ginX1 (Nat.le_of_ble_eq_true rfl) (m_tb_of 296 (by decide +kernel) rfl) dX1_countStray_37 rfl)) (m_lf_all (o_bipush C (x := (100)) (m_rngd rfl) rfl dX1_countStray_40 rfl))) (m_bt_all (m_lf_all (o_icmp_ge C dX1_countStray_42 rfl rfl)) (m_lf_all (o_iconst C (x := (0)) (m_rngd rfl) dX1_countStray_45 rfl))))) (m_bt_all (m_bt_all (m_bt_all (m_lf_all (o_zret C hr dX1_countStray_46)) (m_lf_all (o_aload_n C (i := 0) rfl dX1_countStray_47 rfl))) (m_bt_all (m_lf_all (o_dup C dX1_countStray_48 rfl)) (m_lf_all (o_get C (ci := 1) (k := 10) (N := 11) (rf := RX1) (T := TX1) rfl ginX1 (Nat.le_of_ble_eq_true rfl) (m_tb_of 296 (by decide +kernel) rfl) dX1_countStray_49 rfl)))) (m_bt_all (m_bt_all (m_lf_all (o_bipush C (x := (100)) (m_rngd rfl) rfl dX1_countStray_52 rfl)) (m_lf_all (o_isub C dX1_countStray_54 rfl))) (m_bt_all (m_lf_all (o_put C (ci := 1) (k := 10) (N := 11) (rf := RX1) (T := TX1) rfl ginX1 (Nat.le_of_ble_eq_true rfl) (m_tb_of 296 (by decide +kernel) rfl) (ty0 := tyX1) tyX1_ok nmX1 rfl rfl dX1_countStray_55 rfl)) (m_bt_all (m_lf_all (o_iconst C (x := (1)) (m_rngd rfl) dX1_countStray_58 rfl)) (m_lf_all (o_zret C hr dX1_countStray_59))))))))
set_option maxRecDepth 20000 in
def kX8_hasBit : m_C := m_bt 5 (m_bt 2 (m_bt 1 (m_lf 0 (s_ild 1 0)) (m_lf 1 (s_ild 2 1))) (m_bt 3 (m_lf 2 (s_bin 3 m_ishr)) (m_bt 4 (m_lf 3 (s_push 4 (.inl (1)))) (m_lf 4 (s_bin 5 m_iand))))) (m_bt 10 (m_bt 6 (m_lf 5 (s_push 6 (.inl (1)))) (m_bt 9 (m_lf 6 (s_icmp 9 13 (fun x y => ¬ x = y))) (m_lf 9 (s_push 10 (.inl (1)))))) (m_bt 13 (m_lf 10 (s_goto 14)) (m_bt 14 (m_lf 13 (s_push 14 (.inl (0)))) (m_lf 14 (s_retz)))))
theorem kX8_hasBit_0 : kX8_hasBit 0 = some (s_ild 1 0) := rfl
theorem kX8_hasBit_1 : kX8_hasBit 1 = some (s_ild 2 1) := rfl
theorem kX8_hasBit_2 : kX8_hasBit 2 = some (s_bin 3 m_ishr) := rfl
theorem kX8_hasBit_3 : kX8_hasBit 3 = some (s_push 4 (.inl (1))) := rfl
theorem kX8_hasBit_4 : kX8_hasBit 4 = some (s_bin 5 m_iand) := rfl
theorem kX8_hasBit_5 : kX8_hasBit 5 = some (s_push 6 (.inl (1))) := rfl
theorem kX8_hasBit_6 : kX8_hasBit 6 = some (s_icmp 9 13 (fun x y => ¬ x = y)) := rfl
theorem kX8_hasBit_9 : kX8_hasBit 9 = some (s_push 10 (.inl (1))) := rfl
theorem kX8_hasBit_10 : kX8_hasBit 10 = some (s_goto 14) := rfl
theorem kX8_hasBit_13 : kX8_hasBit 13 = some (s_push 14 (.inl (0))) := rfl
theorem kX8_hasBit_14 : kX8_hasBit 14 = some (s_retz) := rfl
def wX8_hasBit : m_GK := m_wp 2 kX8_hasBit
set_option maxRecDepth 100000 in
set_option maxHeartbeats 4000000 in
theorem sX8_hasBit (l : Launch) (X : m_X) (hX : m_inj X.1) : m_Sound l X 1 yX8_hasBit cX8_hasBit 2 (some .boolean) wX8_hasBit := m_sound_of hX (by decide) (fun p e s m args below meth c q C hr => m_bt_all (m_bt_all (m_bt_all (m_lf_all (o_iload_n C (i := 0) rfl dX8_hasBit_0 rfl)) (m_lf_all (o_iload_n C (i := 1) rfl dX8_hasBit_1 rfl))) (m_bt_all (m_lf_all (o_ishr C dX8_hasBit_2 rfl)) (m_bt_all (m_lf_all (o_iconst C (x := (1)) (m_rngd rfl) dX8_hasBit_3 rfl)) (m_lf_all (o_iand C dX8_hasBit_4 rfl))))) (m_bt_all (m_bt_all (m_lf_all (o_iconst C (x := (1)) (m_rngd rfl) dX8_hasBit_5 rfl)) (m_bt_all (m_lf_all (o_icmp_ne C dX8_hasBit_6 rfl rfl)) (m_lf_all (o_iconst C (x := (1)) (m_rngd rfl) dX8_hasBit_9 rfl)))) (m_bt_all (m_lf_all (o_goto C dX8_hasBit_10 rfl)) (m_bt_all (m_lf_all (o_iconst C (x := (0)) (m_rngd rfl) dX8_hasBit_13 rfl)) (m_lf_all (o_zret C hr dX8_hasBit_14))))))
set_option maxRecDepth 20000 in
def kX1_hasPlace : m_C := m_bt 12 (m_bt 5 (m_bt 1 (m_lf 0 (s_ald 1 1)) (m_bt 4 (m_lf 1 (s_get 4 3 0)) (m_lf 4 (s_ald 5 0)))) (m_bt 8 (m_lf 5 (s_get 8 1 7)) (m_bt 11 (m_lf 8 (s_get 11 2 7)) (m_lf 11 (s_push 12 (.inl (5))))))) (m_bt 17 (m_bt 13 (m_lf 12 (s_iald 13)) (m_bt 16 (m_lf 13 (s_icmp 16 20 (fun x y => y ≤ x))) (m_lf 16 (s_push 17 (.inl (1)))))) (m_bt 20 (m_lf 17 (s_goto 21)) (m_bt 21 (m_lf 20 (s_push 21 (.inl (0)))) (m_lf 21 (s_retz)))))
theorem kX1_hasPlace_0 : kX1_hasPlace 0 = some (s_ald 1 1) := rfl
theorem kX1_hasPlace_1 : kX1_hasPlace 1 = some (s_get 4 3 0) := rfl
theorem kX1_hasPlace_4 : kX1_hasPlace 4 = some (s_ald 5 0) := rfl
theorem kX1_hasPlace_5 : kX1_hasPlace 5 = some (s_get 8 1 7) := rfl
theorem kX1_hasPlace_8 : kX1_hasPlace 8 = some (s_get 11 2 7) := rfl
theorem kX1_hasPlace_11 : kX1_hasPlace 11 = some (s_push 12 (.inl (5))) := rfl
theorem kX1_hasPlace_12 : kX1_hasPlace 12 = some (s_iald 13) := rfl
theorem kX1_hasPlace_13 : kX1_hasPlace 13 = some (s_icmp 16 20 (fun x y => y ≤ x)) := rfl
theorem kX1_hasPlace_16 : kX1_hasPlace 16 = some (s_push 17 (.inl (1))) := rfl
theorem kX1_hasPlace_17 : kX1_hasPlace 17 = some (s_goto 21) := rfl
theorem kX1_hasPlace_20 : kX1_hasPlace 20 = some (s_push 21 (.inl (0))) := rfl
theorem kX1_hasPlace_21 : kX1_hasPlace 21 = some (s_retz) := rfl
def wX1_hasPlace : m_GK := m_wp 2 kX1_hasPlace
set_option maxRecDepth 100000 in
set_option maxHeartbeats 4000000 in
theorem sX1_hasPlace (l : Launch) (X : m_X) (hX : m_inj X.1) : m_Sound l X 1 yX1_hasPlace cX1_hasPlace 2 (some .boolean) wX1_hasPlace := m_sound_of hX (by decide) (fun p e s m args below meth c q C hr => m_bt_all (m_bt_all (m_bt_all (m_lf_all (o_aload_n C (i := 1) rfl dX1_hasPlace_0 rfl)) (m_bt_all (m_lf_all (o_get C (ci := 3) (k := 0) (N := 12) (rf := RX3) (T := TX3) rfl ginX3 (Nat.le_of_ble_eq_true rfl) (m_tb_of 190 (by decide +kernel) rfl) dX1_hasPlace_1 rfl)) (m_lf_all (o_aload_n C (i := 0) rfl dX1_hasPlace_4 rfl)))) (m_bt_all (m_lf_all (o_get C (ci := 1) (k := 7) (N := 11) (rf := RX1) (T := TX1) rfl ginX1 (Nat.le_of_ble_eq_true rfl) (m_tb_of 293 (by decide +kernel) rfl) dX1_hasPlace_5 rfl)) (m_bt_all (m_lf_all (o_get C (ci := 2) (k := 7) (N := 8) (rf := RX2) (T := TX2) rfl ginX2 (Nat.le_of_ble_eq_true rfl) (m_tb_of 129 (by decide +kernel) rfl) dX1_hasPlace_8 rfl)) (m_lf_all (o_iconst C (x := (5)) (m_rngd rfl) dX1_hasPlace_11 rfl))))) (m_bt_all (m_bt_all (m_lf_all (o_iald C dX1_hasPlace_12 rfl)) (m_bt_all (m_lf_all (o_icmp_ge C dX1_hasPlace_13 rfl rfl)) (m_lf_all (o_iconst C (x := (1)) (m_rngd rfl) dX1_hasPlace_16 rfl)))) (m_bt_all (m_lf_all (o_goto C dX1_hasPlace_17 rfl)) (m_bt_all (m_lf_all (o_iconst C (x := (0)) (m_rngd rfl) dX1_hasPlace_20 rfl)) (m_lf_all (o_zret C hr dX1_hasPlace_21))))))
set_option maxRecDepth 20000 in
def kX1_isMoreApart : m_C := m_bt 22 (m_bt 12 (m_bt 5 (m_bt 1 (m_lf 0 (s_ald 1 0)) (m_bt 4 (m_lf 1 (s_get 4 3 9)) (m_lf 4 (s_ald 5 1)))) (m_bt 8 (m_lf 5 (s_get 8 3 9)) (m_bt 11 (m_lf 8 (s_icmp 11 15 (fun x y => ¬ x = y))) (m_lf 11 (s_push 12 (.inl (1))))))) (m_bt 17 (m_bt 15 (m_lf 12 (s_goto 16)) (m_bt 16 (m_lf 15 (s_push 16 (.inl (0)))) (m_lf 16 (s_ist 17 2)))) (m_bt 18 (m_lf 17 (s_ald 18 0)) (m_bt 21 (m_lf 18 (s_get 21 3 9)) (m_lf 21 (s_ald 22 1)))))) (m_bt 36 (m_bt 29 (m_bt 25 (m_lf 22 (s_get 25 3 9)) (m_bt 28 (m_lf 25 (s_icmp 28 43 (fun x y => x < y))) (m_lf 28 (s_ild 29 2)))) (m_bt 32 (m_lf 29 (s_if 32 47 (fun x => x = 0))) (m_bt 33 (m_lf 32 (s_ald 33 0)) (m_lf 33 (s_get 36 3 0))))) (m_bt 43 (m_bt 37 (m_lf 36 (s_ald 37 1)) (m_bt 40 (m_lf 37 (s_get 40 3 0)) (m_lf 40 (s_icmp 43 47 (fun x y => y ≤ x))))) (m_bt 47 (m_bt 44 (m_lf 43 (s_push 44 (.inl (1)))) (m_lf 44 (s_goto 48))) (m_bt 48 (m_lf 47 (s_push 48 (.inl (0)))) (m_lf 48 (s_retz))))))
theorem kX1_isMoreApart_0 : kX1_isMoreApart 0 = some (s_ald 1 0) := rfl
theorem kX1_isMoreApart_1 : kX1_isMoreApart 1 = some (s_get 4 3 9) := rfl
theorem kX1_isMoreApart_4 : kX1_isMoreApart 4 = some (s_ald 5 1) := rfl
theorem kX1_isMoreApart_5 : kX1_isMoreApart 5 = some (s_get 8 3 9) := rfl
theorem kX1_isMoreApart_8 : kX1_isMoreApart 8 = some (s_icmp 11 15 (fun x y => ¬ x = y)) := rfl
theorem kX1_isMoreApart_11 : kX1_isMoreApart 11 = some (s_push 12 (.inl (1))) := rfl
theorem kX1_isMoreApart_12 : kX1_isMoreApart 12 = some (s_goto 16) := rfl
theorem kX1_isMoreApart_15 : kX1_isMoreApart 15 = some (s_push 16 (.inl (0))) := rfl
theorem kX1_isMoreApart_16 : kX1_isMoreApart 16 = some (s_ist 17 2) := rfl
theorem kX1_isMoreApart_17 : kX1_isMoreApart 17 = some (s_ald 18 0) := rfl
theorem kX1_isMoreApart_18 : kX1_isMoreApart 18 = some (s_get 21 3 9) := rfl
theorem kX1_isMoreApart_21 : kX1_isMoreApart 21 = some (s_ald 22 1) := rfl
theorem kX1_isMoreApart_22 : kX1_isMoreApart 22 = some (s_get 25 3 9) := rfl
theorem kX1_isMoreApart_25 : kX1_isMoreApart 25 = some (s_icmp 28 43 (fun x y => x < y)) := rfl
theorem kX1_isMoreApart_28 : kX1_isMoreApart 28 = some (s_ild 29 2) := rfl
theorem kX1_isMoreApart_29 : kX1_isMoreApart 29 = some (s_if 32 47 (fun x => x = 0)) := rfl
theorem kX1_isMoreApart_32 : kX1_isMoreApart 32 = some (s_ald 33 0) := rfl
theorem kX1_isMoreApart_33 : kX1_isMoreApart 33 = some (s_get 36 3 0) := rfl
theorem kX1_isMoreApart_36 : kX1_isMoreApart 36 = some (s_ald 37 1) := rfl
theorem kX1_isMoreApart_37 : kX1_isMoreApart 37 = some (s_get 40 3 0) := rfl
theorem kX1_isMoreApart_40 : kX1_isMoreApart 40 = some (s_icmp 43 47 (fun x y => y ≤ x)) := rfl
theorem kX1_isMoreApart_43 : kX1_isMoreApart 43 = some (s_push 44 (.inl (1))) := rfl
theorem kX1_isMoreApart_44 : kX1_isMoreApart 44 = some (s_goto 48) := rfl
theorem kX1_isMoreApart_47 : kX1_isMoreApart 47 = some (s_push 48 (.inl (0))) := rfl
theorem kX1_isMoreApart_48 : kX1_isMoreApart 48 = some (s_retz) := rfl
def wX1_isMoreApart : m_GK := m_wp 3 kX1_isMoreApart
set_option maxRecDepth 100000 in
set_option maxHeartbeats 4000000 in
theorem sX1_isMoreApart (l : Launch) (X : m_X) (hX : m_inj X.1) : m_Sound l X 1 yX1_isMoreApart cX1_isMoreApart 3 (some .boolean) wX1_isMoreApart := m_sound_of hX (by decide) (fun p e s m args below meth c q C hr => m_bt_all (m_bt_all (m_bt_all (m_bt_all (m_lf_all (o_aload_n C (i := 0) rfl dX1_isMoreApart_0 rfl)) (m_bt_all (m_lf_all (o_get C (ci := 3) (k := 9) (N := 12) (rf := RX3) (T := TX3) rfl ginX3 (Nat.le_of_ble_eq_true rfl) (m_tb_of 208 (by decide +kernel) rfl) dX1_isMoreApart_1 rfl)) (m_lf_all (o_aload_n C (i := 1) rfl dX1_isMoreApart_4 rfl)))) (m_bt_all (m_lf_all (o_get C (ci := 3) (k := 9) (N := 12) (rf := RX3) (T := TX3) rfl ginX3 (Nat.le_of_ble_eq_true rfl) (m_tb_of 208 (by decide +kernel) rfl) dX1_isMoreApart_5 rfl)) (m_bt_all (m_lf_all (o_icmp_ne C dX1_isMoreApart_8 rfl rfl)) (m_lf_all (o_iconst C (x := (1)) (m_rngd rfl) dX1_isMoreApart_11 rfl))))) (m_bt_all (m_bt_all (m_lf_all (o_goto C dX1_isMoreApart_12 rfl)) (m_bt_all (m_lf_all (o_iconst C (x := (0)) (m_rngd rfl) dX1_isMoreApart_15 rfl)) (m_lf_all (o_istore_n C (i := 2) rfl dX1_isMoreApart_16 rfl)))) (m_bt_all (m_lf_all (o_aload_n C (i := 0) rfl dX1_isMoreApart_17 rfl)) (m_bt_all (m_lf_all (o_get C (ci := 3) (k := 9) (N := 12) (rf := RX3) (T := TX3) rfl ginX3 (Nat.le_of_ble_eq_true rfl) (m_tb_of 208 (by decide +kernel) rfl) dX1_isMoreApart_18 rfl)) (m_lf_all (o_aload_n C (i := 1) rfl dX1_isMoreApart_21 rfl)))))) (m_bt_all (m_bt_all (m_bt_all (m_lf_all (o_get C (ci := 3) (k := 9) (N := 12) (rf := RX3) (T := TX3) rfl ginX3 (Nat.le_of_ble_eq_true rfl) (m_tb_of 208 (by decide +kernel) rfl) dX1_isMoreApart_22 rfl)) (m_bt_all (m_lf_all (o_icmp_lt C dX1_isMoreApart_25 rfl rfl)) (m_lf_all (o_iload_n C (i := 2) rfl dX1_isMoreApart_28 rfl)))) (m_bt_all (m_lf_all (o_if_eq C dX1_isMoreApart_29 rfl rfl)) (m_bt_all (m_lf_all (o_aload_n C (i := 0) rfl dX1_isMoreApart_32 rfl)) (m_lf_all (o_get C (ci := 3) (k := 0) (N := 12) (rf := RX3) (T := TX3) rfl ginX3 (Nat.le_of_ble_eq_true rfl) (m_tb_of 190 (by decide +kernel) rfl) dX1_isMoreApart_33 rfl))))) (m_bt_all (m_bt_all (m_lf_all (o_aload_n C (i := 1) rfl dX1_isMoreApart_36 rfl)) (m_bt_all (m_lf_all (o_get C (ci := 3) (k := 0) (N := 12) (rf := RX3) (T := TX3) rfl ginX3 (Nat.le_of_ble_eq_true rfl) (m_tb_of 190 (by decide +kernel) rfl) dX1_isMoreApart_37 rfl)) (m_lf_all (o_icmp_ge C dX1_isMoreApart_40 rfl rfl)))) (m_bt_all (m_bt_all (m_lf_all (o_iconst C (x := (1)) (m_rngd rfl) dX1_isMoreApart_43 rfl)) (m_lf_all (o_goto C dX1_isMoreApart_44 rfl))) (m_bt_all (m_lf_all (o_iconst C (x := (0)) (m_rngd rfl) dX1_isMoreApart_47 rfl)) (m_lf_all (o_zret C hr dX1_isMoreApart_48)))))))
set_option maxRecDepth 20000 in
def kX3_loadAt : m_C := m_bt 19 (m_bt 8 (m_bt 4 (m_bt 1 (m_lf 0 (s_ald 1 0)) (m_lf 1 (s_get 4 3 5))) (m_bt 7 (m_lf 4 (s_if 7 29 (fun x => x = 0))) (m_lf 7 (s_ald 8 0)))) (m_bt 12 (m_bt 11 (m_lf 8 (s_get 11 3 2)) (m_lf 11 (s_ild 12 1))) (m_bt 15 (m_lf 12 (s_icmp 15 29 (fun x y => x ≤ y))) (m_bt 16 (m_lf 15 (s_ald 16 0)) (m_lf 16 (s_get 19 3 1)))))) (m_bt 25 (m_bt 23 (m_bt 20 (m_lf 19 (s_ald 20 0)) (m_lf 20 (s_get 23 3 2))) (m_bt 24 (m_lf 23 (s_bin 24 (fun x y => m_wrap (x + y)))) (m_lf 24 (s_ild 25 1)))) (m_bt 29 (m_bt 26 (m_lf 25 (s_bin 26 (fun x y => m_wrap (x - y)))) (m_lf 26 (s_goto 33))) (m_bt 30 (m_lf 29 (s_ald 30 0)) (m_bt 33 (m_lf 30 (s_get 33 3 1)) (m_lf 33 (s_ret))))))
theorem kX3_loadAt_0 : kX3_loadAt 0 = some (s_ald 1 0) := rfl
theorem kX3_loadAt_1 : kX3_loadAt 1 = some (s_get 4 3 5) := rfl
theorem kX3_loadAt_4 : kX3_loadAt 4 = some (s_if 7 29 (fun x => x = 0)) := rfl
theorem kX3_loadAt_7 : kX3_loadAt 7 = some (s_ald 8 0) := rfl
theorem kX3_loadAt_8 : kX3_loadAt 8 = some (s_get 11 3 2) := rfl
theorem kX3_loadAt_11 : kX3_loadAt 11 = some (s_ild 12 1) := rfl
theorem kX3_loadAt_12 : kX3_loadAt 12 = some (s_icmp 15 29 (fun x y => x ≤ y)) := rfl
theorem kX3_loadAt_15 : kX3_loadAt 15 = some (s_ald 16 0) := rfl
theorem kX3_loadAt_16 : kX3_loadAt 16 = some (s_get 19 3 1) := rfl
theorem kX3_loadAt_19 : kX3_loadAt 19 = some (s_ald 20 0) := rfl
theorem kX3_loadAt_20 : kX3_loadAt 20 = some (s_get 23 3 2) := rfl
theorem kX3_loadAt_23 : kX3_loadAt 23 = some (s_bin 24 (fun x y => m_wrap (x + y))) := rfl
theorem kX3_loadAt_24 : kX3_loadAt 24 = some (s_ild 25 1) := rfl
theorem kX3_loadAt_25 : kX3_loadAt 25 = some (s_bin 26 (fun x y => m_wrap (x - y))) := rfl
theorem kX3_loadAt_26 : kX3_loadAt 26 = some (s_goto 33) := rfl
theorem kX3_loadAt_29 : kX3_loadAt 29 = some (s_ald 30 0) := rfl
theorem kX3_loadAt_30 : kX3_loadAt 30 = some (s_get 33 3 1) := rfl
theorem kX3_loadAt_33 : kX3_loadAt 33 = some (s_ret) := rfl
def wX3_loadAt : m_GK := m_wp 2 kX3_loadAt
set_option maxRecDepth 100000 in
set_option maxHeartbeats 4000000 in
theorem sX3_loadAt (l : Launch) (X : m_X) (hX : m_inj X.1) : m_Sound l X 1 yX3_loadAt cX3_loadAt 2 (some .int) wX3_loadAt := m_sound_of hX (by decide) (fun p e s m args below meth c q C hr => m_bt_all (m_bt_all (m_bt_all (m_bt_all (m_lf_all (o_aload_n C (i := 0) rfl dX3_loadAt_0 rfl)) (m_lf_all (o_get C (ci := 3) (k := 5) (N := 12) (rf := RX3) (T := TX3) rfl ginX3 (Nat.le_of_ble_eq_true rfl) (m_tb_of 199 (by decide +kernel) rfl) dX3_loadAt_1 rfl))) (m_bt_all (m_lf_all (o_if_eq C dX3_loadAt_4 rfl rfl)) (m_lf_all (o_aload_n C (i := 0) rfl dX3_loadAt_7 rfl)))) (m_bt_all (m_bt_all (m_lf_all (o_get C (ci := 3) (k := 2) (N := 12) (rf := RX3) (T := TX3) rfl ginX3 (Nat.le_of_ble_eq_true rfl) (m_tb_of 192 (by decide +kernel) rfl) dX3_loadAt_8 rfl)) (m_lf_all (o_iload_n C (i := 1) rfl dX3_loadAt_11 rfl))) (m_bt_all (m_lf_all (o_icmp_le C dX3_loadAt_12 rfl rfl)) (m_bt_all (m_lf_all (o_aload_n C (i := 0) rfl dX3_loadAt_15 rfl)) (m_lf_all (o_get C (ci := 3) (k := 1) (N := 12) (rf := RX3) (T := TX3) rfl ginX3 (Nat.le_of_ble_eq_true rfl) (m_tb_of 191 (by decide +kernel) rfl) dX3_loadAt_16 rfl)))))) (m_bt_all (m_bt_all (m_bt_all (m_lf_all (o_aload_n C (i := 0) rfl dX3_loadAt_19 rfl)) (m_lf_all (o_get C (ci := 3) (k := 2) (N := 12) (rf := RX3) (T := TX3) rfl ginX3 (Nat.le_of_ble_eq_true rfl) (m_tb_of 192 (by decide +kernel) rfl) dX3_loadAt_20 rfl))) (m_bt_all (m_lf_all (o_iadd C dX3_loadAt_23 rfl)) (m_lf_all (o_iload_n C (i := 1) rfl dX3_loadAt_24 rfl)))) (m_bt_all (m_bt_all (m_lf_all (o_isub C dX3_loadAt_25 rfl)) (m_lf_all (o_goto C dX3_loadAt_26 rfl))) (m_bt_all (m_lf_all (o_aload_n C (i := 0) rfl dX3_loadAt_29 rfl)) (m_bt_all (m_lf_all (o_get C (ci := 3) (k := 1) (N := 12) (rf := RX3) (T := TX3) rfl ginX3 (Nat.le_of_ble_eq_true rfl) (m_tb_of 191 (by decide +kernel) rfl) dX3_loadAt_30 rfl)) (m_lf_all (o_iret C hr dX3_loadAt_33)))))))
set_option maxRecDepth 20000 in
def kX1_isBetter : m_C := m_bt 59 (m_bt 42 (m_bt 8 (m_bt 4 (m_bt 1 (m_lf 0 (s_ald 1 0)) (m_lf 1 (s_get 4 1 7))) (m_bt 7 (m_lf 4 (s_get 7 2 7)) (m_lf 7 (s_push 8 (.inl (4)))))) (m_bt 40 (m_bt 9 (m_lf 8 (s_iald 9)) (m_lf 9 (s_sw [(1, 40), (2, 46), (3, 65), (4, 67)] 69))) (m_bt 41 (m_lf 40 (s_ald 41 1)) (m_lf 41 (s_ald 42 2))))) (m_bt 48 (m_bt 46 (m_bt 45 (m_lf 42 (s_callS 45 2 wX1_isMoreApart)) (m_lf 45 (s_retz))) (m_bt 47 (m_lf 46 (s_ald 47 1)) (m_lf 47 (s_ild 48 3)))) (m_bt 52 (m_bt 51 (m_lf 48 (s_callV 51 2 3 wX3_loadAt)) (m_lf 51 (s_ald 52 2))) (m_bt 53 (m_lf 52 (s_ild 53 3)) (m_bt 56 (m_lf 53 (s_callV 56 2 3 wX3_loadAt)) (m_lf 56 (s_icmp 59 63 (fun x y => y ≤ x)))))))) (m_bt 69 (m_bt 65 (m_bt 63 (m_bt 60 (m_lf 59 (s_push 60 (.inl (1)))) (m_lf 60 (s_goto 64))) (m_bt 64 (m_lf 63 (s_push 64 (.inl (0)))) (m_lf 64 (s_retz)))) (m_bt 67 (m_bt 66 (m_lf 65 (s_push 66 (.inl (0)))) (m_lf 66 (s_retz))) (m_bt 68 (m_lf 67 (s_push 68 (.inl (1)))) (m_lf 68 (s_retz))))) (m_bt 77 (m_bt 73 (m_bt 70 (m_lf 69 (s_ald 70 1)) (m_lf 70 (s_get 73 3 0))) (m_bt 74 (m_lf 73 (s_ald 74 2)) (m_lf 74 (s_get 77 3 0)))) (m_bt 81 (m_bt 80 (m_lf 77 (s_icmp 80 84 (fun x y => y ≤ x))) (m_lf 80 (s_push 81 (.inl (1))))) (m_bt 84 (m_lf 81 (s_goto 85)) (m_bt 85 (m_lf 84 (s_push 85 (.inl (0)))) (m_lf 85 (s_retz)))))))
theorem kX1_isBetter_0 : kX1_isBetter 0 = some (s_ald 1 0) := rfl
theorem kX1_isBetter_1 : kX1_isBetter 1 = some (s_get 4 1 7) := rfl
theorem kX1_isBetter_4 : kX1_isBetter 4 = some (s_get 7 2 7) := rfl
theorem kX1_isBetter_7 : kX1_isBetter 7 = some (s_push 8 (.inl (4))) := rfl
theorem kX1_isBetter_8 : kX1_isBetter 8 = some (s_iald 9) := rfl
theorem kX1_isBetter_9 : kX1_isBetter 9 = some (s_sw [(1, 40), (2, 46), (3, 65), (4, 67)] 69) := rfl
theorem kX1_isBetter_40 : kX1_isBetter 40 = some (s_ald 41 1) := rfl
theorem kX1_isBetter_41 : kX1_isBetter 41 = some (s_ald 42 2) := rfl
theorem kX1_isBetter_42 : kX1_isBetter 42 = some (s_callS 45 2 wX1_isMoreApart) := rfl
theorem kX1_isBetter_45 : kX1_isBetter 45 = some (s_retz) := rfl
theorem kX1_isBetter_46 : kX1_isBetter 46 = some (s_ald 47 1) := rfl
theorem kX1_isBetter_47 : kX1_isBetter 47 = some (s_ild 48 3) := rfl
theorem kX1_isBetter_48 : kX1_isBetter 48 = some (s_callV 51 2 3 wX3_loadAt) := rfl
theorem kX1_isBetter_51 : kX1_isBetter 51 = some (s_ald 52 2) := rfl
theorem kX1_isBetter_52 : kX1_isBetter 52 = some (s_ild 53 3) := rfl
theorem kX1_isBetter_53 : kX1_isBetter 53 = some (s_callV 56 2 3 wX3_loadAt) := rfl
theorem kX1_isBetter_56 : kX1_isBetter 56 = some (s_icmp 59 63 (fun x y => y ≤ x)) := rfl
theorem kX1_isBetter_59 : kX1_isBetter 59 = some (s_push 60 (.inl (1))) := rfl
theorem kX1_isBetter_60 : kX1_isBetter 60 = some (s_goto 64) := rfl
theorem kX1_isBetter_63 : kX1_isBetter 63 = some (s_push 64 (.inl (0))) := rfl
theorem kX1_isBetter_64 : kX1_isBetter 64 = some (s_retz) := rfl
theorem kX1_isBetter_65 : kX1_isBetter 65 = some (s_push 66 (.inl (0))) := rfl
theorem kX1_isBetter_66 : kX1_isBetter 66 = some (s_retz) := rfl
theorem kX1_isBetter_67 : kX1_isBetter 67 = some (s_push 68 (.inl (1))) := rfl
theorem kX1_isBetter_68 : kX1_isBetter 68 = some (s_retz) := rfl
theorem kX1_isBetter_69 : kX1_isBetter 69 = some (s_ald 70 1) := rfl
theorem kX1_isBetter_70 : kX1_isBetter 70 = some (s_get 73 3 0) := rfl
theorem kX1_isBetter_73 : kX1_isBetter 73 = some (s_ald 74 2) := rfl
theorem kX1_isBetter_74 : kX1_isBetter 74 = some (s_get 77 3 0) := rfl
theorem kX1_isBetter_77 : kX1_isBetter 77 = some (s_icmp 80 84 (fun x y => y ≤ x)) := rfl
theorem kX1_isBetter_80 : kX1_isBetter 80 = some (s_push 81 (.inl (1))) := rfl
theorem kX1_isBetter_81 : kX1_isBetter 81 = some (s_goto 85) := rfl
theorem kX1_isBetter_84 : kX1_isBetter 84 = some (s_push 85 (.inl (0))) := rfl
theorem kX1_isBetter_85 : kX1_isBetter 85 = some (s_retz) := rfl
def wX1_isBetter : m_GK := m_wp 4 kX1_isBetter
set_option maxRecDepth 100000 in
set_option maxHeartbeats 4000000 in
theorem sX1_isBetter (l : Launch) (X : m_X) (hX : m_inj X.1) : m_Sound l X 2 yX1_isBetter cX1_isBetter 4 (some .boolean) wX1_isBetter := m_sound_of hX (by decide) (fun p e s m args below meth c q C hr => m_bt_all (m_bt_all (m_bt_all (m_bt_all (m_bt_all (m_lf_all (o_aload_n C (i := 0) rfl dX1_isBetter_0 rfl)) (m_lf_all (o_get C (ci := 1) (k := 7) (N := 11) (rf := RX1) (T := TX1) rfl ginX1 (Nat.le_of_ble_eq_true rfl) (m_tb_of 293 (by decide +kernel) rfl) dX1_isBetter_1 rfl))) (m_bt_all (m_lf_all (o_get C (ci := 2) (k := 7) (N := 8) (rf := RX2) (T := TX2) rfl ginX2 (Nat.le_of_ble_eq_true rfl) (m_tb_of 129 (by decide +kernel) rfl) dX1_isBetter_4 rfl)) (m_lf_all (o_iconst C (x := (4)) (m_rngd rfl) dX1_isBetter_7 rfl)))) (m_bt_all (m_bt_all (m_lf_all (o_iald C dX1_isBetter_8 rfl)) (m_lf_all (o_tsw C dX1_isBetter_9 rfl (by decide) (by decide +kernel)))) (m_bt_all (m_lf_all (o_aload_n C (i := 1) rfl dX1_isBetter_40 rfl)) (m_lf_all (o_aload_n C (i := 2) rfl dX1_isBetter_41 rfl))))) (m_bt_all (m_bt_all (m_bt_all (m_lf_all (o_callS C (sX1_isMoreApart l X hX) (m_in_of [667, 668, 75] (by decide +kernel) (by decide +kernel)) (m_tb_of 669 (by decide +kernel) rfl) (by decide +kernel) ⟨Nat.le_of_ble_eq_true rfl, Nat.le_of_ble_eq_true rfl⟩ dX1_isBetter_42 rfl)) (m_lf_all (o_zret C hr dX1_isBetter_45))) (m_bt_all (m_lf_all (o_aload_n C (i := 1) rfl dX1_isBetter_46 rfl)) (m_lf_all (o_iload_n C (i := 3) rfl dX1_isBetter_47 rfl)))) (m_bt_all (m_bt_all (m_lf_all (o_callV C (T := TX3) (N := 12) (sX3_loadAt l X hX) rfl (m_in_of [670, 671, 672, 76] (by decide +kernel) (by decide +kernel)) (m_tb_of 673 (by decide +kernel) rfl) (by decide +kernel) rfl ⟨Nat.le_of_ble_eq_true rfl, Nat.le_of_ble_eq_true rfl⟩ dX1_isBetter_48 rfl)) (m_lf_all (o_aload_n C (i := 2) rfl dX1_isBetter_51 rfl))) (m_bt_all (m_lf_all (o_iload_n C (i := 3) rfl dX1_isBetter_52 rfl)) (m_bt_all (m_lf_all (o_callV C (T := TX3) (N := 12) (sX3_loadAt l X hX) rfl (m_in_of [670, 671, 672, 76] (by decide +kernel) (by decide +kernel)) (m_tb_of 673 (by decide +kernel) rfl) (by decide +kernel) rfl ⟨Nat.le_of_ble_eq_true rfl, Nat.le_of_ble_eq_true rfl⟩ dX1_isBetter_53 rfl)) (m_lf_all (o_icmp_ge C dX1_isBetter_56 rfl rfl))))))) (m_bt_all (m_bt_all (m_bt_all (m_bt_all (m_lf_all (o_iconst C (x := (1)) (m_rngd rfl) dX1_isBetter_59 rfl)) (m_lf_all (o_goto C dX1_isBetter_60 rfl))) (m_bt_all (m_lf_all (o_iconst C (x := (0)) (m_rngd rfl) dX1_isBetter_63 rfl)) (m_lf_all (o_zret C hr dX1_isBetter_64)))) (m_bt_all (m_bt_all (m_lf_all (o_iconst C (x := (0)) (m_rngd rfl) dX1_isBetter_65 rfl)) (m_lf_all (o_zret C hr dX1_isBetter_66))) (m_bt_all (m_lf_all (o_iconst C (x := (1)) (m_rngd rfl) dX1_isBetter_67 rfl)) (m_lf_all (o_zret C hr dX1_isBetter_68))))) (m_bt_all (m_bt_all (m_bt_all (m_lf_all (o_aload_n C (i := 1) rfl dX1_isBetter_69 rfl)) (m_lf_all (o_get C (ci := 3) (k := 0) (N := 12) (rf := RX3) (T := TX3) rfl ginX3 (Nat.le_of_ble_eq_true rfl) (m_tb_of 190 (by decide +kernel) rfl) dX1_isBetter_70 rfl))) (m_bt_all (m_lf_all (o_aload_n C (i := 2) rfl dX1_isBetter_73 rfl)) (m_lf_all (o_get C (ci := 3) (k := 0) (N := 12) (rf := RX3) (T := TX3) rfl ginX3 (Nat.le_of_ble_eq_true rfl) (m_tb_of 190 (by decide +kernel) rfl) dX1_isBetter_74 rfl)))) (m_bt_all (m_bt_all (m_lf_all (o_icmp_ge C dX1_isBetter_77 rfl rfl)) (m_lf_all (o_iconst C (x := (1)) (m_rngd rfl) dX1_isBetter_80 rfl))) (m_bt_all (m_lf_all (o_goto C dX1_isBetter_81 rfl)) (m_bt_all (m_lf_all (o_iconst C (x := (0)) (m_rngd rfl) dX1_isBetter_84 rfl)) (m_lf_all (o_zret C hr dX1_isBetter_85))))))))
set_option maxRecDepth 20000 in
def kX1_choose : m_C := m_bt 50 (m_bt 23 (m_bt 8 (m_bt 3 (m_bt 1 (m_lf 0 (s_push 1 (.inl (-1)))) (m_bt 2 (m_lf 1 (s_ist 2 3)) (m_lf 2 (s_push 3 (.inl (0)))))) (m_bt 5 (m_lf 3 (s_ist 5 4)) (m_bt 7 (m_lf 5 (s_ild 7 4)) (m_lf 7 (s_ald 8 0))))) (m_bt 17 (m_bt 11 (m_lf 8 (s_get 11 1 7)) (m_bt 14 (m_lf 11 (s_get 14 2 1)) (m_lf 14 (s_icmp 17 97 (fun x y => y ≤ x))))) (m_bt 18 (m_lf 17 (s_ald 18 0)) (m_bt 21 (m_lf 18 (s_get 21 1 3)) (m_lf 21 (s_ild 23 4)))))) (m_bt 35 (m_bt 28 (m_bt 24 (m_lf 23 (s_aald 24)) (m_bt 26 (m_lf 24 (s_ast 26 5)) (m_lf 26 (s_ald 28 5)))) (m_bt 31 (m_lf 28 (s_get 31 3 8)) (m_bt 32 (m_lf 31 (s_ild 32 1)) (m_lf 32 (s_callS 35 2 wX8_hasBit))))) (m_bt 41 (m_bt 38 (m_lf 35 (s_if 38 60 (fun x => x = 0))) (m_bt 39 (m_lf 38 (s_ald 39 0)) (m_lf 39 (s_ald 41 5)))) (m_bt 47 (m_bt 44 (m_lf 41 (s_callV 44 2 1 wX1_hasPlace)) (m_lf 44 (s_if 47 60 (fun x => x = 0)))) (m_bt 48 (m_lf 47 (s_ild 48 2)) (m_lf 48 (s_ald 50 5))))))) (m_bt 75 (m_bt 63 (m_bt 57 (m_bt 53 (m_lf 50 (s_get 53 3 10)) (m_bt 56 (m_lf 53 (s_icmp 56 60 (fun x y => x < y))) (m_lf 56 (s_push 57 (.inl (1)))))) (m_bt 60 (m_lf 57 (s_goto 61)) (m_bt 61 (m_lf 60 (s_push 61 (.inl (0)))) (m_lf 61 (s_ist 63 6))))) (m_bt 69 (m_bt 65 (m_lf 63 (s_ild 65 6)) (m_bt 68 (m_lf 65 (s_if 68 91 (fun x => x = 0))) (m_lf 68 (s_ild 69 3)))) (m_bt 72 (m_lf 69 (s_if 72 88 (fun x => x < 0))) (m_bt 73 (m_lf 72 (s_ald 73 0)) (m_lf 73 (s_ald 75 5)))))) (m_bt 85 (m_bt 80 (m_bt 76 (m_lf 75 (s_ald 76 0)) (m_bt 79 (m_lf 76 (s_get 79 1 3)) (m_lf 79 (s_ild 80 3)))) (m_bt 81 (m_lf 80 (s_aald 81)) (m_bt 82 (m_lf 81 (s_ild 82 2)) (m_lf 82 (s_callV 85 4 1 wX1_isBetter))))) (m_bt 91 (m_bt 88 (m_lf 85 (s_if 88 91 (fun x => x = 0))) (m_bt 90 (m_lf 88 (s_ild 90 4)) (m_lf 90 (s_ist 91 3)))) (m_bt 97 (m_bt 94 (m_lf 91 (s_inc 94 4 (1))) (m_lf 94 (s_goto 5))) (m_bt 98 (m_lf 97 (s_ild 98 3)) (m_lf 98 (s_ret)))))))
theorem kX1_choose_0 : kX1_choose 0 = some (s_push 1 (.inl (-1))) := rfl
theorem kX1_choose_1 : kX1_choose 1 = some (s_ist 2 3) := rfl
theorem kX1_choose_2 : kX1_choose 2 = some (s_push 3 (.inl (0))) := rfl
theorem kX1_choose_3 : kX1_choose 3 = some (s_ist 5 4) := rfl
theorem kX1_choose_5 : kX1_choose 5 = some (s_ild 7 4) := rfl
theorem kX1_choose_7 : kX1_choose 7 = some (s_ald 8 0) := rfl
theorem kX1_choose_8 : kX1_choose 8 = some (s_get 11 1 7) := rfl
theorem kX1_choose_11 : kX1_choose 11 = some (s_get 14 2 1) := rfl
theorem kX1_choose_14 : kX1_choose 14 = some (s_icmp 17 97 (fun x y => y ≤ x)) := rfl
theorem kX1_choose_17 : kX1_choose 17 = some (s_ald 18 0) := rfl
theorem kX1_choose_18 : kX1_choose 18 = some (s_get 21 1 3) := rfl
theorem kX1_choose_21 : kX1_choose 21 = some (s_ild 23 4) := rfl
theorem kX1_choose_23 : kX1_choose 23 = some (s_aald 24) := rfl
theorem kX1_choose_24 : kX1_choose 24 = some (s_ast 26 5) := rfl
theorem kX1_choose_26 : kX1_choose 26 = some (s_ald 28 5) := rfl
theorem kX1_choose_28 : kX1_choose 28 = some (s_get 31 3 8) := rfl
theorem kX1_choose_31 : kX1_choose 31 = some (s_ild 32 1) := rfl
theorem kX1_choose_32 : kX1_choose 32 = some (s_callS 35 2 wX8_hasBit) := rfl
theorem kX1_choose_35 : kX1_choose 35 = some (s_if 38 60 (fun x => x = 0)) := rfl
theorem kX1_choose_38 : kX1_choose 38 = some (s_ald 39 0) := rfl
theorem kX1_choose_39 : kX1_choose 39 = some (s_ald 41 5) := rfl
theorem kX1_choose_41 : kX1_choose 41 = some (s_callV 44 2 1 wX1_hasPlace) := rfl
theorem kX1_choose_44 : kX1_choose 44 = some (s_if 47 60 (fun x => x = 0)) := rfl
theorem kX1_choose_47 : kX1_choose 47 = some (s_ild 48 2) := rfl
theorem kX1_choose_48 : kX1_choose 48 = some (s_ald 50 5) := rfl
theorem kX1_choose_50 : kX1_choose 50 = some (s_get 53 3 10) := rfl
theorem kX1_choose_53 : kX1_choose 53 = some (s_icmp 56 60 (fun x y => x < y)) := rfl
theorem kX1_choose_56 : kX1_choose 56 = some (s_push 57 (.inl (1))) := rfl
theorem kX1_choose_57 : kX1_choose 57 = some (s_goto 61) := rfl
theorem kX1_choose_60 : kX1_choose 60 = some (s_push 61 (.inl (0))) := rfl
theorem kX1_choose_61 : kX1_choose 61 = some (s_ist 63 6) := rfl
theorem kX1_choose_63 : kX1_choose 63 = some (s_ild 65 6) := rfl
theorem kX1_choose_65 : kX1_choose 65 = some (s_if 68 91 (fun x => x = 0)) := rfl
theorem kX1_choose_68 : kX1_choose 68 = some (s_ild 69 3) := rfl
theorem kX1_choose_69 : kX1_choose 69 = some (s_if 72 88 (fun x => x < 0)) := rfl
theorem kX1_choose_72 : kX1_choose 72 = some (s_ald 73 0) := rfl
theorem kX1_choose_73 : kX1_choose 73 = some (s_ald 75 5) := rfl
theorem kX1_choose_75 : kX1_choose 75 = some (s_ald 76 0) := rfl
theorem kX1_choose_76 : kX1_choose 76 = some (s_get 79 1 3) := rfl
theorem kX1_choose_79 : kX1_choose 79 = some (s_ild 80 3) := rfl
theorem kX1_choose_80 : kX1_choose 80 = some (s_aald 81) := rfl
theorem kX1_choose_81 : kX1_choose 81 = some (s_ild 82 2) := rfl
theorem kX1_choose_82 : kX1_choose 82 = some (s_callV 85 4 1 wX1_isBetter) := rfl
theorem kX1_choose_85 : kX1_choose 85 = some (s_if 88 91 (fun x => x = 0)) := rfl
theorem kX1_choose_88 : kX1_choose 88 = some (s_ild 90 4) := rfl
theorem kX1_choose_90 : kX1_choose 90 = some (s_ist 91 3) := rfl
theorem kX1_choose_91 : kX1_choose 91 = some (s_inc 94 4 (1)) := rfl
theorem kX1_choose_94 : kX1_choose 94 = some (s_goto 5) := rfl
theorem kX1_choose_97 : kX1_choose 97 = some (s_ild 98 3) := rfl
theorem kX1_choose_98 : kX1_choose 98 = some (s_ret) := rfl
def wX1_choose : m_GK := m_wp 7 kX1_choose
set_option maxRecDepth 100000 in
set_option maxHeartbeats 4000000 in
theorem sX1_choose (l : Launch) (X : m_X) (hX : m_inj X.1) : m_Sound l X 3 yX1_choose cX1_choose 7 (some .int) wX1_choose := m_sound_of hX (by decide) (fun p e s m args below meth c q C hr => m_bt_all (m_bt_all (m_bt_all (m_bt_all (m_bt_all (m_lf_all (o_iconst C (x := (-1)) (m_rngd rfl) dX1_choose_0 rfl)) (m_bt_all (m_lf_all (o_istore_n C (i := 3) rfl dX1_choose_1 rfl)) (m_lf_all (o_iconst C (x := (0)) (m_rngd rfl) dX1_choose_2 rfl)))) (m_bt_all (m_lf_all (o_istore C dX1_choose_3 rfl)) (m_bt_all (m_lf_all (o_iload C dX1_choose_5 rfl)) (m_lf_all (o_aload_n C (i := 0) rfl dX1_choose_7 rfl))))) (m_bt_all (m_bt_all (m_lf_all (o_get C (ci := 1) (k := 7) (N := 11) (rf := RX1) (T := TX1) rfl ginX1 (Nat.le_of_ble_eq_true rfl) (m_tb_of 293 (by decide +kernel) rfl) dX1_choose_8 rfl)) (m_bt_all (m_lf_all (o_get C (ci := 2) (k := 1) (N := 8) (rf := RX2) (T := TX2) rfl ginX2 (Nat.le_of_ble_eq_true rfl) (m_tb_of 112 (by decide +kernel) rfl) dX1_choose_11 rfl)) (m_lf_all (o_icmp_ge C dX1_choose_14 rfl rfl)))) (m_bt_all (m_lf_all (o_aload_n C (i := 0) rfl dX1_choose_17 rfl)) (m_bt_all (m_lf_all (o_get C (ci := 1) (k := 3) (N := 11) (rf := RX1) (T := TX1) rfl ginX1 (Nat.le_of_ble_eq_true rfl) (m_tb_of 286 (by decide +kernel) rfl) dX1_choose_18 rfl)) (m_lf_all (o_iload C dX1_choose_21 rfl)))))) (m_bt_all (m_bt_all (m_bt_all (m_lf_all (o_aald C dX1_choose_23 rfl)) (m_bt_all (m_lf_all (o_astore C dX1_choose_24 rfl)) (m_lf_all (o_aload C dX1_choose_26 rfl)))) (m_bt_all (m_lf_all (o_get C (ci := 3) (k := 8) (N := 12) (rf := RX3) (T := TX3) rfl ginX3 (Nat.le_of_ble_eq_true rfl) (m_tb_of 206 (by decide +kernel) rfl) dX1_choose_28 rfl)) (m_bt_all (m_lf_all (o_iload_n C (i := 1) rfl dX1_choose_31 rfl)) (m_lf_all (o_callN C (sX8_hasBit l X hX) (fun h => h.2.1.1) (m_in_of [657, 72] (by decide +kernel) (by decide +kernel)) (m_tb_of 658 (by decide +kernel) rfl) (by decide +kernel) ⟨Nat.le_of_ble_eq_true rfl, Nat.le_of_ble_eq_true rfl⟩ dX1_choose_32 rfl))))) (m_bt_all (m_bt_all (m_lf_all (o_if_eq C dX1_choose_35 rfl rfl)) (m_bt_all (m_lf_all (o_aload_n C (i := 0) rfl dX1_choose_38 rfl)) (m_lf_all (o_aload C dX1_choose_39 rfl)))) (m_bt_all (m_bt_all (m_lf_all (o_callV C (T := TX1) (N := 11) (sX1_hasPlace l X hX) rfl (m_in_of [659, 661, 15, 75] (by decide +kernel) (by decide +kernel)) (m_tb_of 662 (by decide +kernel) rfl) (by decide +kernel) rfl ⟨Nat.le_of_ble_eq_true rfl, Nat.le_of_ble_eq_true rfl⟩ dX1_choose_41 rfl)) (m_lf_all (o_if_eq C dX1_choose_44 rfl rfl))) (m_bt_all (m_lf_all (o_iload_n C (i := 2) rfl dX1_choose_47 rfl)) (m_lf_all (o_aload C dX1_choose_48 rfl))))))) (m_bt_all (m_bt_all (m_bt_all (m_bt_all (m_lf_all (o_get C (ci := 3) (k := 10) (N := 12) (rf := RX3) (T := TX3) rfl ginX3 (Nat.le_of_ble_eq_true rfl) (m_tb_of 210 (by decide +kernel) rfl) dX1_choose_50 rfl)) (m_bt_all (m_lf_all (o_icmp_lt C dX1_choose_53 rfl rfl)) (m_lf_all (o_iconst C (x := (1)) (m_rngd rfl) dX1_choose_56 rfl)))) (m_bt_all (m_lf_all (o_goto C dX1_choose_57 rfl)) (m_bt_all (m_lf_all (o_iconst C (x := (0)) (m_rngd rfl) dX1_choose_60 rfl)) (m_lf_all (o_istore C dX1_choose_61 rfl))))) (m_bt_all (m_bt_all (m_lf_all (o_iload C dX1_choose_63 rfl)) (m_bt_all (m_lf_all (o_if_eq C dX1_choose_65 rfl rfl)) (m_lf_all (o_iload_n C (i := 3) rfl dX1_choose_68 rfl)))) (m_bt_all (m_lf_all (o_if_lt C dX1_choose_69 rfl rfl)) (m_bt_all (m_lf_all (o_aload_n C (i := 0) rfl dX1_choose_72 rfl)) (m_lf_all (o_aload C dX1_choose_73 rfl)))))) (m_bt_all (m_bt_all (m_bt_all (m_lf_all (o_aload_n C (i := 0) rfl dX1_choose_75 rfl)) (m_bt_all (m_lf_all (o_get C (ci := 1) (k := 3) (N := 11) (rf := RX1) (T := TX1) rfl ginX1 (Nat.le_of_ble_eq_true rfl) (m_tb_of 286 (by decide +kernel) rfl) dX1_choose_76 rfl)) (m_lf_all (o_iload_n C (i := 3) rfl dX1_choose_79 rfl)))) (m_bt_all (m_lf_all (o_aald C dX1_choose_80 rfl)) (m_bt_all (m_lf_all (o_iload_n C (i := 2) rfl dX1_choose_81 rfl)) (m_lf_all (o_callV C (T := TX1) (N := 11) (sX1_isBetter l X hX) rfl (m_in_of [663, 665, 16, 75] (by decide +kernel) (by decide +kernel)) (m_tb_of 666 (by decide +kernel) rfl) (by decide +kernel) rfl ⟨Nat.le_of_ble_eq_true rfl, Nat.le_of_ble_eq_true rfl⟩ dX1_choose_82 rfl))))) (m_bt_all (m_bt_all (m_lf_all (o_if_eq C dX1_choose_85 rfl rfl)) (m_bt_all (m_lf_all (o_iload C dX1_choose_88 rfl)) (m_lf_all (o_istore_n C (i := 3) rfl dX1_choose_90 rfl)))) (m_bt_all (m_bt_all (m_lf_all (o_iinc C dX1_choose_91 rfl)) (m_lf_all (o_goto C dX1_choose_94 rfl))) (m_bt_all (m_lf_all (o_iload_n C (i := 3) rfl dX1_choose_97 rfl)) (m_lf_all (o_iret C hr dX1_choose_98))))))))
set_option maxRecDepth 20000 in
def kX3_join : m_C := m_bt 33 (m_bt 18 (m_bt 8 (m_bt 4 (m_bt 1 (m_lf 0 (s_ald 1 0)) (m_lf 1 (s_get 4 3 11))) (m_bt 7 (m_lf 4 (s_if 7 27 (fun x => x < 0))) (m_lf 7 (s_ald 8 0)))) (m_bt 14 (m_bt 11 (m_lf 8 (s_get 11 3 0)) (m_lf 11 (s_if 14 27 (fun x => x ≤ 0)))) (m_bt 15 (m_lf 14 (s_ald 15 1)) (m_lf 15 (s_get 18 0 4))))) (m_bt 24 (m_bt 22 (m_bt 19 (m_lf 18 (s_ald 19 0)) (m_lf 19 (s_get 22 3 11))) (m_bt 23 (m_lf 22 (s_ild 23 2)) (m_lf 23 (s_iast 24)))) (m_bt 28 (m_bt 27 (m_lf 24 (s_goto 32)) (m_lf 27 (s_ald 28 0))) (m_bt 29 (m_lf 28 (s_ild 29 2)) (m_bt 32 (m_lf 29 (s_put 32 3 7)) (m_lf 32 (s_ald 33 0))))))) (m_bt 48 (m_bt 39 (m_bt 37 (m_bt 34 (m_lf 33 (s_ild 34 2)) (m_lf 34 (s_put 37 3 11))) (m_bt 38 (m_lf 37 (s_ald 38 0)) (m_lf 38 (s_dup 39)))) (m_bt 43 (m_bt 42 (m_lf 39 (s_get 42 3 0)) (m_lf 42 (s_push 43 (.inl (1))))) (m_bt 44 (m_lf 43 (s_bin 44 (fun x y => m_wrap (x + y)))) (m_bt 47 (m_lf 44 (s_put 47 3 0)) (m_lf 47 (s_ald 48 0)))))) (m_bt 56 (m_bt 52 (m_bt 49 (m_lf 48 (s_dup 49)) (m_lf 49 (s_get 52 3 1))) (m_bt 53 (m_lf 52 (s_ald 53 1)) (m_lf 53 (s_get 56 0 3)))) (m_bt 58 (m_bt 57 (m_lf 56 (s_ild 57 2)) (m_lf 57 (s_iald 58))) (m_bt 59 (m_lf 58 (s_bin 59 (fun x y => m_wrap (x + y)))) (m_bt 62 (m_lf 59 (s_put 62 3 1)) (m_lf 62 (s_retv)))))))
theorem kX3_join_0 : kX3_join 0 = some (s_ald 1 0) := rfl
theorem kX3_join_1 : kX3_join 1 = some (s_get 4 3 11) := rfl
theorem kX3_join_4 : kX3_join 4 = some (s_if 7 27 (fun x => x < 0)) := rfl
theorem kX3_join_7 : kX3_join 7 = some (s_ald 8 0) := rfl
theorem kX3_join_8 : kX3_join 8 = some (s_get 11 3 0) := rfl
theorem kX3_join_11 : kX3_join 11 = some (s_if 14 27 (fun x => x ≤ 0)) := rfl
theorem kX3_join_14 : kX3_join 14 = some (s_ald 15 1) := rfl
theorem kX3_join_15 : kX3_join 15 = some (s_get 18 0 4) := rfl
theorem kX3_join_18 : kX3_join 18 = some (s_ald 19 0) := rfl
theorem kX3_join_19 : kX3_join 19 = some (s_get 22 3 11) := rfl
theorem kX3_join_22 : kX3_join 22 = some (s_ild 23 2) := rfl
theorem kX3_join_23 : kX3_join 23 = some (s_iast 24) := rfl
theorem kX3_join_24 : kX3_join 24 = some (s_goto 32) := rfl
theorem kX3_join_27 : kX3_join 27 = some (s_ald 28 0) := rfl
theorem kX3_join_28 : kX3_join 28 = some (s_ild 29 2) := rfl
theorem kX3_join_29 : kX3_join 29 = some (s_put 32 3 7) := rfl
theorem kX3_join_32 : kX3_join 32 = some (s_ald 33 0) := rfl
theorem kX3_join_33 : kX3_join 33 = some (s_ild 34 2) := rfl
theorem kX3_join_34 : kX3_join 34 = some (s_put 37 3 11) := rfl
theorem kX3_join_37 : kX3_join 37 = some (s_ald 38 0) := rfl
theorem kX3_join_38 : kX3_join 38 = some (s_dup 39) := rfl
theorem kX3_join_39 : kX3_join 39 = some (s_get 42 3 0) := rfl
theorem kX3_join_42 : kX3_join 42 = some (s_push 43 (.inl (1))) := rfl
theorem kX3_join_43 : kX3_join 43 = some (s_bin 44 (fun x y => m_wrap (x + y))) := rfl
theorem kX3_join_44 : kX3_join 44 = some (s_put 47 3 0) := rfl
theorem kX3_join_47 : kX3_join 47 = some (s_ald 48 0) := rfl
theorem kX3_join_48 : kX3_join 48 = some (s_dup 49) := rfl
theorem kX3_join_49 : kX3_join 49 = some (s_get 52 3 1) := rfl
theorem kX3_join_52 : kX3_join 52 = some (s_ald 53 1) := rfl
theorem kX3_join_53 : kX3_join 53 = some (s_get 56 0 3) := rfl
theorem kX3_join_56 : kX3_join 56 = some (s_ild 57 2) := rfl
theorem kX3_join_57 : kX3_join 57 = some (s_iald 58) := rfl
theorem kX3_join_58 : kX3_join 58 = some (s_bin 59 (fun x y => m_wrap (x + y))) := rfl
theorem kX3_join_59 : kX3_join 59 = some (s_put 62 3 1) := rfl
theorem kX3_join_62 : kX3_join 62 = some (s_retv) := rfl
def wX3_join : m_GK := m_wp 3 kX3_join
set_option maxRecDepth 100000 in
set_option maxHeartbeats 4000000 in
theorem sX3_join (l : Launch) (X : m_X) (hX : m_inj X.1) : m_Sound l X 1 yX3_join cX3_join 3 none wX3_join := m_sound_of hX (by decide) (fun p e s m args below meth c q C hr => m_bt_all (m_bt_all (m_bt_all (m_bt_all (m_bt_all (m_lf_all (o_aload_n C (i := 0) rfl dX3_join_0 rfl)) (m_lf_all (o_get C (ci := 3) (k := 11) (N := 12) (rf := RX3) (T := TX3) rfl ginX3 (Nat.le_of_ble_eq_true rfl) (m_tb_of 211 (by decide +kernel) rfl) dX3_join_1 rfl))) (m_bt_all (m_lf_all (o_if_lt C dX3_join_4 rfl rfl)) (m_lf_all (o_aload_n C (i := 0) rfl dX3_join_7 rfl)))) (m_bt_all (m_bt_all (m_lf_all (o_get C (ci := 3) (k := 0) (N := 12) (rf := RX3) (T := TX3) rfl ginX3 (Nat.le_of_ble_eq_true rfl) (m_tb_of 189 (by decide +kernel) rfl) dX3_join_8 rfl)) (m_lf_all (o_if_le C dX3_join_11 rfl rfl))) (m_bt_all (m_lf_all (o_aload_n C (i := 1) rfl dX3_join_14 rfl)) (m_lf_all (o_get C (ci := 0) (k := 4) (N := 8) (rf := RX0) (T := TX0) rfl ginX0 (Nat.le_of_ble_eq_true rfl) (m_tb_of 254 (by decide +kernel) rfl) dX3_join_15 rfl))))) (m_bt_all (m_bt_all (m_bt_all (m_lf_all (o_aload_n C (i := 0) rfl dX3_join_18 rfl)) (m_lf_all (o_get C (ci := 3) (k := 11) (N := 12) (rf := RX3) (T := TX3) rfl ginX3 (Nat.le_of_ble_eq_true rfl) (m_tb_of 211 (by decide +kernel) rfl) dX3_join_19 rfl))) (m_bt_all (m_lf_all (o_iload_n C (i := 2) rfl dX3_join_22 rfl)) (m_lf_all (o_iast C dX3_join_23 rfl)))) (m_bt_all (m_bt_all (m_lf_all (o_goto C dX3_join_24 rfl)) (m_lf_all (o_aload_n C (i := 0) rfl dX3_join_27 rfl))) (m_bt_all (m_lf_all (o_iload_n C (i := 2) rfl dX3_join_28 rfl)) (m_bt_all (m_lf_all (o_put C (ci := 3) (k := 7) (N := 12) (rf := RX3) (T := TX3) rfl ginX3 (Nat.le_of_ble_eq_true rfl) (m_tb_of 203 (by decide +kernel) rfl) (ty0 := tyX3) tyX3_ok nmX3 rfl rfl dX3_join_29 rfl)) (m_lf_all (o_aload_n C (i := 0) rfl dX3_join_32 rfl))))))) (m_bt_all (m_bt_all (m_bt_all (m_bt_all (m_lf_all (o_iload_n C (i := 2) rfl dX3_join_33 rfl)) (m_lf_all (o_put C (ci := 3) (k := 11) (N := 12) (rf := RX3) (T := TX3) rfl ginX3 (Nat.le_of_ble_eq_true rfl) (m_tb_of 211 (by decide +kernel) rfl) (ty0 := tyX3) tyX3_ok nmX3 rfl rfl dX3_join_34 rfl))) (m_bt_all (m_lf_all (o_aload_n C (i := 0) rfl dX3_join_37 rfl)) (m_lf_all (o_dup C dX3_join_38 rfl)))) (m_bt_all (m_bt_all (m_lf_all (o_get C (ci := 3) (k := 0) (N := 12) (rf := RX3) (T := TX3) rfl ginX3 (Nat.le_of_ble_eq_true rfl) (m_tb_of 189 (by decide +kernel) rfl) dX3_join_39 rfl)) (m_lf_all (o_iconst C (x := (1)) (m_rngd rfl) dX3_join_42 rfl))) (m_bt_all (m_lf_all (o_iadd C dX3_join_43 rfl)) (m_bt_all (m_lf_all (o_put C (ci := 3) (k := 0) (N := 12) (rf := RX3) (T := TX3) rfl ginX3 (Nat.le_of_ble_eq_true rfl) (m_tb_of 189 (by decide +kernel) rfl) (ty0 := tyX3) tyX3_ok nmX3 rfl rfl dX3_join_44 rfl)) (m_lf_all (o_aload_n C (i := 0) rfl dX3_join_47 rfl)))))) (m_bt_all (m_bt_all (m_bt_all (m_lf_all (o_dup C dX3_join_48 rfl)) (m_lf_all (o_get C (ci := 3) (k := 1) (N := 12) (rf := RX3) (T := TX3) rfl ginX3 (Nat.le_of_ble_eq_true rfl) (m_tb_of 191 (by decide +kernel) rfl) dX3_join_49 rfl))) (m_bt_all (m_lf_all (o_aload_n C (i := 1) rfl dX3_join_52 rfl)) (m_lf_all (o_get C (ci := 0) (k := 3) (N := 8) (rf := RX0) (T := TX0) rfl ginX0 (Nat.le_of_ble_eq_true rfl) (m_tb_of 251 (by decide +kernel) rfl) dX3_join_53 rfl)))) (m_bt_all (m_bt_all (m_lf_all (o_iload_n C (i := 2) rfl dX3_join_56 rfl)) (m_lf_all (o_iald C dX3_join_57 rfl))) (m_bt_all (m_lf_all (o_iadd C dX3_join_58 rfl)) (m_bt_all (m_lf_all (o_put C (ci := 3) (k := 1) (N := 12) (rf := RX3) (T := TX3) rfl ginX3 (Nat.le_of_ble_eq_true rfl) (m_tb_of 191 (by decide +kernel) rfl) (ty0 := tyX3) tyX3_ok nmX3 rfl rfl dX3_join_59 rfl)) (m_lf_all (o_vret C hr dX3_join_62))))))))
set_option maxRecDepth 20000 in
def kX1_admit : m_C := m_bt 63 (m_bt 34 (m_bt 15 (m_bt 6 (m_bt 4 (m_bt 1 (m_lf 0 (s_ald 1 0)) (m_lf 1 (s_callV 4 1 1 wX1_countStray))) (m_bt 5 (m_lf 4 (s_ist 5 3)) (m_lf 5 (s_ald 6 0)))) (m_bt 10 (m_bt 7 (m_lf 6 (s_ald 7 0)) (m_lf 7 (s_get 10 1 6))) (m_bt 13 (m_lf 10 (s_get 13 0 1)) (m_bt 14 (m_lf 13 (s_ild 14 1)) (m_lf 14 (s_iald 15)))))) (m_bt 23 (m_bt 19 (m_bt 16 (m_lf 15 (s_ild 16 2)) (m_lf 16 (s_callV 19 3 1 wX1_choose))) (m_bt 21 (m_lf 19 (s_ist 21 4)) (m_lf 21 (s_ild 23 4)))) (m_bt 27 (m_bt 26 (m_lf 23 (s_if 26 45 (fun x => 0 ≤ x))) (m_lf 26 (s_ald 27 0))) (m_bt 30 (m_lf 27 (s_get 30 1 2)) (m_bt 31 (m_lf 30 (s_ald 31 0)) (m_lf 31 (s_get 34 1 6))))))) (m_bt 45 (m_bt 40 (m_bt 38 (m_bt 37 (m_lf 34 (s_get 37 0 1)) (m_lf 37 (s_ild 38 1))) (m_bt 39 (m_lf 38 (s_iald 39)) (m_lf 39 (s_dup2 40)))) (m_bt 42 (m_bt 41 (m_lf 40 (s_iald 41)) (m_lf 41 (s_push 42 (.inl (1))))) (m_bt 43 (m_lf 42 (s_bin 43 (fun x y => m_wrap (x + y)))) (m_bt 44 (m_lf 43 (s_iast 44)) (m_lf 44 (s_retv)))))) (m_bt 53 (m_bt 48 (m_bt 47 (m_lf 45 (s_ild 47 4)) (m_lf 47 (s_push 48 (.inl (1))))) (m_bt 49 (m_lf 48 (s_bin 49 (fun x y => m_wrap (x + y)))) (m_bt 50 (m_lf 49 (s_ald 50 0)) (m_lf 50 (s_get 53 1 7))))) (m_bt 59 (m_bt 56 (m_lf 53 (s_get 56 2 1)) (m_lf 56 (s_icmp 59 66 (fun x y => y ≤ x)))) (m_bt 61 (m_lf 59 (s_ild 61 4)) (m_bt 62 (m_lf 61 (s_push 62 (.inl (1)))) (m_lf 62 (s_bin 63 (fun x y => m_wrap (x + y)))))))))) (m_bt 102 (m_bt 81 (m_bt 70 (m_bt 67 (m_bt 66 (m_lf 63 (s_goto 67)) (m_lf 66 (s_push 67 (.inl (0))))) (m_bt 69 (m_lf 67 (s_ist 69 5)) (m_lf 69 (s_ild 70 3)))) (m_bt 75 (m_bt 73 (m_lf 70 (s_if 73 118 (fun x => x = 0))) (m_lf 73 (s_ild 75 5))) (m_bt 77 (m_lf 75 (s_ild 77 4)) (m_bt 80 (m_lf 77 (s_icmp 80 118 (fun x y => x = y))) (m_lf 80 (s_ald 81 0)))))) (m_bt 91 (m_bt 85 (m_bt 82 (m_lf 81 (s_ald 82 0)) (m_lf 82 (s_get 85 1 3))) (m_bt 87 (m_lf 85 (s_ild 87 5)) (m_bt 88 (m_lf 87 (s_aald 88)) (m_lf 88 (s_callV 91 2 1 wX1_hasPlace))))) (m_bt 95 (m_bt 94 (m_lf 91 (s_if 94 118 (fun x => x = 0))) (m_lf 94 (s_ald 95 0))) (m_bt 98 (m_lf 95 (s_get 98 1 6)) (m_bt 101 (m_lf 98 (s_get 101 0 5)) (m_lf 101 (s_ild 102 1))))))) (m_bt 116 (m_bt 106 (m_bt 104 (m_bt 103 (m_lf 102 (s_push 103 (.inl (1)))) (m_lf 103 (s_zast 104))) (m_bt 105 (m_lf 104 (s_ald 105 0)) (m_lf 105 (s_dup 106)))) (m_bt 110 (m_bt 109 (m_lf 106 (s_get 109 1 4)) (m_lf 109 (s_push 110 (.inl (1))))) (m_bt 111 (m_lf 110 (s_bin 111 (fun x y => m_wrap (x + y)))) (m_bt 114 (m_lf 111 (s_put 114 1 4)) (m_lf 114 (s_ild 116 5)))))) (m_bt 125 (m_bt 119 (m_bt 118 (m_lf 116 (s_ist 118 4)) (m_lf 118 (s_ald 119 0))) (m_bt 122 (m_lf 119 (s_get 122 1 3)) (m_bt 124 (m_lf 122 (s_ild 124 4)) (m_lf 124 (s_aald 125))))) (m_bt 129 (m_bt 126 (m_lf 125 (s_ald 126 0)) (m_lf 126 (s_get 129 1 6))) (m_bt 130 (m_lf 129 (s_ild 130 1)) (m_bt 133 (m_lf 130 (s_callV 133 3 3 wX3_join)) (m_lf 133 (s_retv))))))))
theorem kX1_admit_0 : kX1_admit 0 = some (s_ald 1 0) := rfl
theorem kX1_admit_1 : kX1_admit 1 = some (s_callV 4 1 1 wX1_countStray) := rfl
theorem kX1_admit_4 : kX1_admit 4 = some (s_ist 5 3) := rfl
theorem kX1_admit_5 : kX1_admit 5 = some (s_ald 6 0) := rfl
theorem kX1_admit_6 : kX1_admit 6 = some (s_ald 7 0) := rfl
theorem kX1_admit_7 : kX1_admit 7 = some (s_get 10 1 6) := rfl
theorem kX1_admit_10 : kX1_admit 10 = some (s_get 13 0 1) := rfl
theorem kX1_admit_13 : kX1_admit 13 = some (s_ild 14 1) := rfl
theorem kX1_admit_14 : kX1_admit 14 = some (s_iald 15) := rfl
theorem kX1_admit_15 : kX1_admit 15 = some (s_ild 16 2) := rfl
theorem kX1_admit_16 : kX1_admit 16 = some (s_callV 19 3 1 wX1_choose) := rfl
theorem kX1_admit_19 : kX1_admit 19 = some (s_ist 21 4) := rfl
theorem kX1_admit_21 : kX1_admit 21 = some (s_ild 23 4) := rfl
theorem kX1_admit_23 : kX1_admit 23 = some (s_if 26 45 (fun x => 0 ≤ x)) := rfl
theorem kX1_admit_26 : kX1_admit 26 = some (s_ald 27 0) := rfl
theorem kX1_admit_27 : kX1_admit 27 = some (s_get 30 1 2) := rfl
theorem kX1_admit_30 : kX1_admit 30 = some (s_ald 31 0) := rfl
theorem kX1_admit_31 : kX1_admit 31 = some (s_get 34 1 6) := rfl
theorem kX1_admit_34 : kX1_admit 34 = some (s_get 37 0 1) := rfl
theorem kX1_admit_37 : kX1_admit 37 = some (s_ild 38 1) := rfl
theorem kX1_admit_38 : kX1_admit 38 = some (s_iald 39) := rfl
theorem kX1_admit_39 : kX1_admit 39 = some (s_dup2 40) := rfl
theorem kX1_admit_40 : kX1_admit 40 = some (s_iald 41) := rfl
theorem kX1_admit_41 : kX1_admit 41 = some (s_push 42 (.inl (1))) := rfl
theorem kX1_admit_42 : kX1_admit 42 = some (s_bin 43 (fun x y => m_wrap (x + y))) := rfl
theorem kX1_admit_43 : kX1_admit 43 = some (s_iast 44) := rfl
theorem kX1_admit_44 : kX1_admit 44 = some (s_retv) := rfl
theorem kX1_admit_45 : kX1_admit 45 = some (s_ild 47 4) := rfl
theorem kX1_admit_47 : kX1_admit 47 = some (s_push 48 (.inl (1))) := rfl
theorem kX1_admit_48 : kX1_admit 48 = some (s_bin 49 (fun x y => m_wrap (x + y))) := rfl
theorem kX1_admit_49 : kX1_admit 49 = some (s_ald 50 0) := rfl
theorem kX1_admit_50 : kX1_admit 50 = some (s_get 53 1 7) := rfl
theorem kX1_admit_53 : kX1_admit 53 = some (s_get 56 2 1) := rfl
theorem kX1_admit_56 : kX1_admit 56 = some (s_icmp 59 66 (fun x y => y ≤ x)) := rfl
theorem kX1_admit_59 : kX1_admit 59 = some (s_ild 61 4) := rfl
theorem kX1_admit_61 : kX1_admit 61 = some (s_push 62 (.inl (1))) := rfl
theorem kX1_admit_62 : kX1_admit 62 = some (s_bin 63 (fun x y => m_wrap (x + y))) := rfl
theorem kX1_admit_63 : kX1_admit 63 = some (s_goto 67) := rfl
theorem kX1_admit_66 : kX1_admit 66 = some (s_push 67 (.inl (0))) := rfl
theorem kX1_admit_67 : kX1_admit 67 = some (s_ist 69 5) := rfl
theorem kX1_admit_69 : kX1_admit 69 = some (s_ild 70 3) := rfl
theorem kX1_admit_70 : kX1_admit 70 = some (s_if 73 118 (fun x => x = 0)) := rfl
theorem kX1_admit_73 : kX1_admit 73 = some (s_ild 75 5) := rfl
theorem kX1_admit_75 : kX1_admit 75 = some (s_ild 77 4) := rfl
theorem kX1_admit_77 : kX1_admit 77 = some (s_icmp 80 118 (fun x y => x = y)) := rfl
theorem kX1_admit_80 : kX1_admit 80 = some (s_ald 81 0) := rfl
theorem kX1_admit_81 : kX1_admit 81 = some (s_ald 82 0) := rfl
theorem kX1_admit_82 : kX1_admit 82 = some (s_get 85 1 3) := rfl
theorem kX1_admit_85 : kX1_admit 85 = some (s_ild 87 5) := rfl
theorem kX1_admit_87 : kX1_admit 87 = some (s_aald 88) := rfl
theorem kX1_admit_88 : kX1_admit 88 = some (s_callV 91 2 1 wX1_hasPlace) := rfl
theorem kX1_admit_91 : kX1_admit 91 = some (s_if 94 118 (fun x => x = 0)) := rfl
theorem kX1_admit_94 : kX1_admit 94 = some (s_ald 95 0) := rfl
theorem kX1_admit_95 : kX1_admit 95 = some (s_get 98 1 6) := rfl
theorem kX1_admit_98 : kX1_admit 98 = some (s_get 101 0 5) := rfl
theorem kX1_admit_101 : kX1_admit 101 = some (s_ild 102 1) := rfl
theorem kX1_admit_102 : kX1_admit 102 = some (s_push 103 (.inl (1))) := rfl
theorem kX1_admit_103 : kX1_admit 103 = some (s_zast 104) := rfl
theorem kX1_admit_104 : kX1_admit 104 = some (s_ald 105 0) := rfl
theorem kX1_admit_105 : kX1_admit 105 = some (s_dup 106) := rfl
theorem kX1_admit_106 : kX1_admit 106 = some (s_get 109 1 4) := rfl
theorem kX1_admit_109 : kX1_admit 109 = some (s_push 110 (.inl (1))) := rfl
theorem kX1_admit_110 : kX1_admit 110 = some (s_bin 111 (fun x y => m_wrap (x + y))) := rfl
theorem kX1_admit_111 : kX1_admit 111 = some (s_put 114 1 4) := rfl
theorem kX1_admit_114 : kX1_admit 114 = some (s_ild 116 5) := rfl
theorem kX1_admit_116 : kX1_admit 116 = some (s_ist 118 4) := rfl
theorem kX1_admit_118 : kX1_admit 118 = some (s_ald 119 0) := rfl
theorem kX1_admit_119 : kX1_admit 119 = some (s_get 122 1 3) := rfl
theorem kX1_admit_122 : kX1_admit 122 = some (s_ild 124 4) := rfl
theorem kX1_admit_124 : kX1_admit 124 = some (s_aald 125) := rfl
theorem kX1_admit_125 : kX1_admit 125 = some (s_ald 126 0) := rfl
theorem kX1_admit_126 : kX1_admit 126 = some (s_get 129 1 6) := rfl
theorem kX1_admit_129 : kX1_admit 129 = some (s_ild 130 1) := rfl
theorem kX1_admit_130 : kX1_admit 130 = some (s_callV 133 3 3 wX3_join) := rfl
theorem kX1_admit_133 : kX1_admit 133 = some (s_retv) := rfl
def wX1_admit : m_GK := m_wp 6 kX1_admit
set_option maxRecDepth 100000 in
set_option maxHeartbeats 4000000 in
theorem sX1_admit (l : Launch) (X : m_X) (hX : m_inj X.1) : m_Sound l X 4 yX1_admit cX1_admit 6 none wX1_admit := m_sound_of hX (by decide) (fun p e s m args below meth c q C hr => m_bt_all (m_bt_all (m_bt_all (m_bt_all (m_bt_all (m_bt_all (m_lf_all (o_aload_n C (i := 0) rfl dX1_admit_0 rfl)) (m_lf_all (o_callV C (T := TX1) (N := 11) (sX1_countStray l X hX) rfl (m_in_of [645, 647, 13, 75] (by decide +kernel) (by decide +kernel)) (m_tb_of 648 (by decide +kernel) rfl) (by decide +kernel) rfl ⟨Nat.le_of_ble_eq_true rfl, Nat.le_of_ble_eq_true rfl⟩ dX1_admit_1 rfl))) (m_bt_all (m_lf_all (o_istore_n C (i := 3) rfl dX1_admit_4 rfl)) (m_lf_all (o_aload_n C (i := 0) rfl dX1_admit_5 rfl)))) (m_bt_all (m_bt_all (m_lf_all (o_aload_n C (i := 0) rfl dX1_admit_6 rfl)) (m_lf_all (o_get C (ci := 1) (k := 6) (N := 11) (rf := RX1) (T := TX1) rfl ginX1 (Nat.le_of_ble_eq_true rfl) (m_tb_of 292 (by decide +kernel) rfl) dX1_admit_7 rfl))) (m_bt_all (m_lf_all (o_get C (ci := 0) (k := 1) (N := 8) (rf := RX0) (T := TX0) rfl ginX0 (Nat.le_of_ble_eq_true rfl) (m_tb_of 247 (by decide +kernel) rfl) dX1_admit_10 rfl)) (m_bt_all (m_lf_all (o_iload_n C (i := 1) rfl dX1_admit_13 rfl)) (m_lf_all (o_iald C dX1_admit_14 rfl)))))) (m_bt_all (m_bt_all (m_bt_all (m_lf_all (o_iload_n C (i := 2) rfl dX1_admit_15 rfl)) (m_lf_all (o_callV C (T := TX1) (N := 11) (sX1_choose l X hX) rfl (m_in_of [652, 654, 14, 75] (by decide +kernel) (by decide +kernel)) (m_tb_of 655 (by decide +kernel) rfl) (by decide +kernel) rfl ⟨Nat.le_of_ble_eq_true rfl, Nat.le_of_ble_eq_true rfl⟩ dX1_admit_16 rfl))) (m_bt_all (m_lf_all (o_istore C dX1_admit_19 rfl)) (m_lf_all (o_iload C dX1_admit_21 rfl)))) (m_bt_all (m_bt_all (m_lf_all (o_if_ge C dX1_admit_23 rfl rfl)) (m_lf_all (o_aload_n C (i := 0) rfl dX1_admit_26 rfl))) (m_bt_all (m_lf_all (o_get C (ci := 1) (k := 2) (N := 11) (rf := RX1) (T := TX1) rfl ginX1 (Nat.le_of_ble_eq_true rfl) (m_tb_of 284 (by decide +kernel) rfl) dX1_admit_27 rfl)) (m_bt_all (m_lf_all (o_aload_n C (i := 0) rfl dX1_admit_30 rfl)) (m_lf_all (o_get C (ci := 1) (k := 6) (N := 11) (rf := RX1) (T := TX1) rfl ginX1 (Nat.le_of_ble_eq_true rfl) (m_tb_of 292 (by decide +kernel) rfl) dX1_admit_31 rfl))))))) (m_bt_all (m_bt_all (m_bt_all (m_bt_all (m_lf_all (o_get C (ci := 0) (k := 1) (N := 8) (rf := RX0) (T := TX0) rfl ginX0 (Nat.le_of_ble_eq_true rfl) (m_tb_of 247 (by decide +kernel) rfl) dX1_admit_34 rfl)) (m_lf_all (o_iload_n C (i := 1) rfl dX1_admit_37 rfl))) (m_bt_all (m_lf_all (o_iald C dX1_admit_38 rfl)) (m_lf_all (o_dup2 C dX1_admit_39 rfl)))) (m_bt_all (m_bt_all (m_lf_all (o_iald C dX1_admit_40 rfl)) (m_lf_all (o_iconst C (x := (1)) (m_rngd rfl) dX1_admit_41 rfl))) (m_bt_all (m_lf_all (o_iadd C dX1_admit_42 rfl)) (m_bt_all (m_lf_all (o_iast C dX1_admit_43 rfl)) (m_lf_all (o_vret C hr dX1_admit_44)))))) (m_bt_all (m_bt_all (m_bt_all (m_lf_all (o_iload C dX1_admit_45 rfl)) (m_lf_all (o_iconst C (x := (1)) (m_rngd rfl) dX1_admit_47 rfl))) (m_bt_all (m_lf_all (o_iadd C dX1_admit_48 rfl)) (m_bt_all (m_lf_all (o_aload_n C (i := 0) rfl dX1_admit_49 rfl)) (m_lf_all (o_get C (ci := 1) (k := 7) (N := 11) (rf := RX1) (T := TX1) rfl ginX1 (Nat.le_of_ble_eq_true rfl) (m_tb_of 293 (by decide +kernel) rfl) dX1_admit_50 rfl))))) (m_bt_all (m_bt_all (m_lf_all (o_get C (ci := 2) (k := 1) (N := 8) (rf := RX2) (T := TX2) rfl ginX2 (Nat.le_of_ble_eq_true rfl) (m_tb_of 112 (by decide +kernel) rfl) dX1_admit_53 rfl)) (m_lf_all (o_icmp_ge C dX1_admit_56 rfl rfl))) (m_bt_all (m_lf_all (o_iload C dX1_admit_59 rfl)) (m_bt_all (m_lf_all (o_iconst C (x := (1)) (m_rngd rfl) dX1_admit_61 rfl)) (m_lf_all (o_iadd C dX1_admit_62 rfl)))))))) (m_bt_all (m_bt_all (m_bt_all (m_bt_all (m_bt_all (m_lf_all (o_goto C dX1_admit_63 rfl)) (m_lf_all (o_iconst C (x := (0)) (m_rngd rfl) dX1_admit_66 rfl))) (m_bt_all (m_lf_all (o_istore C dX1_admit_67 rfl)) (m_lf_all (o_iload_n C (i := 3) rfl dX1_admit_69 rfl)))) (m_bt_all (m_bt_all (m_lf_all (o_if_eq C dX1_admit_70 rfl rfl)) (m_lf_all (o_iload C dX1_admit_73 rfl))) (m_bt_all (m_lf_all (o_iload C dX1_admit_75 rfl)) (m_bt_all (m_lf_all (o_icmp_eq C dX1_admit_77 rfl rfl)) (m_lf_all (o_aload_n C (i := 0) rfl dX1_admit_80 rfl)))))) (m_bt_all (m_bt_all (m_bt_all (m_lf_all (o_aload_n C (i := 0) rfl dX1_admit_81 rfl)) (m_lf_all (o_get C (ci := 1) (k := 3) (N := 11) (rf := RX1) (T := TX1) rfl ginX1 (Nat.le_of_ble_eq_true rfl) (m_tb_of 286 (by decide +kernel) rfl) dX1_admit_82 rfl))) (m_bt_all (m_lf_all (o_iload C dX1_admit_85 rfl)) (m_bt_all (m_lf_all (o_aald C dX1_admit_87 rfl)) (m_lf_all (o_callV C (T := TX1) (N := 11) (sX1_hasPlace l X hX) rfl (m_in_of [659, 661, 15, 75] (by decide +kernel) (by decide +kernel)) (m_tb_of 662 (by decide +kernel) rfl) (by decide +kernel) rfl ⟨Nat.le_of_ble_eq_true rfl, Nat.le_of_ble_eq_true rfl⟩ dX1_admit_88 rfl))))) (m_bt_all (m_bt_all (m_lf_all (o_if_eq C dX1_admit_91 rfl rfl)) (m_lf_all (o_aload_n C (i := 0) rfl dX1_admit_94 rfl))) (m_bt_all (m_lf_all (o_get C (ci := 1) (k := 6) (N := 11) (rf := RX1) (T := TX1) rfl ginX1 (Nat.le_of_ble_eq_true rfl) (m_tb_of 292 (by decide +kernel) rfl) dX1_admit_95 rfl)) (m_bt_all (m_lf_all (o_get C (ci := 0) (k := 5) (N := 8) (rf := RX0) (T := TX0) rfl ginX0 (Nat.le_of_ble_eq_true rfl) (m_tb_of 257 (by decide +kernel) rfl) dX1_admit_98 rfl)) (m_lf_all (o_iload_n C (i := 1) rfl dX1_admit_101 rfl))))))) (m_bt_all (m_bt_all (m_bt_all (m_bt_all (m_lf_all (o_iconst C (x := (1)) (m_rngd rfl) dX1_admit_102 rfl)) (m_lf_all (o_zast C dX1_admit_103 rfl))) (m_bt_all (m_lf_all (o_aload_n C (i := 0) rfl dX1_admit_104 rfl)) (m_lf_all (o_dup C dX1_admit_105 rfl)))) (m_bt_all (m_bt_all (m_lf_all (o_get C (ci := 1) (k := 4) (N := 11) (rf := RX1) (T := TX1) rfl ginX1 (Nat.le_of_ble_eq_true rfl) (m_tb_of 288 (by decide +kernel) rfl) dX1_admit_106 rfl)) (m_lf_all (o_iconst C (x := (1)) (m_rngd rfl) dX1_admit_109 rfl))) (m_bt_all (m_lf_all (o_iadd C dX1_admit_110 rfl)) (m_bt_all (m_lf_all (o_put C (ci := 1) (k := 4) (N := 11) (rf := RX1) (T := TX1) rfl ginX1 (Nat.le_of_ble_eq_true rfl) (m_tb_of 288 (by decide +kernel) rfl) (ty0 := tyX1) tyX1_ok nmX1 rfl rfl dX1_admit_111 rfl)) (m_lf_all (o_iload C dX1_admit_114 rfl)))))) (m_bt_all (m_bt_all (m_bt_all (m_lf_all (o_istore C dX1_admit_116 rfl)) (m_lf_all (o_aload_n C (i := 0) rfl dX1_admit_118 rfl))) (m_bt_all (m_lf_all (o_get C (ci := 1) (k := 3) (N := 11) (rf := RX1) (T := TX1) rfl ginX1 (Nat.le_of_ble_eq_true rfl) (m_tb_of 286 (by decide +kernel) rfl) dX1_admit_119 rfl)) (m_bt_all (m_lf_all (o_iload C dX1_admit_122 rfl)) (m_lf_all (o_aald C dX1_admit_124 rfl))))) (m_bt_all (m_bt_all (m_lf_all (o_aload_n C (i := 0) rfl dX1_admit_125 rfl)) (m_lf_all (o_get C (ci := 1) (k := 6) (N := 11) (rf := RX1) (T := TX1) rfl ginX1 (Nat.le_of_ble_eq_true rfl) (m_tb_of 292 (by decide +kernel) rfl) dX1_admit_126 rfl))) (m_bt_all (m_lf_all (o_iload_n C (i := 1) rfl dX1_admit_129 rfl)) (m_bt_all (m_lf_all (o_callV C (T := TX3) (N := 12) (sX3_join l X hX) rfl (m_in_of [674, 675, 676, 76] (by decide +kernel) (by decide +kernel)) (m_tb_of 677 (by decide +kernel) rfl) (by decide +kernel) rfl ⟨Nat.le_of_ble_eq_true rfl, Nat.le_of_ble_eq_true rfl⟩ dX1_admit_130 rfl)) (m_lf_all (o_vret C hr dX1_admit_133)))))))))
set_option maxRecDepth 20000 in
def kX3_leave : m_C := m_bt 25 (m_bt 12 (m_bt 7 (m_bt 1 (m_lf 0 (s_ald 1 0)) (m_bt 4 (m_lf 1 (s_get 4 3 7)) (m_lf 4 (s_if 7 45 (fun x => x < 0))))) (m_bt 8 (m_lf 7 (s_ald 8 0)) (m_bt 9 (m_lf 8 (s_ald 9 1)) (m_lf 9 (s_get 12 0 4))))) (m_bt 17 (m_bt 13 (m_lf 12 (s_ald 13 0)) (m_bt 16 (m_lf 13 (s_get 16 3 7)) (m_lf 16 (s_iald 17)))) (m_bt 21 (m_bt 20 (m_lf 17 (s_put 20 3 7)) (m_lf 20 (s_ald 21 0))) (m_bt 22 (m_lf 21 (s_dup 22)) (m_lf 22 (s_get 25 3 0)))))) (m_bt 35 (m_bt 30 (m_bt 26 (m_lf 25 (s_push 26 (.inl (1)))) (m_bt 27 (m_lf 26 (s_bin 27 (fun x y => m_wrap (x - y)))) (m_lf 27 (s_put 30 3 0)))) (m_bt 31 (m_lf 30 (s_ald 31 0)) (m_bt 32 (m_lf 31 (s_dup 32)) (m_lf 32 (s_get 35 3 4))))) (m_bt 40 (m_bt 36 (m_lf 35 (s_push 36 (.inl (1)))) (m_bt 37 (m_lf 36 (s_bin 37 (fun x y => m_wrap (x + y)))) (m_lf 37 (s_put 40 3 4)))) (m_bt 42 (m_bt 41 (m_lf 40 (s_ald 41 0)) (m_lf 41 (s_push 42 (.inl (0))))) (m_bt 45 (m_lf 42 (s_putz 45 3 5)) (m_lf 45 (s_retv))))))
theorem kX3_leave_0 : kX3_leave 0 = some (s_ald 1 0) := rfl
theorem kX3_leave_1 : kX3_leave 1 = some (s_get 4 3 7) := rfl
theorem kX3_leave_4 : kX3_leave 4 = some (s_if 7 45 (fun x => x < 0)) := rfl
theorem kX3_leave_7 : kX3_leave 7 = some (s_ald 8 0) := rfl
theorem kX3_leave_8 : kX3_leave 8 = some (s_ald 9 1) := rfl
theorem kX3_leave_9 : kX3_leave 9 = some (s_get 12 0 4) := rfl
theorem kX3_leave_12 : kX3_leave 12 = some (s_ald 13 0) := rfl
theorem kX3_leave_13 : kX3_leave 13 = some (s_get 16 3 7) := rfl
theorem kX3_leave_16 : kX3_leave 16 = some (s_iald 17) := rfl
theorem kX3_leave_17 : kX3_leave 17 = some (s_put 20 3 7) := rfl
theorem kX3_leave_20 : kX3_leave 20 = some (s_ald 21 0) := rfl
theorem kX3_leave_21 : kX3_leave 21 = some (s_dup 22) := rfl
theorem kX3_leave_22 : kX3_leave 22 = some (s_get 25 3 0) := rfl
theorem kX3_leave_25 : kX3_leave 25 = some (s_push 26 (.inl (1))) := rfl
theorem kX3_leave_26 : kX3_leave 26 = some (s_bin 27 (fun x y => m_wrap (x - y))) := rfl
theorem kX3_leave_27 : kX3_leave 27 = some (s_put 30 3 0) := rfl
theorem kX3_leave_30 : kX3_leave 30 = some (s_ald 31 0) := rfl
theorem kX3_leave_31 : kX3_leave 31 = some (s_dup 32) := rfl
theorem kX3_leave_32 : kX3_leave 32 = some (s_get 35 3 4) := rfl
theorem kX3_leave_35 : kX3_leave 35 = some (s_push 36 (.inl (1))) := rfl
theorem kX3_leave_36 : kX3_leave 36 = some (s_bin 37 (fun x y => m_wrap (x + y))) := rfl
theorem kX3_leave_37 : kX3_leave 37 = some (s_put 40 3 4) := rfl
theorem kX3_leave_40 : kX3_leave 40 = some (s_ald 41 0) := rfl
theorem kX3_leave_41 : kX3_leave 41 = some (s_push 42 (.inl (0))) := rfl
theorem kX3_leave_42 : kX3_leave 42 = some (s_putz 45 3 5) := rfl
theorem kX3_leave_45 : kX3_leave 45 = some (s_retv) := rfl
def wX3_leave : m_GK := m_wp 2 kX3_leave
set_option maxRecDepth 100000 in
set_option maxHeartbeats 4000000 in
theorem sX3_leave (l : Launch) (X : m_X) (hX : m_inj X.1) : m_Sound l X 1 yX3_leave cX3_leave 2 none wX3_leave := m_sound_of hX (by decide) (fun p e s m args below meth c q C hr => m_bt_all (m_bt_all (m_bt_all (m_bt_all (m_lf_all (o_aload_n C (i := 0) rfl dX3_leave_0 rfl)) (m_bt_all (m_lf_all (o_get C (ci := 3) (k := 7) (N := 12) (rf := RX3) (T := TX3) rfl ginX3 (Nat.le_of_ble_eq_true rfl) (m_tb_of 203 (by decide +kernel) rfl) dX3_leave_1 rfl)) (m_lf_all (o_if_lt C dX3_leave_4 rfl rfl)))) (m_bt_all (m_lf_all (o_aload_n C (i := 0) rfl dX3_leave_7 rfl)) (m_bt_all (m_lf_all (o_aload_n C (i := 1) rfl dX3_leave_8 rfl)) (m_lf_all (o_get C (ci := 0) (k := 4) (N := 8) (rf := RX0) (T := TX0) rfl ginX0 (Nat.le_of_ble_eq_true rfl) (m_tb_of 254 (by decide +kernel) rfl) dX3_leave_9 rfl))))) (m_bt_all (m_bt_all (m_lf_all (o_aload_n C (i := 0) rfl dX3_leave_12 rfl)) (m_bt_all (m_lf_all (o_get C (ci := 3) (k := 7) (N := 12) (rf := RX3) (T := TX3) rfl ginX3 (Nat.le_of_ble_eq_true rfl) (m_tb_of 203 (by decide +kernel) rfl) dX3_leave_13 rfl)) (m_lf_all (o_iald C dX3_leave_16 rfl)))) (m_bt_all (m_bt_all (m_lf_all (o_put C (ci := 3) (k := 7) (N := 12) (rf := RX3) (T := TX3) rfl ginX3 (Nat.le_of_ble_eq_true rfl) (m_tb_of 203 (by decide +kernel) rfl) (ty0 := tyX3) tyX3_ok nmX3 rfl rfl dX3_leave_17 rfl)) (m_lf_all (o_aload_n C (i := 0) rfl dX3_leave_20 rfl))) (m_bt_all (m_lf_all (o_dup C dX3_leave_21 rfl)) (m_lf_all (o_get C (ci := 3) (k := 0) (N := 12) (rf := RX3) (T := TX3) rfl ginX3 (Nat.le_of_ble_eq_true rfl) (m_tb_of 189 (by decide +kernel) rfl) dX3_leave_22 rfl)))))) (m_bt_all (m_bt_all (m_bt_all (m_lf_all (o_iconst C (x := (1)) (m_rngd rfl) dX3_leave_25 rfl)) (m_bt_all (m_lf_all (o_isub C dX3_leave_26 rfl)) (m_lf_all (o_put C (ci := 3) (k := 0) (N := 12) (rf := RX3) (T := TX3) rfl ginX3 (Nat.le_of_ble_eq_true rfl) (m_tb_of 189 (by decide +kernel) rfl) (ty0 := tyX3) tyX3_ok nmX3 rfl rfl dX3_leave_27 rfl)))) (m_bt_all (m_lf_all (o_aload_n C (i := 0) rfl dX3_leave_30 rfl)) (m_bt_all (m_lf_all (o_dup C dX3_leave_31 rfl)) (m_lf_all (o_get C (ci := 3) (k := 4) (N := 12) (rf := RX3) (T := TX3) rfl ginX3 (Nat.le_of_ble_eq_true rfl) (m_tb_of 197 (by decide +kernel) rfl) dX3_leave_32 rfl))))) (m_bt_all (m_bt_all (m_lf_all (o_iconst C (x := (1)) (m_rngd rfl) dX3_leave_35 rfl)) (m_bt_all (m_lf_all (o_iadd C dX3_leave_36 rfl)) (m_lf_all (o_put C (ci := 3) (k := 4) (N := 12) (rf := RX3) (T := TX3) rfl ginX3 (Nat.le_of_ble_eq_true rfl) (m_tb_of 197 (by decide +kernel) rfl) (ty0 := tyX3) tyX3_ok nmX3 rfl rfl dX3_leave_37 rfl)))) (m_bt_all (m_bt_all (m_lf_all (o_aload_n C (i := 0) rfl dX3_leave_40 rfl)) (m_lf_all (o_iconst C (x := (0)) (m_rngd rfl) dX3_leave_41 rfl))) (m_bt_all (m_lf_all (o_putz C (ci := 3) (k := 5) (N := 12) (rf := RX3) (T := TX3) rfl ginX3 (Nat.le_of_ble_eq_true rfl) (m_tb_of 199 (by decide +kernel) rfl) (ty0 := tyX3) tyX3_ok nmX3 rfl rfl dX3_leave_42 rfl)) (m_lf_all (o_vret C hr dX3_leave_45)))))))
set_option maxRecDepth 20000 in
def kX1_leaveLine : m_C := m_bt 61 (m_bt 29 (m_bt 13 (m_bt 7 (m_bt 1 (m_lf 0 (s_ald 1 0)) (m_bt 4 (m_lf 1 (s_get 4 1 5)) (m_lf 4 (s_if 7 25 (fun x => x < 0))))) (m_bt 9 (m_bt 8 (m_lf 7 (s_ild 8 2)) (m_lf 8 (s_ald 9 0))) (m_bt 12 (m_lf 9 (s_get 12 1 5)) (m_lf 12 (s_bin 13 (fun x y => m_wrap (x - y))))))) (m_bt 21 (m_bt 17 (m_bt 14 (m_lf 13 (s_ald 14 0)) (m_lf 14 (s_get 17 1 7))) (m_bt 20 (m_lf 17 (s_get 20 2 7)) (m_lf 20 (s_push 21 (.inl (1)))))) (m_bt 25 (m_bt 22 (m_lf 21 (s_iald 22)) (m_lf 22 (s_icmp 25 29 (fun x y => x < y)))) (m_bt 26 (m_lf 25 (s_push 26 (.inl (1)))) (m_lf 26 (s_goto 30)))))) (m_bt 45 (m_bt 35 (m_bt 31 (m_bt 30 (m_lf 29 (s_push 30 (.inl (0)))) (m_lf 30 (s_ist 31 3))) (m_bt 32 (m_lf 31 (s_ald 32 1)) (m_lf 32 (s_get 35 3 5)))) (m_bt 39 (m_bt 38 (m_lf 35 (s_if 38 111 (fun x => x = 0))) (m_lf 38 (s_ald 39 1))) (m_bt 42 (m_lf 39 (s_get 42 3 7)) (m_lf 42 (s_if 45 111 (fun x => x < 0)))))) (m_bt 53 (m_bt 49 (m_bt 46 (m_lf 45 (s_ald 46 1)) (m_lf 46 (s_get 49 3 2))) (m_bt 50 (m_lf 49 (s_ild 50 2)) (m_lf 50 (s_icmp 53 111 (fun x y => y < x))))) (m_bt 57 (m_bt 54 (m_lf 53 (s_ild 54 3)) (m_lf 54 (s_if 57 111 (fun x => x = 0)))) (m_bt 58 (m_lf 57 (s_ald 58 0)) (m_lf 58 (s_get 61 1 6))))))) (m_bt 88 (m_bt 77 (m_bt 69 (m_bt 65 (m_bt 64 (m_lf 61 (s_get 64 0 1)) (m_lf 64 (s_ald 65 1))) (m_bt 68 (m_lf 65 (s_get 68 3 7)) (m_lf 68 (s_iald 69)))) (m_bt 72 (m_bt 71 (m_lf 69 (s_ist 71 4)) (m_lf 71 (s_ald 72 0))) (m_bt 75 (m_lf 72 (s_get 75 1 1)) (m_lf 75 (s_ild 77 4))))) (m_bt 81 (m_bt 79 (m_bt 78 (m_lf 77 (s_dup2 78)) (m_lf 78 (s_iald 79))) (m_bt 80 (m_lf 79 (s_push 80 (.inl (1)))) (m_lf 80 (s_bin 81 (fun x y => m_wrap (x + y)))))) (m_bt 83 (m_bt 82 (m_lf 81 (s_iast 82)) (m_lf 82 (s_ald 83 0))) (m_bt 86 (m_lf 83 (s_get 86 1 0)) (m_lf 86 (s_ild 88 4)))))) (m_bt 98 (m_bt 92 (m_bt 90 (m_bt 89 (m_lf 88 (s_dup2 89)) (m_lf 89 (s_iald 90))) (m_bt 91 (m_lf 90 (s_ild 91 2)) (m_lf 91 (s_ald 92 1)))) (m_bt 96 (m_bt 95 (m_lf 92 (s_get 95 3 2)) (m_lf 95 (s_bin 96 (fun x y => m_wrap (x - y))))) (m_bt 97 (m_lf 96 (s_bin 97 (fun x y => m_wrap (x + y)))) (m_lf 97 (s_iast 98))))) (m_bt 104 (m_bt 100 (m_bt 99 (m_lf 98 (s_ald 99 0)) (m_lf 99 (s_ild 100 2))) (m_bt 103 (m_lf 100 (s_put 103 1 5)) (m_lf 103 (s_ald 104 1)))) (m_bt 108 (m_bt 105 (m_lf 104 (s_ald 105 0)) (m_lf 105 (s_get 108 1 6))) (m_bt 111 (m_lf 108 (s_callV 111 2 3 wX3_leave)) (m_lf 111 (s_retv)))))))
theorem kX1_leaveLine_0 : kX1_leaveLine 0 = some (s_ald 1 0) := rfl
theorem kX1_leaveLine_1 : kX1_leaveLine 1 = some (s_get 4 1 5) := rfl
theorem kX1_leaveLine_4 : kX1_leaveLine 4 = some (s_if 7 25 (fun x => x < 0)) := rfl
theorem kX1_leaveLine_7 : kX1_leaveLine 7 = some (s_ild 8 2) := rfl
theorem kX1_leaveLine_8 : kX1_leaveLine 8 = some (s_ald 9 0) := rfl
theorem kX1_leaveLine_9 : kX1_leaveLine 9 = some (s_get 12 1 5) := rfl
theorem kX1_leaveLine_12 : kX1_leaveLine 12 = some (s_bin 13 (fun x y => m_wrap (x - y))) := rfl
theorem kX1_leaveLine_13 : kX1_leaveLine 13 = some (s_ald 14 0) := rfl
theorem kX1_leaveLine_14 : kX1_leaveLine 14 = some (s_get 17 1 7) := rfl
theorem kX1_leaveLine_17 : kX1_leaveLine 17 = some (s_get 20 2 7) := rfl
theorem kX1_leaveLine_20 : kX1_leaveLine 20 = some (s_push 21 (.inl (1))) := rfl
theorem kX1_leaveLine_21 : kX1_leaveLine 21 = some (s_iald 22) := rfl
theorem kX1_leaveLine_22 : kX1_leaveLine 22 = some (s_icmp 25 29 (fun x y => x < y)) := rfl
theorem kX1_leaveLine_25 : kX1_leaveLine 25 = some (s_push 26 (.inl (1))) := rfl
theorem kX1_leaveLine_26 : kX1_leaveLine 26 = some (s_goto 30) := rfl
theorem kX1_leaveLine_29 : kX1_leaveLine 29 = some (s_push 30 (.inl (0))) := rfl
theorem kX1_leaveLine_30 : kX1_leaveLine 30 = some (s_ist 31 3) := rfl
theorem kX1_leaveLine_31 : kX1_leaveLine 31 = some (s_ald 32 1) := rfl
theorem kX1_leaveLine_32 : kX1_leaveLine 32 = some (s_get 35 3 5) := rfl
theorem kX1_leaveLine_35 : kX1_leaveLine 35 = some (s_if 38 111 (fun x => x = 0)) := rfl
theorem kX1_leaveLine_38 : kX1_leaveLine 38 = some (s_ald 39 1) := rfl
theorem kX1_leaveLine_39 : kX1_leaveLine 39 = some (s_get 42 3 7) := rfl
theorem kX1_leaveLine_42 : kX1_leaveLine 42 = some (s_if 45 111 (fun x => x < 0)) := rfl
theorem kX1_leaveLine_45 : kX1_leaveLine 45 = some (s_ald 46 1) := rfl
theorem kX1_leaveLine_46 : kX1_leaveLine 46 = some (s_get 49 3 2) := rfl
theorem kX1_leaveLine_49 : kX1_leaveLine 49 = some (s_ild 50 2) := rfl
theorem kX1_leaveLine_50 : kX1_leaveLine 50 = some (s_icmp 53 111 (fun x y => y < x)) := rfl
theorem kX1_leaveLine_53 : kX1_leaveLine 53 = some (s_ild 54 3) := rfl
theorem kX1_leaveLine_54 : kX1_leaveLine 54 = some (s_if 57 111 (fun x => x = 0)) := rfl
theorem kX1_leaveLine_57 : kX1_leaveLine 57 = some (s_ald 58 0) := rfl
theorem kX1_leaveLine_58 : kX1_leaveLine 58 = some (s_get 61 1 6) := rfl
theorem kX1_leaveLine_61 : kX1_leaveLine 61 = some (s_get 64 0 1) := rfl
theorem kX1_leaveLine_64 : kX1_leaveLine 64 = some (s_ald 65 1) := rfl
theorem kX1_leaveLine_65 : kX1_leaveLine 65 = some (s_get 68 3 7) := rfl
theorem kX1_leaveLine_68 : kX1_leaveLine 68 = some (s_iald 69) := rfl
theorem kX1_leaveLine_69 : kX1_leaveLine 69 = some (s_ist 71 4) := rfl
theorem kX1_leaveLine_71 : kX1_leaveLine 71 = some (s_ald 72 0) := rfl
theorem kX1_leaveLine_72 : kX1_leaveLine 72 = some (s_get 75 1 1) := rfl
theorem kX1_leaveLine_75 : kX1_leaveLine 75 = some (s_ild 77 4) := rfl
theorem kX1_leaveLine_77 : kX1_leaveLine 77 = some (s_dup2 78) := rfl
theorem kX1_leaveLine_78 : kX1_leaveLine 78 = some (s_iald 79) := rfl
theorem kX1_leaveLine_79 : kX1_leaveLine 79 = some (s_push 80 (.inl (1))) := rfl
theorem kX1_leaveLine_80 : kX1_leaveLine 80 = some (s_bin 81 (fun x y => m_wrap (x + y))) := rfl
theorem kX1_leaveLine_81 : kX1_leaveLine 81 = some (s_iast 82) := rfl
theorem kX1_leaveLine_82 : kX1_leaveLine 82 = some (s_ald 83 0) := rfl
theorem kX1_leaveLine_83 : kX1_leaveLine 83 = some (s_get 86 1 0) := rfl
theorem kX1_leaveLine_86 : kX1_leaveLine 86 = some (s_ild 88 4) := rfl
theorem kX1_leaveLine_88 : kX1_leaveLine 88 = some (s_dup2 89) := rfl
theorem kX1_leaveLine_89 : kX1_leaveLine 89 = some (s_iald 90) := rfl
theorem kX1_leaveLine_90 : kX1_leaveLine 90 = some (s_ild 91 2) := rfl
theorem kX1_leaveLine_91 : kX1_leaveLine 91 = some (s_ald 92 1) := rfl
theorem kX1_leaveLine_92 : kX1_leaveLine 92 = some (s_get 95 3 2) := rfl
theorem kX1_leaveLine_95 : kX1_leaveLine 95 = some (s_bin 96 (fun x y => m_wrap (x - y))) := rfl
theorem kX1_leaveLine_96 : kX1_leaveLine 96 = some (s_bin 97 (fun x y => m_wrap (x + y))) := rfl
theorem kX1_leaveLine_97 : kX1_leaveLine 97 = some (s_iast 98) := rfl
theorem kX1_leaveLine_98 : kX1_leaveLine 98 = some (s_ald 99 0) := rfl
theorem kX1_leaveLine_99 : kX1_leaveLine 99 = some (s_ild 100 2) := rfl
theorem kX1_leaveLine_100 : kX1_leaveLine 100 = some (s_put 103 1 5) := rfl
theorem kX1_leaveLine_103 : kX1_leaveLine 103 = some (s_ald 104 1) := rfl
theorem kX1_leaveLine_104 : kX1_leaveLine 104 = some (s_ald 105 0) := rfl
theorem kX1_leaveLine_105 : kX1_leaveLine 105 = some (s_get 108 1 6) := rfl
theorem kX1_leaveLine_108 : kX1_leaveLine 108 = some (s_callV 111 2 3 wX3_leave) := rfl
theorem kX1_leaveLine_111 : kX1_leaveLine 111 = some (s_retv) := rfl
def wX1_leaveLine : m_GK := m_wp 5 kX1_leaveLine
set_option maxRecDepth 100000 in
set_option maxHeartbeats 4000000 in
theorem sX1_leaveLine (l : Launch) (X : m_X) (hX : m_inj X.1) : m_Sound l X 2 yX1_leaveLine cX1_leaveLine 5 none wX1_leaveLine := m_sound_of hX (by decide) (fun p e s m args below meth c q C hr => m_bt_all (m_bt_all (m_bt_all (m_bt_all (m_bt_all (m_lf_all (o_aload_n C (i := 0) rfl dX1_leaveLine_0 rfl)) (m_bt_all (m_lf_all (o_get C (ci := 1) (k := 5) (N := 11) (rf := RX1) (T := TX1) rfl ginX1 (Nat.le_of_ble_eq_true rfl) (m_tb_of 290 (by decide +kernel) rfl) dX1_leaveLine_1 rfl)) (m_lf_all (o_if_lt C dX1_leaveLine_4 rfl rfl)))) (m_bt_all (m_bt_all (m_lf_all (o_iload_n C (i := 2) rfl dX1_leaveLine_7 rfl)) (m_lf_all (o_aload_n C (i := 0) rfl dX1_leaveLine_8 rfl))) (m_bt_all (m_lf_all (o_get C (ci := 1) (k := 5) (N := 11) (rf := RX1) (T := TX1) rfl ginX1 (Nat.le_of_ble_eq_true rfl) (m_tb_of 290 (by decide +kernel) rfl) dX1_leaveLine_9 rfl)) (m_lf_all (o_isub C dX1_leaveLine_12 rfl))))) (m_bt_all (m_bt_all (m_bt_all (m_lf_all (o_aload_n C (i := 0) rfl dX1_leaveLine_13 rfl)) (m_lf_all (o_get C (ci := 1) (k := 7) (N := 11) (rf := RX1) (T := TX1) rfl ginX1 (Nat.le_of_ble_eq_true rfl) (m_tb_of 293 (by decide +kernel) rfl) dX1_leaveLine_14 rfl))) (m_bt_all (m_lf_all (o_get C (ci := 2) (k := 7) (N := 8) (rf := RX2) (T := TX2) rfl ginX2 (Nat.le_of_ble_eq_true rfl) (m_tb_of 129 (by decide +kernel) rfl) dX1_leaveLine_17 rfl)) (m_lf_all (o_iconst C (x := (1)) (m_rngd rfl) dX1_leaveLine_20 rfl)))) (m_bt_all (m_bt_all (m_lf_all (o_iald C dX1_leaveLine_21 rfl)) (m_lf_all (o_icmp_lt C dX1_leaveLine_22 rfl rfl))) (m_bt_all (m_lf_all (o_iconst C (x := (1)) (m_rngd rfl) dX1_leaveLine_25 rfl)) (m_lf_all (o_goto C dX1_leaveLine_26 rfl)))))) (m_bt_all (m_bt_all (m_bt_all (m_bt_all (m_lf_all (o_iconst C (x := (0)) (m_rngd rfl) dX1_leaveLine_29 rfl)) (m_lf_all (o_istore_n C (i := 3) rfl dX1_leaveLine_30 rfl))) (m_bt_all (m_lf_all (o_aload_n C (i := 1) rfl dX1_leaveLine_31 rfl)) (m_lf_all (o_get C (ci := 3) (k := 5) (N := 12) (rf := RX3) (T := TX3) rfl ginX3 (Nat.le_of_ble_eq_true rfl) (m_tb_of 200 (by decide +kernel) rfl) dX1_leaveLine_32 rfl)))) (m_bt_all (m_bt_all (m_lf_all (o_if_eq C dX1_leaveLine_35 rfl rfl)) (m_lf_all (o_aload_n C (i := 1) rfl dX1_leaveLine_38 rfl))) (m_bt_all (m_lf_all (o_get C (ci := 3) (k := 7) (N := 12) (rf := RX3) (T := TX3) rfl ginX3 (Nat.le_of_ble_eq_true rfl) (m_tb_of 204 (by decide +kernel) rfl) dX1_leaveLine_39 rfl)) (m_lf_all (o_if_lt C dX1_leaveLine_42 rfl rfl))))) (m_bt_all (m_bt_all (m_bt_all (m_lf_all (o_aload_n C (i := 1) rfl dX1_leaveLine_45 rfl)) (m_lf_all (o_get C (ci := 3) (k := 2) (N := 12) (rf := RX3) (T := TX3) rfl ginX3 (Nat.le_of_ble_eq_true rfl) (m_tb_of 193 (by decide +kernel) rfl) dX1_leaveLine_46 rfl))) (m_bt_all (m_lf_all (o_iload_n C (i := 2) rfl dX1_leaveLine_49 rfl)) (m_lf_all (o_icmp_gt C dX1_leaveLine_50 rfl rfl)))) (m_bt_all (m_bt_all (m_lf_all (o_iload_n C (i := 3) rfl dX1_leaveLine_53 rfl)) (m_lf_all (o_if_eq C dX1_leaveLine_54 rfl rfl))) (m_bt_all (m_lf_all (o_aload_n C (i := 0) rfl dX1_leaveLine_57 rfl)) (m_lf_all (o_get C (ci := 1) (k := 6) (N := 11) (rf := RX1) (T := TX1) rfl ginX1 (Nat.le_of_ble_eq_true rfl) (m_tb_of 292 (by decide +kernel) rfl) dX1_leaveLine_58 rfl))))))) (m_bt_all (m_bt_all (m_bt_all (m_bt_all (m_bt_all (m_lf_all (o_get C (ci := 0) (k := 1) (N := 8) (rf := RX0) (T := TX0) rfl ginX0 (Nat.le_of_ble_eq_true rfl) (m_tb_of 247 (by decide +kernel) rfl) dX1_leaveLine_61 rfl)) (m_lf_all (o_aload_n C (i := 1) rfl dX1_leaveLine_64 rfl))) (m_bt_all (m_lf_all (o_get C (ci := 3) (k := 7) (N := 12) (rf := RX3) (T := TX3) rfl ginX3 (Nat.le_of_ble_eq_true rfl) (m_tb_of 204 (by decide +kernel) rfl) dX1_leaveLine_65 rfl)) (m_lf_all (o_iald C dX1_leaveLine_68 rfl)))) (m_bt_all (m_bt_all (m_lf_all (o_istore C dX1_leaveLine_69 rfl)) (m_lf_all (o_aload_n C (i := 0) rfl dX1_leaveLine_71 rfl))) (m_bt_all (m_lf_all (o_get C (ci := 1) (k := 1) (N := 11) (rf := RX1) (T := TX1) rfl ginX1 (Nat.le_of_ble_eq_true rfl) (m_tb_of 282 (by decide +kernel) rfl) dX1_leaveLine_72 rfl)) (m_lf_all (o_iload C dX1_leaveLine_75 rfl))))) (m_bt_all (m_bt_all (m_bt_all (m_lf_all (o_dup2 C dX1_leaveLine_77 rfl)) (m_lf_all (o_iald C dX1_leaveLine_78 rfl))) (m_bt_all (m_lf_all (o_iconst C (x := (1)) (m_rngd rfl) dX1_leaveLine_79 rfl)) (m_lf_all (o_iadd C dX1_leaveLine_80 rfl)))) (m_bt_all (m_bt_all (m_lf_all (o_iast C dX1_leaveLine_81 rfl)) (m_lf_all (o_aload_n C (i := 0) rfl dX1_leaveLine_82 rfl))) (m_bt_all (m_lf_all (o_get C (ci := 1) (k := 0) (N := 11) (rf := RX1) (T := TX1) rfl ginX1 (Nat.le_of_ble_eq_true rfl) (m_tb_of 280 (by decide +kernel) rfl) dX1_leaveLine_83 rfl)) (m_lf_all (o_iload C dX1_leaveLine_86 rfl)))))) (m_bt_all (m_bt_all (m_bt_all (m_bt_all (m_lf_all (o_dup2 C dX1_leaveLine_88 rfl)) (m_lf_all (o_iald C dX1_leaveLine_89 rfl))) (m_bt_all (m_lf_all (o_iload_n C (i := 2) rfl dX1_leaveLine_90 rfl)) (m_lf_all (o_aload_n C (i := 1) rfl dX1_leaveLine_91 rfl)))) (m_bt_all (m_bt_all (m_lf_all (o_get C (ci := 3) (k := 2) (N := 12) (rf := RX3) (T := TX3) rfl ginX3 (Nat.le_of_ble_eq_true rfl) (m_tb_of 193 (by decide +kernel) rfl) dX1_leaveLine_92 rfl)) (m_lf_all (o_isub C dX1_leaveLine_95 rfl))) (m_bt_all (m_lf_all (o_iadd C dX1_leaveLine_96 rfl)) (m_lf_all (o_iast C dX1_leaveLine_97 rfl))))) (m_bt_all (m_bt_all (m_bt_all (m_lf_all (o_aload_n C (i := 0) rfl dX1_leaveLine_98 rfl)) (m_lf_all (o_iload_n C (i := 2) rfl dX1_leaveLine_99 rfl))) (m_bt_all (m_lf_all (o_put C (ci := 1) (k := 5) (N := 11) (rf := RX1) (T := TX1) rfl ginX1 (Nat.le_of_ble_eq_true rfl) (m_tb_of 290 (by decide +kernel) rfl) (ty0 := tyX1) tyX1_ok nmX1 rfl rfl dX1_leaveLine_100 rfl)) (m_lf_all (o_aload_n C (i := 1) rfl dX1_leaveLine_103 rfl)))) (m_bt_all (m_bt_all (m_lf_all (o_aload_n C (i := 0) rfl dX1_leaveLine_104 rfl)) (m_lf_all (o_get C (ci := 1) (k := 6) (N := 11) (rf := RX1) (T := TX1) rfl ginX1 (Nat.le_of_ble_eq_true rfl) (m_tb_of 292 (by decide +kernel) rfl) dX1_leaveLine_105 rfl))) (m_bt_all (m_lf_all (o_callV C (T := TX3) (N := 12) (sX3_leave l X hX) rfl (m_in_of [682, 683, 684, 76] (by decide +kernel) (by decide +kernel)) (m_tb_of 685 (by decide +kernel) rfl) (by decide +kernel) rfl ⟨Nat.le_of_ble_eq_true rfl, Nat.le_of_ble_eq_true rfl⟩ dX1_leaveLine_108 rfl)) (m_lf_all (o_vret C hr dX1_leaveLine_111))))))))
set_option maxRecDepth 20000 in
def kX1_timeFor : m_C := m_bt 46 (m_bt 21 (m_bt 10 (m_bt 7 (m_bt 1 (m_lf 0 (s_ald 1 0)) (m_bt 4 (m_lf 1 (s_get 4 1 6)) (m_lf 4 (s_get 7 0 1)))) (m_bt 8 (m_lf 7 (s_ild 8 2)) (m_bt 9 (m_lf 8 (s_iald 9)) (m_lf 9 (s_ist 10 3))))) (m_bt 17 (m_bt 11 (m_lf 10 (s_ald 11 0)) (m_bt 14 (m_lf 11 (s_get 14 1 6)) (m_lf 14 (s_get 17 0 3)))) (m_bt 18 (m_lf 17 (s_ild 18 2)) (m_bt 19 (m_lf 18 (s_iald 19)) (m_lf 19 (s_ist 21 4)))))) (m_bt 33 (m_bt 28 (m_bt 22 (m_lf 21 (s_ald 22 1)) (m_bt 25 (m_lf 22 (s_get 25 3 6)) (m_lf 25 (s_if 28 50 (fun x => x < 0))))) (m_bt 29 (m_lf 28 (s_ald 29 1)) (m_bt 32 (m_lf 29 (s_get 32 3 6)) (m_lf 32 (s_ild 33 3))))) (m_bt 39 (m_bt 36 (m_lf 33 (s_icmp 36 50 (fun x y => x = y))) (m_bt 38 (m_lf 36 (s_ild 38 4)) (m_lf 38 (s_ald 39 0)))) (m_bt 42 (m_lf 39 (s_get 42 1 7)) (m_bt 45 (m_lf 42 (s_get 45 2 7)) (m_lf 45 (s_push 46 (.inl (0))))))))) (m_bt 67 (m_bt 57 (m_bt 50 (m_bt 47 (m_lf 46 (s_iald 47)) (m_bt 48 (m_lf 47 (s_bin 48 (fun x y => m_wrap (x + y)))) (m_lf 48 (s_ist 50 4)))) (m_bt 51 (m_lf 50 (s_ald 51 0)) (m_bt 54 (m_lf 51 (s_get 54 1 6)) (m_lf 54 (s_get 57 0 5))))) (m_bt 62 (m_bt 58 (m_lf 57 (s_ild 58 2)) (m_bt 59 (m_lf 58 (s_zald 59)) (m_lf 59 (s_if 62 87 (fun x => x = 0))))) (m_bt 63 (m_lf 62 (s_ald 63 1)) (m_bt 66 (m_lf 63 (s_get 66 3 8)) (m_lf 66 (s_ild 67 3)))))) (m_bt 82 (m_bt 75 (m_bt 70 (m_lf 67 (s_callS 70 2 wX8_hasBit)) (m_bt 73 (m_lf 70 (s_if 73 87 (fun x => ¬ x = 0))) (m_lf 73 (s_ild 75 4)))) (m_bt 76 (m_lf 75 (s_ald 76 0)) (m_bt 79 (m_lf 76 (s_get 79 1 7)) (m_lf 79 (s_get 82 2 7))))) (m_bt 85 (m_bt 83 (m_lf 82 (s_push 83 (.inl (3)))) (m_bt 84 (m_lf 83 (s_iald 84)) (m_lf 84 (s_bin 85 (fun x y => m_wrap (x + y)))))) (m_bt 87 (m_lf 85 (s_ist 87 4)) (m_bt 89 (m_lf 87 (s_ild 89 4)) (m_lf 89 (s_ret)))))))
theorem kX1_timeFor_0 : kX1_timeFor 0 = some (s_ald 1 0) := rfl
theorem kX1_timeFor_1 : kX1_timeFor 1 = some (s_get 4 1 6) := rfl
theorem kX1_timeFor_4 : kX1_timeFor 4 = some (s_get 7 0 1) := rfl
theorem kX1_timeFor_7 : kX1_timeFor 7 = some (s_ild 8 2) := rfl
theorem kX1_timeFor_8 : kX1_timeFor 8 = some (s_iald 9) := rfl
theorem kX1_timeFor_9 : kX1_timeFor 9 = some (s_ist 10 3) := rfl
theorem kX1_timeFor_10 : kX1_timeFor 10 = some (s_ald 11 0) := rfl
theorem kX1_timeFor_11 : kX1_timeFor 11 = some (s_get 14 1 6) := rfl
theorem kX1_timeFor_14 : kX1_timeFor 14 = some (s_get 17 0 3) := rfl
theorem kX1_timeFor_17 : kX1_timeFor 17 = some (s_ild 18 2) := rfl
theorem kX1_timeFor_18 : kX1_timeFor 18 = some (s_iald 19) := rfl
theorem kX1_timeFor_19 : kX1_timeFor 19 = some (s_ist 21 4) := rfl
theorem kX1_timeFor_21 : kX1_timeFor 21 = some (s_ald 22 1) := rfl
theorem kX1_timeFor_22 : kX1_timeFor 22 = some (s_get 25 3 6) := rfl
theorem kX1_timeFor_25 : kX1_timeFor 25 = some (s_if 28 50 (fun x => x < 0)) := rfl
theorem kX1_timeFor_28 : kX1_timeFor 28 = some (s_ald 29 1) := rfl
theorem kX1_timeFor_29 : kX1_timeFor 29 = some (s_get 32 3 6) := rfl
theorem kX1_timeFor_32 : kX1_timeFor 32 = some (s_ild 33 3) := rfl
theorem kX1_timeFor_33 : kX1_timeFor 33 = some (s_icmp 36 50 (fun x y => x = y)) := rfl
theorem kX1_timeFor_36 : kX1_timeFor 36 = some (s_ild 38 4) := rfl
theorem kX1_timeFor_38 : kX1_timeFor 38 = some (s_ald 39 0) := rfl
theorem kX1_timeFor_39 : kX1_timeFor 39 = some (s_get 42 1 7) := rfl
theorem kX1_timeFor_42 : kX1_timeFor 42 = some (s_get 45 2 7) := rfl
theorem kX1_timeFor_45 : kX1_timeFor 45 = some (s_push 46 (.inl (0))) := rfl
theorem kX1_timeFor_46 : kX1_timeFor 46 = some (s_iald 47) := rfl
theorem kX1_timeFor_47 : kX1_timeFor 47 = some (s_bin 48 (fun x y => m_wrap (x + y))) := rfl
theorem kX1_timeFor_48 : kX1_timeFor 48 = some (s_ist 50 4) := rfl
theorem kX1_timeFor_50 : kX1_timeFor 50 = some (s_ald 51 0) := rfl
theorem kX1_timeFor_51 : kX1_timeFor 51 = some (s_get 54 1 6) := rfl
theorem kX1_timeFor_54 : kX1_timeFor 54 = some (s_get 57 0 5) := rfl
theorem kX1_timeFor_57 : kX1_timeFor 57 = some (s_ild 58 2) := rfl
theorem kX1_timeFor_58 : kX1_timeFor 58 = some (s_zald 59) := rfl
theorem kX1_timeFor_59 : kX1_timeFor 59 = some (s_if 62 87 (fun x => x = 0)) := rfl
theorem kX1_timeFor_62 : kX1_timeFor 62 = some (s_ald 63 1) := rfl
theorem kX1_timeFor_63 : kX1_timeFor 63 = some (s_get 66 3 8) := rfl
theorem kX1_timeFor_66 : kX1_timeFor 66 = some (s_ild 67 3) := rfl
theorem kX1_timeFor_67 : kX1_timeFor 67 = some (s_callS 70 2 wX8_hasBit) := rfl
theorem kX1_timeFor_70 : kX1_timeFor 70 = some (s_if 73 87 (fun x => ¬ x = 0)) := rfl
theorem kX1_timeFor_73 : kX1_timeFor 73 = some (s_ild 75 4) := rfl
theorem kX1_timeFor_75 : kX1_timeFor 75 = some (s_ald 76 0) := rfl
theorem kX1_timeFor_76 : kX1_timeFor 76 = some (s_get 79 1 7) := rfl
theorem kX1_timeFor_79 : kX1_timeFor 79 = some (s_get 82 2 7) := rfl
theorem kX1_timeFor_82 : kX1_timeFor 82 = some (s_push 83 (.inl (3))) := rfl
theorem kX1_timeFor_83 : kX1_timeFor 83 = some (s_iald 84) := rfl
theorem kX1_timeFor_84 : kX1_timeFor 84 = some (s_bin 85 (fun x y => m_wrap (x + y))) := rfl
theorem kX1_timeFor_85 : kX1_timeFor 85 = some (s_ist 87 4) := rfl
theorem kX1_timeFor_87 : kX1_timeFor 87 = some (s_ild 89 4) := rfl
theorem kX1_timeFor_89 : kX1_timeFor 89 = some (s_ret) := rfl
def wX1_timeFor : m_GK := m_wp 5 kX1_timeFor
set_option maxRecDepth 100000 in
set_option maxHeartbeats 4000000 in
theorem sX1_timeFor (l : Launch) (X : m_X) (hX : m_inj X.1) : m_Sound l X 2 yX1_timeFor cX1_timeFor 5 (some .int) wX1_timeFor := m_sound_of hX (by decide) (fun p e s m args below meth c q C hr => m_bt_all (m_bt_all (m_bt_all (m_bt_all (m_bt_all (m_lf_all (o_aload_n C (i := 0) rfl dX1_timeFor_0 rfl)) (m_bt_all (m_lf_all (o_get C (ci := 1) (k := 6) (N := 11) (rf := RX1) (T := TX1) rfl ginX1 (Nat.le_of_ble_eq_true rfl) (m_tb_of 292 (by decide +kernel) rfl) dX1_timeFor_1 rfl)) (m_lf_all (o_get C (ci := 0) (k := 1) (N := 8) (rf := RX0) (T := TX0) rfl ginX0 (Nat.le_of_ble_eq_true rfl) (m_tb_of 247 (by decide +kernel) rfl) dX1_timeFor_4 rfl)))) (m_bt_all (m_lf_all (o_iload_n C (i := 2) rfl dX1_timeFor_7 rfl)) (m_bt_all (m_lf_all (o_iald C dX1_timeFor_8 rfl)) (m_lf_all (o_istore_n C (i := 3) rfl dX1_timeFor_9 rfl))))) (m_bt_all (m_bt_all (m_lf_all (o_aload_n C (i := 0) rfl dX1_timeFor_10 rfl)) (m_bt_all (m_lf_all (o_get C (ci := 1) (k := 6) (N := 11) (rf := RX1) (T := TX1) rfl ginX1 (Nat.le_of_ble_eq_true rfl) (m_tb_of 292 (by decide +kernel) rfl) dX1_timeFor_11 rfl)) (m_lf_all (o_get C (ci := 0) (k := 3) (N := 8) (rf := RX0) (T := TX0) rfl ginX0 (Nat.le_of_ble_eq_true rfl) (m_tb_of 252 (by decide +kernel) rfl) dX1_timeFor_14 rfl)))) (m_bt_all (m_lf_all (o_iload_n C (i := 2) rfl dX1_timeFor_17 rfl)) (m_bt_all (m_lf_all (o_iald C dX1_timeFor_18 rfl)) (m_lf_all (o_istore C dX1_timeFor_19 rfl)))))) (m_bt_all (m_bt_all (m_bt_all (m_lf_all (o_aload_n C (i := 1) rfl dX1_timeFor_21 rfl)) (m_bt_all (m_lf_all (o_get C (ci := 3) (k := 6) (N := 12) (rf := RX3) (T := TX3) rfl ginX3 (Nat.le_of_ble_eq_true rfl) (m_tb_of 202 (by decide +kernel) rfl) dX1_timeFor_22 rfl)) (m_lf_all (o_if_lt C dX1_timeFor_25 rfl rfl)))) (m_bt_all (m_lf_all (o_aload_n C (i := 1) rfl dX1_timeFor_28 rfl)) (m_bt_all (m_lf_all (o_get C (ci := 3) (k := 6) (N := 12) (rf := RX3) (T := TX3) rfl ginX3 (Nat.le_of_ble_eq_true rfl) (m_tb_of 202 (by decide +kernel) rfl) dX1_timeFor_29 rfl)) (m_lf_all (o_iload_n C (i := 3) rfl dX1_timeFor_32 rfl))))) (m_bt_all (m_bt_all (m_lf_all (o_icmp_eq C dX1_timeFor_33 rfl rfl)) (m_bt_all (m_lf_all (o_iload C dX1_timeFor_36 rfl)) (m_lf_all (o_aload_n C (i := 0) rfl dX1_timeFor_38 rfl)))) (m_bt_all (m_lf_all (o_get C (ci := 1) (k := 7) (N := 11) (rf := RX1) (T := TX1) rfl ginX1 (Nat.le_of_ble_eq_true rfl) (m_tb_of 293 (by decide +kernel) rfl) dX1_timeFor_39 rfl)) (m_bt_all (m_lf_all (o_get C (ci := 2) (k := 7) (N := 8) (rf := RX2) (T := TX2) rfl ginX2 (Nat.le_of_ble_eq_true rfl) (m_tb_of 129 (by decide +kernel) rfl) dX1_timeFor_42 rfl)) (m_lf_all (o_iconst C (x := (0)) (m_rngd rfl) dX1_timeFor_45 rfl))))))) (m_bt_all (m_bt_all (m_bt_all (m_bt_all (m_lf_all (o_iald C dX1_timeFor_46 rfl)) (m_bt_all (m_lf_all (o_iadd C dX1_timeFor_47 rfl)) (m_lf_all (o_istore C dX1_timeFor_48 rfl)))) (m_bt_all (m_lf_all (o_aload_n C (i := 0) rfl dX1_timeFor_50 rfl)) (m_bt_all (m_lf_all (o_get C (ci := 1) (k := 6) (N := 11) (rf := RX1) (T := TX1) rfl ginX1 (Nat.le_of_ble_eq_true rfl) (m_tb_of 292 (by decide +kernel) rfl) dX1_timeFor_51 rfl)) (m_lf_all (o_get C (ci := 0) (k := 5) (N := 8) (rf := RX0) (T := TX0) rfl ginX0 (Nat.le_of_ble_eq_true rfl) (m_tb_of 257 (by decide +kernel) rfl) dX1_timeFor_54 rfl))))) (m_bt_all (m_bt_all (m_lf_all (o_iload_n C (i := 2) rfl dX1_timeFor_57 rfl)) (m_bt_all (m_lf_all (o_zald C dX1_timeFor_58 rfl)) (m_lf_all (o_if_eq C dX1_timeFor_59 rfl rfl)))) (m_bt_all (m_lf_all (o_aload_n C (i := 1) rfl dX1_timeFor_62 rfl)) (m_bt_all (m_lf_all (o_get C (ci := 3) (k := 8) (N := 12) (rf := RX3) (T := TX3) rfl ginX3 (Nat.le_of_ble_eq_true rfl) (m_tb_of 206 (by decide +kernel) rfl) dX1_timeFor_63 rfl)) (m_lf_all (o_iload_n C (i := 3) rfl dX1_timeFor_66 rfl)))))) (m_bt_all (m_bt_all (m_bt_all (m_lf_all (o_callN C (sX8_hasBit l X hX) (fun h => h.2.1.1) (m_in_of [657, 72] (by decide +kernel) (by decide +kernel)) (m_tb_of 658 (by decide +kernel) rfl) (by decide +kernel) ⟨Nat.le_of_ble_eq_true rfl, Nat.le_of_ble_eq_true rfl⟩ dX1_timeFor_67 rfl)) (m_bt_all (m_lf_all (o_if_ne C dX1_timeFor_70 rfl rfl)) (m_lf_all (o_iload C dX1_timeFor_73 rfl)))) (m_bt_all (m_lf_all (o_aload_n C (i := 0) rfl dX1_timeFor_75 rfl)) (m_bt_all (m_lf_all (o_get C (ci := 1) (k := 7) (N := 11) (rf := RX1) (T := TX1) rfl ginX1 (Nat.le_of_ble_eq_true rfl) (m_tb_of 293 (by decide +kernel) rfl) dX1_timeFor_76 rfl)) (m_lf_all (o_get C (ci := 2) (k := 7) (N := 8) (rf := RX2) (T := TX2) rfl ginX2 (Nat.le_of_ble_eq_true rfl) (m_tb_of 129 (by decide +kernel) rfl) dX1_timeFor_79 rfl))))) (m_bt_all (m_bt_all (m_lf_all (o_iconst C (x := (3)) (m_rngd rfl) dX1_timeFor_82 rfl)) (m_bt_all (m_lf_all (o_iald C dX1_timeFor_83 rfl)) (m_lf_all (o_iadd C dX1_timeFor_84 rfl)))) (m_bt_all (m_lf_all (o_istore C dX1_timeFor_85 rfl)) (m_bt_all (m_lf_all (o_iload C dX1_timeFor_87 rfl)) (m_lf_all (o_iret C hr dX1_timeFor_89))))))))
set_option maxRecDepth 20000 in
def kX3_serve : m_C := m_bt 25 (m_bt 12 (m_bt 7 (m_bt 1 (m_lf 0 (s_ald 1 0)) (m_bt 4 (m_lf 1 (s_get 4 3 7)) (m_lf 4 (s_if 7 48 (fun x => x < 0))))) (m_bt 8 (m_lf 7 (s_ald 8 0)) (m_bt 9 (m_lf 8 (s_dup 9)) (m_lf 9 (s_get 12 3 1))))) (m_bt 17 (m_bt 13 (m_lf 12 (s_ald 13 1)) (m_bt 16 (m_lf 13 (s_get 16 0 3)) (m_lf 16 (s_ald 17 0)))) (m_bt 21 (m_bt 20 (m_lf 17 (s_get 20 3 7)) (m_lf 20 (s_iald 21))) (m_bt 22 (m_lf 21 (s_bin 22 (fun x y => m_wrap (x - y)))) (m_lf 22 (s_put 25 3 1)))))) (m_bt 38 (m_bt 30 (m_bt 26 (m_lf 25 (s_ald 26 0)) (m_bt 27 (m_lf 26 (s_ald 27 1)) (m_lf 27 (s_get 30 0 1)))) (m_bt 34 (m_bt 31 (m_lf 30 (s_ald 31 0)) (m_lf 31 (s_get 34 3 7))) (m_bt 35 (m_lf 34 (s_iald 35)) (m_lf 35 (s_put 38 3 6))))) (m_bt 43 (m_bt 39 (m_lf 38 (s_ald 39 0)) (m_bt 40 (m_lf 39 (s_ild 40 2)) (m_lf 40 (s_put 43 3 2)))) (m_bt 45 (m_bt 44 (m_lf 43 (s_ald 44 0)) (m_lf 44 (s_push 45 (.inl (1))))) (m_bt 48 (m_lf 45 (s_putz 48 3 5)) (m_lf 48 (s_retv))))))
theorem kX3_serve_0 : kX3_serve 0 = some (s_ald 1 0) := rfl
theorem kX3_serve_1 : kX3_serve 1 = some (s_get 4 3 7) := rfl
theorem kX3_serve_4 : kX3_serve 4 = some (s_if 7 48 (fun x => x < 0)) := rfl
theorem kX3_serve_7 : kX3_serve 7 = some (s_ald 8 0) := rfl
theorem kX3_serve_8 : kX3_serve 8 = some (s_dup 9) := rfl
theorem kX3_serve_9 : kX3_serve 9 = some (s_get 12 3 1) := rfl
theorem kX3_serve_12 : kX3_serve 12 = some (s_ald 13 1) := rfl
theorem kX3_serve_13 : kX3_serve 13 = some (s_get 16 0 3) := rfl
theorem kX3_serve_16 : kX3_serve 16 = some (s_ald 17 0) := rfl
theorem kX3_serve_17 : kX3_serve 17 = some (s_get 20 3 7) := rfl
theorem kX3_serve_20 : kX3_serve 20 = some (s_iald 21) := rfl
theorem kX3_serve_21 : kX3_serve 21 = some (s_bin 22 (fun x y => m_wrap (x - y))) := rfl
theorem kX3_serve_22 : kX3_serve 22 = some (s_put 25 3 1) := rfl
theorem kX3_serve_25 : kX3_serve 25 = some (s_ald 26 0) := rfl
theorem kX3_serve_26 : kX3_serve 26 = some (s_ald 27 1) := rfl
theorem kX3_serve_27 : kX3_serve 27 = some (s_get 30 0 1) := rfl
theorem kX3_serve_30 : kX3_serve 30 = some (s_ald 31 0) := rfl
theorem kX3_serve_31 : kX3_serve 31 = some (s_get 34 3 7) := rfl
theorem kX3_serve_34 : kX3_serve 34 = some (s_iald 35) := rfl
theorem kX3_serve_35 : kX3_serve 35 = some (s_put 38 3 6) := rfl
theorem kX3_serve_38 : kX3_serve 38 = some (s_ald 39 0) := rfl
theorem kX3_serve_39 : kX3_serve 39 = some (s_ild 40 2) := rfl
theorem kX3_serve_40 : kX3_serve 40 = some (s_put 43 3 2) := rfl
theorem kX3_serve_43 : kX3_serve 43 = some (s_ald 44 0) := rfl
theorem kX3_serve_44 : kX3_serve 44 = some (s_push 45 (.inl (1))) := rfl
theorem kX3_serve_45 : kX3_serve 45 = some (s_putz 48 3 5) := rfl
theorem kX3_serve_48 : kX3_serve 48 = some (s_retv) := rfl
def wX3_serve : m_GK := m_wp 3 kX3_serve
set_option maxRecDepth 100000 in
set_option maxHeartbeats 4000000 in
theorem sX3_serve (l : Launch) (X : m_X) (hX : m_inj X.1) : m_Sound l X 1 yX3_serve cX3_serve 3 none wX3_serve := m_sound_of hX (by decide) (fun p e s m args below meth c q C hr => m_bt_all (m_bt_all (m_bt_all (m_bt_all (m_lf_all (o_aload_n C (i := 0) rfl dX3_serve_0 rfl)) (m_bt_all (m_lf_all (o_get C (ci := 3) (k := 7) (N := 12) (rf := RX3) (T := TX3) rfl ginX3 (Nat.le_of_ble_eq_true rfl) (m_tb_of 203 (by decide +kernel) rfl) dX3_serve_1 rfl)) (m_lf_all (o_if_lt C dX3_serve_4 rfl rfl)))) (m_bt_all (m_lf_all (o_aload_n C (i := 0) rfl dX3_serve_7 rfl)) (m_bt_all (m_lf_all (o_dup C dX3_serve_8 rfl)) (m_lf_all (o_get C (ci := 3) (k := 1) (N := 12) (rf := RX3) (T := TX3) rfl ginX3 (Nat.le_of_ble_eq_true rfl) (m_tb_of 191 (by decide +kernel) rfl) dX3_serve_9 rfl))))) (m_bt_all (m_bt_all (m_lf_all (o_aload_n C (i := 1) rfl dX3_serve_12 rfl)) (m_bt_all (m_lf_all (o_get C (ci := 0) (k := 3) (N := 8) (rf := RX0) (T := TX0) rfl ginX0 (Nat.le_of_ble_eq_true rfl) (m_tb_of 251 (by decide +kernel) rfl) dX3_serve_13 rfl)) (m_lf_all (o_aload_n C (i := 0) rfl dX3_serve_16 rfl)))) (m_bt_all (m_bt_all (m_lf_all (o_get C (ci := 3) (k := 7) (N := 12) (rf := RX3) (T := TX3) rfl ginX3 (Nat.le_of_ble_eq_true rfl) (m_tb_of 203 (by decide +kernel) rfl) dX3_serve_17 rfl)) (m_lf_all (o_iald C dX3_serve_20 rfl))) (m_bt_all (m_lf_all (o_isub C dX3_serve_21 rfl)) (m_lf_all (o_put C (ci := 3) (k := 1) (N := 12) (rf := RX3) (T := TX3) rfl ginX3 (Nat.le_of_ble_eq_true rfl) (m_tb_of 191 (by decide +kernel) rfl) (ty0 := tyX3) tyX3_ok nmX3 rfl rfl dX3_serve_22 rfl)))))) (m_bt_all (m_bt_all (m_bt_all (m_lf_all (o_aload_n C (i := 0) rfl dX3_serve_25 rfl)) (m_bt_all (m_lf_all (o_aload_n C (i := 1) rfl dX3_serve_26 rfl)) (m_lf_all (o_get C (ci := 0) (k := 1) (N := 8) (rf := RX0) (T := TX0) rfl ginX0 (Nat.le_of_ble_eq_true rfl) (m_tb_of 246 (by decide +kernel) rfl) dX3_serve_27 rfl)))) (m_bt_all (m_bt_all (m_lf_all (o_aload_n C (i := 0) rfl dX3_serve_30 rfl)) (m_lf_all (o_get C (ci := 3) (k := 7) (N := 12) (rf := RX3) (T := TX3) rfl ginX3 (Nat.le_of_ble_eq_true rfl) (m_tb_of 203 (by decide +kernel) rfl) dX3_serve_31 rfl))) (m_bt_all (m_lf_all (o_iald C dX3_serve_34 rfl)) (m_lf_all (o_put C (ci := 3) (k := 6) (N := 12) (rf := RX3) (T := TX3) rfl ginX3 (Nat.le_of_ble_eq_true rfl) (m_tb_of 201 (by decide +kernel) rfl) (ty0 := tyX3) tyX3_ok nmX3 rfl rfl dX3_serve_35 rfl))))) (m_bt_all (m_bt_all (m_lf_all (o_aload_n C (i := 0) rfl dX3_serve_38 rfl)) (m_bt_all (m_lf_all (o_iload_n C (i := 2) rfl dX3_serve_39 rfl)) (m_lf_all (o_put C (ci := 3) (k := 2) (N := 12) (rf := RX3) (T := TX3) rfl ginX3 (Nat.le_of_ble_eq_true rfl) (m_tb_of 192 (by decide +kernel) rfl) (ty0 := tyX3) tyX3_ok nmX3 rfl rfl dX3_serve_40 rfl)))) (m_bt_all (m_bt_all (m_lf_all (o_aload_n C (i := 0) rfl dX3_serve_43 rfl)) (m_lf_all (o_iconst C (x := (1)) (m_rngd rfl) dX3_serve_44 rfl))) (m_bt_all (m_lf_all (o_putz C (ci := 3) (k := 5) (N := 12) (rf := RX3) (T := TX3) rfl ginX3 (Nat.le_of_ble_eq_true rfl) (m_tb_of 199 (by decide +kernel) rfl) (ty0 := tyX3) tyX3_ok nmX3 rfl rfl dX3_serve_45 rfl)) (m_lf_all (o_vret C hr dX3_serve_48)))))))
set_option maxRecDepth 20000 in
def kX1_serveLine : m_C := m_bt 44 (m_bt 25 (m_bt 11 (m_bt 4 (m_bt 1 (m_lf 0 (s_ald 1 1)) (m_lf 1 (s_get 4 3 5))) (m_bt 7 (m_lf 4 (s_if 7 67 (fun x => ¬ x = 0))) (m_bt 8 (m_lf 7 (s_ald 8 1)) (m_lf 8 (s_get 11 3 7))))) (m_bt 18 (m_bt 14 (m_lf 11 (s_if 14 67 (fun x => x < 0))) (m_bt 15 (m_lf 14 (s_ald 15 0)) (m_lf 15 (s_get 18 1 0)))) (m_bt 19 (m_lf 18 (s_ald 19 0)) (m_bt 22 (m_lf 19 (s_get 22 1 6)) (m_lf 22 (s_get 25 0 1)))))) (m_bt 32 (m_bt 29 (m_bt 26 (m_lf 25 (s_ald 26 1)) (m_lf 26 (s_get 29 3 7))) (m_bt 30 (m_lf 29 (s_iald 30)) (m_bt 31 (m_lf 30 (s_dup2 31)) (m_lf 31 (s_iald 32))))) (m_bt 37 (m_bt 33 (m_lf 32 (s_ild 33 2)) (m_bt 34 (m_lf 33 (s_ald 34 0)) (m_lf 34 (s_get 37 1 6)))) (m_bt 40 (m_lf 37 (s_get 40 0 2)) (m_bt 41 (m_lf 40 (s_ald 41 1)) (m_lf 41 (s_get 44 3 7))))))) (m_bt 57 (m_bt 49 (m_bt 46 (m_bt 45 (m_lf 44 (s_iald 45)) (m_lf 45 (s_bin 46 (fun x y => m_wrap (x - y))))) (m_bt 47 (m_lf 46 (s_bin 47 (fun x y => m_wrap (x + y)))) (m_bt 48 (m_lf 47 (s_iast 48)) (m_lf 48 (s_ald 49 1))))) (m_bt 54 (m_bt 50 (m_lf 49 (s_ald 50 0)) (m_bt 53 (m_lf 50 (s_get 53 1 6)) (m_lf 53 (s_ild 54 2)))) (m_bt 55 (m_lf 54 (s_ald 55 0)) (m_bt 56 (m_lf 55 (s_ald 56 1)) (m_lf 56 (s_ald 57 1)))))) (m_bt 69 (m_bt 64 (m_bt 60 (m_lf 57 (s_get 60 3 7)) (m_bt 63 (m_lf 60 (s_callV 63 3 1 wX1_timeFor)) (m_lf 63 (s_bin 64 (fun x y => m_wrap (x + y)))))) (m_bt 67 (m_lf 64 (s_callV 67 3 3 wX3_serve)) (m_bt 68 (m_lf 67 (s_ald 68 1)) (m_lf 68 (s_ald 69 1))))) (m_bt 76 (m_bt 72 (m_lf 69 (s_get 72 3 3)) (m_bt 73 (m_lf 72 (s_ald 73 1)) (m_lf 73 (s_get 76 3 0)))) (m_bt 79 (m_lf 76 (s_max 79)) (m_bt 82 (m_lf 79 (s_put 82 3 3)) (m_lf 82 (s_retv)))))))
theorem kX1_serveLine_0 : kX1_serveLine 0 = some (s_ald 1 1) := rfl
theorem kX1_serveLine_1 : kX1_serveLine 1 = some (s_get 4 3 5) := rfl
theorem kX1_serveLine_4 : kX1_serveLine 4 = some (s_if 7 67 (fun x => ¬ x = 0)) := rfl
theorem kX1_serveLine_7 : kX1_serveLine 7 = some (s_ald 8 1) := rfl
theorem kX1_serveLine_8 : kX1_serveLine 8 = some (s_get 11 3 7) := rfl
theorem kX1_serveLine_11 : kX1_serveLine 11 = some (s_if 14 67 (fun x => x < 0)) := rfl
theorem kX1_serveLine_14 : kX1_serveLine 14 = some (s_ald 15 0) := rfl
theorem kX1_serveLine_15 : kX1_serveLine 15 = some (s_get 18 1 0) := rfl
theorem kX1_serveLine_18 : kX1_serveLine 18 = some (s_ald 19 0) := rfl
theorem kX1_serveLine_19 : kX1_serveLine 19 = some (s_get 22 1 6) := rfl
theorem kX1_serveLine_22 : kX1_serveLine 22 = some (s_get 25 0 1) := rfl
theorem kX1_serveLine_25 : kX1_serveLine 25 = some (s_ald 26 1) := rfl
theorem kX1_serveLine_26 : kX1_serveLine 26 = some (s_get 29 3 7) := rfl
theorem kX1_serveLine_29 : kX1_serveLine 29 = some (s_iald 30) := rfl
theorem kX1_serveLine_30 : kX1_serveLine 30 = some (s_dup2 31) := rfl
theorem kX1_serveLine_31 : kX1_serveLine 31 = some (s_iald 32) := rfl
theorem kX1_serveLine_32 : kX1_serveLine 32 = some (s_ild 33 2) := rfl
theorem kX1_serveLine_33 : kX1_serveLine 33 = some (s_ald 34 0) := rfl
theorem kX1_serveLine_34 : kX1_serveLine 34 = some (s_get 37 1 6) := rfl
theorem kX1_serveLine_37 : kX1_serveLine 37 = some (s_get 40 0 2) := rfl
theorem kX1_serveLine_40 : kX1_serveLine 40 = some (s_ald 41 1) := rfl
theorem kX1_serveLine_41 : kX1_serveLine 41 = some (s_get 44 3 7) := rfl
theorem kX1_serveLine_44 : kX1_serveLine 44 = some (s_iald 45) := rfl
theorem kX1_serveLine_45 : kX1_serveLine 45 = some (s_bin 46 (fun x y => m_wrap (x - y))) := rfl
theorem kX1_serveLine_46 : kX1_serveLine 46 = some (s_bin 47 (fun x y => m_wrap (x + y))) := rfl
theorem kX1_serveLine_47 : kX1_serveLine 47 = some (s_iast 48) := rfl
theorem kX1_serveLine_48 : kX1_serveLine 48 = some (s_ald 49 1) := rfl
theorem kX1_serveLine_49 : kX1_serveLine 49 = some (s_ald 50 0) := rfl
theorem kX1_serveLine_50 : kX1_serveLine 50 = some (s_get 53 1 6) := rfl
theorem kX1_serveLine_53 : kX1_serveLine 53 = some (s_ild 54 2) := rfl
theorem kX1_serveLine_54 : kX1_serveLine 54 = some (s_ald 55 0) := rfl
theorem kX1_serveLine_55 : kX1_serveLine 55 = some (s_ald 56 1) := rfl
theorem kX1_serveLine_56 : kX1_serveLine 56 = some (s_ald 57 1) := rfl
theorem kX1_serveLine_57 : kX1_serveLine 57 = some (s_get 60 3 7) := rfl
theorem kX1_serveLine_60 : kX1_serveLine 60 = some (s_callV 63 3 1 wX1_timeFor) := rfl
theorem kX1_serveLine_63 : kX1_serveLine 63 = some (s_bin 64 (fun x y => m_wrap (x + y))) := rfl
theorem kX1_serveLine_64 : kX1_serveLine 64 = some (s_callV 67 3 3 wX3_serve) := rfl
theorem kX1_serveLine_67 : kX1_serveLine 67 = some (s_ald 68 1) := rfl
theorem kX1_serveLine_68 : kX1_serveLine 68 = some (s_ald 69 1) := rfl
theorem kX1_serveLine_69 : kX1_serveLine 69 = some (s_get 72 3 3) := rfl
theorem kX1_serveLine_72 : kX1_serveLine 72 = some (s_ald 73 1) := rfl
theorem kX1_serveLine_73 : kX1_serveLine 73 = some (s_get 76 3 0) := rfl
theorem kX1_serveLine_76 : kX1_serveLine 76 = some (s_max 79) := rfl
theorem kX1_serveLine_79 : kX1_serveLine 79 = some (s_put 82 3 3) := rfl
theorem kX1_serveLine_82 : kX1_serveLine 82 = some (s_retv) := rfl
def wX1_serveLine : m_GK := m_wp 3 kX1_serveLine
set_option maxRecDepth 100000 in
set_option maxHeartbeats 4000000 in
theorem sX1_serveLine (l : Launch) (X : m_X) (hX : m_inj X.1) : m_Sound l X 3 yX1_serveLine cX1_serveLine 3 none wX1_serveLine := m_sound_of hX (by decide) (fun p e s m args below meth c q C hr => m_bt_all (m_bt_all (m_bt_all (m_bt_all (m_bt_all (m_lf_all (o_aload_n C (i := 1) rfl dX1_serveLine_0 rfl)) (m_lf_all (o_get C (ci := 3) (k := 5) (N := 12) (rf := RX3) (T := TX3) rfl ginX3 (Nat.le_of_ble_eq_true rfl) (m_tb_of 200 (by decide +kernel) rfl) dX1_serveLine_1 rfl))) (m_bt_all (m_lf_all (o_if_ne C dX1_serveLine_4 rfl rfl)) (m_bt_all (m_lf_all (o_aload_n C (i := 1) rfl dX1_serveLine_7 rfl)) (m_lf_all (o_get C (ci := 3) (k := 7) (N := 12) (rf := RX3) (T := TX3) rfl ginX3 (Nat.le_of_ble_eq_true rfl) (m_tb_of 204 (by decide +kernel) rfl) dX1_serveLine_8 rfl))))) (m_bt_all (m_bt_all (m_lf_all (o_if_lt C dX1_serveLine_11 rfl rfl)) (m_bt_all (m_lf_all (o_aload_n C (i := 0) rfl dX1_serveLine_14 rfl)) (m_lf_all (o_get C (ci := 1) (k := 0) (N := 11) (rf := RX1) (T := TX1) rfl ginX1 (Nat.le_of_ble_eq_true rfl) (m_tb_of 280 (by decide +kernel) rfl) dX1_serveLine_15 rfl)))) (m_bt_all (m_lf_all (o_aload_n C (i := 0) rfl dX1_serveLine_18 rfl)) (m_bt_all (m_lf_all (o_get C (ci := 1) (k := 6) (N := 11) (rf := RX1) (T := TX1) rfl ginX1 (Nat.le_of_ble_eq_true rfl) (m_tb_of 292 (by decide +kernel) rfl) dX1_serveLine_19 rfl)) (m_lf_all (o_get C (ci := 0) (k := 1) (N := 8) (rf := RX0) (T := TX0) rfl ginX0 (Nat.le_of_ble_eq_true rfl) (m_tb_of 247 (by decide +kernel) rfl) dX1_serveLine_22 rfl)))))) (m_bt_all (m_bt_all (m_bt_all (m_lf_all (o_aload_n C (i := 1) rfl dX1_serveLine_25 rfl)) (m_lf_all (o_get C (ci := 3) (k := 7) (N := 12) (rf := RX3) (T := TX3) rfl ginX3 (Nat.le_of_ble_eq_true rfl) (m_tb_of 204 (by decide +kernel) rfl) dX1_serveLine_26 rfl))) (m_bt_all (m_lf_all (o_iald C dX1_serveLine_29 rfl)) (m_bt_all (m_lf_all (o_dup2 C dX1_serveLine_30 rfl)) (m_lf_all (o_iald C dX1_serveLine_31 rfl))))) (m_bt_all (m_bt_all (m_lf_all (o_iload_n C (i := 2) rfl dX1_serveLine_32 rfl)) (m_bt_all (m_lf_all (o_aload_n C (i := 0) rfl dX1_serveLine_33 rfl)) (m_lf_all (o_get C (ci := 1) (k := 6) (N := 11) (rf := RX1) (T := TX1) rfl ginX1 (Nat.le_of_ble_eq_true rfl) (m_tb_of 292 (by decide +kernel) rfl) dX1_serveLine_34 rfl)))) (m_bt_all (m_lf_all (o_get C (ci := 0) (k := 2) (N := 8) (rf := RX0) (T := TX0) rfl ginX0 (Nat.le_of_ble_eq_true rfl) (m_tb_of 249 (by decide +kernel) rfl) dX1_serveLine_37 rfl)) (m_bt_all (m_lf_all (o_aload_n C (i := 1) rfl dX1_serveLine_40 rfl)) (m_lf_all (o_get C (ci := 3) (k := 7) (N := 12) (rf := RX3) (T := TX3) rfl ginX3 (Nat.le_of_ble_eq_true rfl) (m_tb_of 204 (by decide +kernel) rfl) dX1_serveLine_41 rfl))))))) (m_bt_all (m_bt_all (m_bt_all (m_bt_all (m_lf_all (o_iald C dX1_serveLine_44 rfl)) (m_lf_all (o_isub C dX1_serveLine_45 rfl))) (m_bt_all (m_lf_all (o_iadd C dX1_serveLine_46 rfl)) (m_bt_all (m_lf_all (o_iast C dX1_serveLine_47 rfl)) (m_lf_all (o_aload_n C (i := 1) rfl dX1_serveLine_48 rfl))))) (m_bt_all (m_bt_all (m_lf_all (o_aload_n C (i := 0) rfl dX1_serveLine_49 rfl)) (m_bt_all (m_lf_all (o_get C (ci := 1) (k := 6) (N := 11) (rf := RX1) (T := TX1) rfl ginX1 (Nat.le_of_ble_eq_true rfl) (m_tb_of 292 (by decide +kernel) rfl) dX1_serveLine_50 rfl)) (m_lf_all (o_iload_n C (i := 2) rfl dX1_serveLine_53 rfl)))) (m_bt_all (m_lf_all (o_aload_n C (i := 0) rfl dX1_serveLine_54 rfl)) (m_bt_all (m_lf_all (o_aload_n C (i := 1) rfl dX1_serveLine_55 rfl)) (m_lf_all (o_aload_n C (i := 1) rfl dX1_serveLine_56 rfl)))))) (m_bt_all (m_bt_all (m_bt_all (m_lf_all (o_get C (ci := 3) (k := 7) (N := 12) (rf := RX3) (T := TX3) rfl ginX3 (Nat.le_of_ble_eq_true rfl) (m_tb_of 204 (by decide +kernel) rfl) dX1_serveLine_57 rfl)) (m_bt_all (m_lf_all (o_callV C (T := TX1) (N := 11) (sX1_timeFor l X hX) rfl (m_in_of [690, 692, 19, 75] (by decide +kernel) (by decide +kernel)) (m_tb_of 693 (by decide +kernel) rfl) (by decide +kernel) rfl ⟨Nat.le_of_ble_eq_true rfl, Nat.le_of_ble_eq_true rfl⟩ dX1_serveLine_60 rfl)) (m_lf_all (o_iadd C dX1_serveLine_63 rfl)))) (m_bt_all (m_lf_all (o_callV C (T := TX3) (N := 12) (sX3_serve l X hX) rfl (m_in_of [694, 695, 696, 76] (by decide +kernel) (by decide +kernel)) (m_tb_of 697 (by decide +kernel) rfl) (by decide +kernel) rfl ⟨Nat.le_of_ble_eq_true rfl, Nat.le_of_ble_eq_true rfl⟩ dX1_serveLine_64 rfl)) (m_bt_all (m_lf_all (o_aload_n C (i := 1) rfl dX1_serveLine_67 rfl)) (m_lf_all (o_aload_n C (i := 1) rfl dX1_serveLine_68 rfl))))) (m_bt_all (m_bt_all (m_lf_all (o_get C (ci := 3) (k := 3) (N := 12) (rf := RX3) (T := TX3) rfl ginX3 (Nat.le_of_ble_eq_true rfl) (m_tb_of 196 (by decide +kernel) rfl) dX1_serveLine_69 rfl)) (m_bt_all (m_lf_all (o_aload_n C (i := 1) rfl dX1_serveLine_72 rfl)) (m_lf_all (o_get C (ci := 3) (k := 0) (N := 12) (rf := RX3) (T := TX3) rfl ginX3 (Nat.le_of_ble_eq_true rfl) (m_tb_of 190 (by decide +kernel) rfl) dX1_serveLine_73 rfl)))) (m_bt_all (m_lf_all (o_max C (m_tb_of 649 (by decide +kernel) rfl) (m_tb_of 650 (by decide +kernel) rfl) (m_tb_of 87 (by decide +kernel) rfl) (m_tb_of 651 (by decide +kernel) rfl) ⟨Nat.le_of_ble_eq_true rfl, Nat.le_of_ble_eq_true rfl⟩ dX1_serveLine_76 rfl)) (m_bt_all (m_lf_all (o_put C (ci := 3) (k := 3) (N := 12) (rf := RX3) (T := TX3) rfl ginX3 (Nat.le_of_ble_eq_true rfl) (m_tb_of 196 (by decide +kernel) rfl) (ty0 := tyX3) tyX3_ok nmX3 rfl rfl dX1_serveLine_79 rfl)) (m_lf_all (o_vret C hr dX1_serveLine_82))))))))
set_option maxRecDepth 20000 in
def kX1_nextSecond : m_C := m_bt 61 (m_bt 31 (m_bt 15 (m_bt 5 (m_bt 3 (m_lf 0 (s_push 3 (.inl (7200)))) (m_bt 4 (m_lf 3 (s_ist 4 2)) (m_lf 4 (s_ald 5 0)))) (m_bt 9 (m_bt 8 (m_lf 5 (s_get 8 1 9)) (m_lf 8 (s_ald 9 0))) (m_bt 12 (m_lf 9 (s_get 12 1 6)) (m_lf 12 (s_get 15 0 0))))) (m_bt 23 (m_bt 19 (m_bt 18 (m_lf 15 (s_icmp 18 35 (fun x y => y ≤ x))) (m_lf 18 (s_ild 19 2))) (m_bt 20 (m_lf 19 (s_ald 20 0)) (m_lf 20 (s_get 23 1 6)))) (m_bt 27 (m_bt 26 (m_lf 23 (s_get 26 0 2)) (m_lf 26 (s_ald 27 0))) (m_bt 30 (m_lf 27 (s_get 30 1 9)) (m_lf 30 (s_iald 31)))))) (m_bt 47 (m_bt 39 (m_bt 35 (m_bt 34 (m_lf 31 (s_min 34)) (m_lf 34 (s_ist 35 2))) (m_bt 36 (m_lf 35 (s_ald 36 0)) (m_lf 36 (s_get 39 1 5)))) (m_bt 43 (m_bt 42 (m_lf 39 (s_if 42 46 (fun x => 0 ≤ x))) (m_lf 42 (s_push 43 (.inl (0))))) (m_bt 46 (m_lf 43 (s_goto 60)) (m_lf 46 (s_ald 47 0))))) (m_bt 57 (m_bt 51 (m_bt 50 (m_lf 47 (s_get 50 1 5)) (m_lf 50 (s_ald 51 0))) (m_bt 54 (m_lf 51 (s_get 54 1 7)) (m_lf 54 (s_get 57 2 7)))) (m_bt 59 (m_bt 58 (m_lf 57 (s_push 58 (.inl (1)))) (m_lf 58 (s_iald 59))) (m_bt 60 (m_lf 59 (s_bin 60 (fun x y => m_wrap (x + y)))) (m_lf 60 (s_ist 61 3))))))) (m_bt 91 (m_bt 76 (m_bt 66 (m_bt 62 (m_lf 61 (s_push 62 (.inl (0)))) (m_bt 64 (m_lf 62 (s_ist 64 4)) (m_lf 64 (s_ild 66 4)))) (m_bt 70 (m_bt 67 (m_lf 66 (s_ald 67 0)) (m_lf 67 (s_get 70 1 7))) (m_bt 73 (m_lf 70 (s_get 73 2 1)) (m_lf 73 (s_icmp 76 114 (fun x y => y ≤ x)))))) (m_bt 83 (m_bt 80 (m_bt 77 (m_lf 76 (s_ald 77 0)) (m_lf 77 (s_get 80 1 3))) (m_bt 82 (m_lf 80 (s_ild 82 4)) (m_lf 82 (s_aald 83)))) (m_bt 89 (m_bt 86 (m_lf 83 (s_get 86 3 5)) (m_lf 86 (s_if 89 108 (fun x => x = 0)))) (m_bt 90 (m_lf 89 (s_ild 90 2)) (m_lf 90 (s_ald 91 0)))))) (m_bt 108 (m_bt 100 (m_bt 96 (m_bt 94 (m_lf 91 (s_get 94 1 3)) (m_lf 94 (s_ild 96 4))) (m_bt 97 (m_lf 96 (s_aald 97)) (m_lf 97 (s_get 100 3 2)))) (m_bt 104 (m_bt 101 (m_lf 100 (s_ild 101 3)) (m_lf 101 (s_max 104))) (m_bt 107 (m_lf 104 (s_min 107)) (m_lf 107 (s_ist 108 2))))) (m_bt 116 (m_bt 114 (m_bt 111 (m_lf 108 (s_inc 111 4 (1))) (m_lf 111 (s_goto 64))) (m_bt 115 (m_lf 114 (s_ild 115 2)) (m_lf 115 (s_ild 116 1)))) (m_bt 118 (m_bt 117 (m_lf 116 (s_push 117 (.inl (1)))) (m_lf 117 (s_bin 118 (fun x y => m_wrap (x + y))))) (m_bt 121 (m_lf 118 (s_max 121)) (m_lf 121 (s_ret)))))))
theorem kX1_nextSecond_0 : kX1_nextSecond 0 = some (s_push 3 (.inl (7200))) := rfl
theorem kX1_nextSecond_3 : kX1_nextSecond 3 = some (s_ist 4 2) := rfl
theorem kX1_nextSecond_4 : kX1_nextSecond 4 = some (s_ald 5 0) := rfl
theorem kX1_nextSecond_5 : kX1_nextSecond 5 = some (s_get 8 1 9) := rfl
theorem kX1_nextSecond_8 : kX1_nextSecond 8 = some (s_ald 9 0) := rfl
theorem kX1_nextSecond_9 : kX1_nextSecond 9 = some (s_get 12 1 6) := rfl
theorem kX1_nextSecond_12 : kX1_nextSecond 12 = some (s_get 15 0 0) := rfl
theorem kX1_nextSecond_15 : kX1_nextSecond 15 = some (s_icmp 18 35 (fun x y => y ≤ x)) := rfl
theorem kX1_nextSecond_18 : kX1_nextSecond 18 = some (s_ild 19 2) := rfl
theorem kX1_nextSecond_19 : kX1_nextSecond 19 = some (s_ald 20 0) := rfl
theorem kX1_nextSecond_20 : kX1_nextSecond 20 = some (s_get 23 1 6) := rfl
theorem kX1_nextSecond_23 : kX1_nextSecond 23 = some (s_get 26 0 2) := rfl
theorem kX1_nextSecond_26 : kX1_nextSecond 26 = some (s_ald 27 0) := rfl
theorem kX1_nextSecond_27 : kX1_nextSecond 27 = some (s_get 30 1 9) := rfl
theorem kX1_nextSecond_30 : kX1_nextSecond 30 = some (s_iald 31) := rfl
theorem kX1_nextSecond_31 : kX1_nextSecond 31 = some (s_min 34) := rfl
theorem kX1_nextSecond_34 : kX1_nextSecond 34 = some (s_ist 35 2) := rfl
theorem kX1_nextSecond_35 : kX1_nextSecond 35 = some (s_ald 36 0) := rfl
theorem kX1_nextSecond_36 : kX1_nextSecond 36 = some (s_get 39 1 5) := rfl
theorem kX1_nextSecond_39 : kX1_nextSecond 39 = some (s_if 42 46 (fun x => 0 ≤ x)) := rfl
theorem kX1_nextSecond_42 : kX1_nextSecond 42 = some (s_push 43 (.inl (0))) := rfl
theorem kX1_nextSecond_43 : kX1_nextSecond 43 = some (s_goto 60) := rfl
theorem kX1_nextSecond_46 : kX1_nextSecond 46 = some (s_ald 47 0) := rfl
theorem kX1_nextSecond_47 : kX1_nextSecond 47 = some (s_get 50 1 5) := rfl
theorem kX1_nextSecond_50 : kX1_nextSecond 50 = some (s_ald 51 0) := rfl
theorem kX1_nextSecond_51 : kX1_nextSecond 51 = some (s_get 54 1 7) := rfl
theorem kX1_nextSecond_54 : kX1_nextSecond 54 = some (s_get 57 2 7) := rfl
theorem kX1_nextSecond_57 : kX1_nextSecond 57 = some (s_push 58 (.inl (1))) := rfl
theorem kX1_nextSecond_58 : kX1_nextSecond 58 = some (s_iald 59) := rfl
theorem kX1_nextSecond_59 : kX1_nextSecond 59 = some (s_bin 60 (fun x y => m_wrap (x + y))) := rfl
theorem kX1_nextSecond_60 : kX1_nextSecond 60 = some (s_ist 61 3) := rfl
theorem kX1_nextSecond_61 : kX1_nextSecond 61 = some (s_push 62 (.inl (0))) := rfl
theorem kX1_nextSecond_62 : kX1_nextSecond 62 = some (s_ist 64 4) := rfl
theorem kX1_nextSecond_64 : kX1_nextSecond 64 = some (s_ild 66 4) := rfl
theorem kX1_nextSecond_66 : kX1_nextSecond 66 = some (s_ald 67 0) := rfl
theorem kX1_nextSecond_67 : kX1_nextSecond 67 = some (s_get 70 1 7) := rfl
theorem kX1_nextSecond_70 : kX1_nextSecond 70 = some (s_get 73 2 1) := rfl
theorem kX1_nextSecond_73 : kX1_nextSecond 73 = some (s_icmp 76 114 (fun x y => y ≤ x)) := rfl
theorem kX1_nextSecond_76 : kX1_nextSecond 76 = some (s_ald 77 0) := rfl
theorem kX1_nextSecond_77 : kX1_nextSecond 77 = some (s_get 80 1 3) := rfl
theorem kX1_nextSecond_80 : kX1_nextSecond 80 = some (s_ild 82 4) := rfl
theorem kX1_nextSecond_82 : kX1_nextSecond 82 = some (s_aald 83) := rfl
theorem kX1_nextSecond_83 : kX1_nextSecond 83 = some (s_get 86 3 5) := rfl
theorem kX1_nextSecond_86 : kX1_nextSecond 86 = some (s_if 89 108 (fun x => x = 0)) := rfl
theorem kX1_nextSecond_89 : kX1_nextSecond 89 = some (s_ild 90 2) := rfl
theorem kX1_nextSecond_90 : kX1_nextSecond 90 = some (s_ald 91 0) := rfl
theorem kX1_nextSecond_91 : kX1_nextSecond 91 = some (s_get 94 1 3) := rfl
theorem kX1_nextSecond_94 : kX1_nextSecond 94 = some (s_ild 96 4) := rfl
theorem kX1_nextSecond_96 : kX1_nextSecond 96 = some (s_aald 97) := rfl
theorem kX1_nextSecond_97 : kX1_nextSecond 97 = some (s_get 100 3 2) := rfl
theorem kX1_nextSecond_100 : kX1_nextSecond 100 = some (s_ild 101 3) := rfl
theorem kX1_nextSecond_101 : kX1_nextSecond 101 = some (s_max 104) := rfl
theorem kX1_nextSecond_104 : kX1_nextSecond 104 = some (s_min 107) := rfl
theorem kX1_nextSecond_107 : kX1_nextSecond 107 = some (s_ist 108 2) := rfl
theorem kX1_nextSecond_108 : kX1_nextSecond 108 = some (s_inc 111 4 (1)) := rfl
theorem kX1_nextSecond_111 : kX1_nextSecond 111 = some (s_goto 64) := rfl
theorem kX1_nextSecond_114 : kX1_nextSecond 114 = some (s_ild 115 2) := rfl
theorem kX1_nextSecond_115 : kX1_nextSecond 115 = some (s_ild 116 1) := rfl
theorem kX1_nextSecond_116 : kX1_nextSecond 116 = some (s_push 117 (.inl (1))) := rfl
theorem kX1_nextSecond_117 : kX1_nextSecond 117 = some (s_bin 118 (fun x y => m_wrap (x + y))) := rfl
theorem kX1_nextSecond_118 : kX1_nextSecond 118 = some (s_max 121) := rfl
theorem kX1_nextSecond_121 : kX1_nextSecond 121 = some (s_ret) := rfl
def wX1_nextSecond : m_GK := m_wp 5 kX1_nextSecond
set_option maxRecDepth 100000 in
set_option maxHeartbeats 4000000 in
theorem sX1_nextSecond (l : Launch) (X : m_X) (hX : m_inj X.1) : m_Sound l X 1 yX1_nextSecond cX1_nextSecond 5 (some .int) wX1_nextSecond := m_sound_of hX (by decide) (fun p e s m args below meth c q C hr => m_bt_all (m_bt_all (m_bt_all (m_bt_all (m_bt_all (m_lf_all (o_sipush C (x := (7200)) (m_rngd rfl) rfl dX1_nextSecond_0 rfl)) (m_bt_all (m_lf_all (o_istore_n C (i := 2) rfl dX1_nextSecond_3 rfl)) (m_lf_all (o_aload_n C (i := 0) rfl dX1_nextSecond_4 rfl)))) (m_bt_all (m_bt_all (m_lf_all (o_get C (ci := 1) (k := 9) (N := 11) (rf := RX1) (T := TX1) rfl ginX1 (Nat.le_of_ble_eq_true rfl) (m_tb_of 295 (by decide +kernel) rfl) dX1_nextSecond_5 rfl)) (m_lf_all (o_aload_n C (i := 0) rfl dX1_nextSecond_8 rfl))) (m_bt_all (m_lf_all (o_get C (ci := 1) (k := 6) (N := 11) (rf := RX1) (T := TX1) rfl ginX1 (Nat.le_of_ble_eq_true rfl) (m_tb_of 292 (by decide +kernel) rfl) dX1_nextSecond_9 rfl)) (m_lf_all (o_get C (ci := 0) (k := 0) (N := 8) (rf := RX0) (T := TX0) rfl ginX0 (Nat.le_of_ble_eq_true rfl) (m_tb_of 244 (by decide +kernel) rfl) dX1_nextSecond_12 rfl))))) (m_bt_all (m_bt_all (m_bt_all (m_lf_all (o_icmp_ge C dX1_nextSecond_15 rfl rfl)) (m_lf_all (o_iload_n C (i := 2) rfl dX1_nextSecond_18 rfl))) (m_bt_all (m_lf_all (o_aload_n C (i := 0) rfl dX1_nextSecond_19 rfl)) (m_lf_all (o_get C (ci := 1) (k := 6) (N := 11) (rf := RX1) (T := TX1) rfl ginX1 (Nat.le_of_ble_eq_true rfl) (m_tb_of 292 (by decide +kernel) rfl) dX1_nextSecond_20 rfl)))) (m_bt_all (m_bt_all (m_lf_all (o_get C (ci := 0) (k := 2) (N := 8) (rf := RX0) (T := TX0) rfl ginX0 (Nat.le_of_ble_eq_true rfl) (m_tb_of 249 (by decide +kernel) rfl) dX1_nextSecond_23 rfl)) (m_lf_all (o_aload_n C (i := 0) rfl dX1_nextSecond_26 rfl))) (m_bt_all (m_lf_all (o_get C (ci := 1) (k := 9) (N := 11) (rf := RX1) (T := TX1) rfl ginX1 (Nat.le_of_ble_eq_true rfl) (m_tb_of 295 (by decide +kernel) rfl) dX1_nextSecond_27 rfl)) (m_lf_all (o_iald C dX1_nextSecond_30 rfl)))))) (m_bt_all (m_bt_all (m_bt_all (m_bt_all (m_lf_all (o_min C (m_tb_of 633 (by decide +kernel) rfl) (m_tb_of 615 (by decide +kernel) rfl) (m_tb_of 87 (by decide +kernel) rfl) (m_tb_of 616 (by decide +kernel) rfl) ⟨Nat.le_of_ble_eq_true rfl, Nat.le_of_ble_eq_true rfl⟩ dX1_nextSecond_31 rfl)) (m_lf_all (o_istore_n C (i := 2) rfl dX1_nextSecond_34 rfl))) (m_bt_all (m_lf_all (o_aload_n C (i := 0) rfl dX1_nextSecond_35 rfl)) (m_lf_all (o_get C (ci := 1) (k := 5) (N := 11) (rf := RX1) (T := TX1) rfl ginX1 (Nat.le_of_ble_eq_true rfl) (m_tb_of 290 (by decide +kernel) rfl) dX1_nextSecond_36 rfl)))) (m_bt_all (m_bt_all (m_lf_all (o_if_ge C dX1_nextSecond_39 rfl rfl)) (m_lf_all (o_iconst C (x := (0)) (m_rngd rfl) dX1_nextSecond_42 rfl))) (m_bt_all (m_lf_all (o_goto C dX1_nextSecond_43 rfl)) (m_lf_all (o_aload_n C (i := 0) rfl dX1_nextSecond_46 rfl))))) (m_bt_all (m_bt_all (m_bt_all (m_lf_all (o_get C (ci := 1) (k := 5) (N := 11) (rf := RX1) (T := TX1) rfl ginX1 (Nat.le_of_ble_eq_true rfl) (m_tb_of 290 (by decide +kernel) rfl) dX1_nextSecond_47 rfl)) (m_lf_all (o_aload_n C (i := 0) rfl dX1_nextSecond_50 rfl))) (m_bt_all (m_lf_all (o_get C (ci := 1) (k := 7) (N := 11) (rf := RX1) (T := TX1) rfl ginX1 (Nat.le_of_ble_eq_true rfl) (m_tb_of 293 (by decide +kernel) rfl) dX1_nextSecond_51 rfl)) (m_lf_all (o_get C (ci := 2) (k := 7) (N := 8) (rf := RX2) (T := TX2) rfl ginX2 (Nat.le_of_ble_eq_true rfl) (m_tb_of 129 (by decide +kernel) rfl) dX1_nextSecond_54 rfl)))) (m_bt_all (m_bt_all (m_lf_all (o_iconst C (x := (1)) (m_rngd rfl) dX1_nextSecond_57 rfl)) (m_lf_all (o_iald C dX1_nextSecond_58 rfl))) (m_bt_all (m_lf_all (o_iadd C dX1_nextSecond_59 rfl)) (m_lf_all (o_istore_n C (i := 3) rfl dX1_nextSecond_60 rfl))))))) (m_bt_all (m_bt_all (m_bt_all (m_bt_all (m_lf_all (o_iconst C (x := (0)) (m_rngd rfl) dX1_nextSecond_61 rfl)) (m_bt_all (m_lf_all (o_istore C dX1_nextSecond_62 rfl)) (m_lf_all (o_iload C dX1_nextSecond_64 rfl)))) (m_bt_all (m_bt_all (m_lf_all (o_aload_n C (i := 0) rfl dX1_nextSecond_66 rfl)) (m_lf_all (o_get C (ci := 1) (k := 7) (N := 11) (rf := RX1) (T := TX1) rfl ginX1 (Nat.le_of_ble_eq_true rfl) (m_tb_of 293 (by decide +kernel) rfl) dX1_nextSecond_67 rfl))) (m_bt_all (m_lf_all (o_get C (ci := 2) (k := 1) (N := 8) (rf := RX2) (T := TX2) rfl ginX2 (Nat.le_of_ble_eq_true rfl) (m_tb_of 112 (by decide +kernel) rfl) dX1_nextSecond_70 rfl)) (m_lf_all (o_icmp_ge C dX1_nextSecond_73 rfl rfl))))) (m_bt_all (m_bt_all (m_bt_all (m_lf_all (o_aload_n C (i := 0) rfl dX1_nextSecond_76 rfl)) (m_lf_all (o_get C (ci := 1) (k := 3) (N := 11) (rf := RX1) (T := TX1) rfl ginX1 (Nat.le_of_ble_eq_true rfl) (m_tb_of 286 (by decide +kernel) rfl) dX1_nextSecond_77 rfl))) (m_bt_all (m_lf_all (o_iload C dX1_nextSecond_80 rfl)) (m_lf_all (o_aald C dX1_nextSecond_82 rfl)))) (m_bt_all (m_bt_all (m_lf_all (o_get C (ci := 3) (k := 5) (N := 12) (rf := RX3) (T := TX3) rfl ginX3 (Nat.le_of_ble_eq_true rfl) (m_tb_of 200 (by decide +kernel) rfl) dX1_nextSecond_83 rfl)) (m_lf_all (o_if_eq C dX1_nextSecond_86 rfl rfl))) (m_bt_all (m_lf_all (o_iload_n C (i := 2) rfl dX1_nextSecond_89 rfl)) (m_lf_all (o_aload_n C (i := 0) rfl dX1_nextSecond_90 rfl)))))) (m_bt_all (m_bt_all (m_bt_all (m_bt_all (m_lf_all (o_get C (ci := 1) (k := 3) (N := 11) (rf := RX1) (T := TX1) rfl ginX1 (Nat.le_of_ble_eq_true rfl) (m_tb_of 286 (by decide +kernel) rfl) dX1_nextSecond_91 rfl)) (m_lf_all (o_iload C dX1_nextSecond_94 rfl))) (m_bt_all (m_lf_all (o_aald C dX1_nextSecond_96 rfl)) (m_lf_all (o_get C (ci := 3) (k := 2) (N := 12) (rf := RX3) (T := TX3) rfl ginX3 (Nat.le_of_ble_eq_true rfl) (m_tb_of 193 (by decide +kernel) rfl) dX1_nextSecond_97 rfl)))) (m_bt_all (m_bt_all (m_lf_all (o_iload_n C (i := 3) rfl dX1_nextSecond_100 rfl)) (m_lf_all (o_max C (m_tb_of 649 (by decide +kernel) rfl) (m_tb_of 650 (by decide +kernel) rfl) (m_tb_of 87 (by decide +kernel) rfl) (m_tb_of 651 (by decide +kernel) rfl) ⟨Nat.le_of_ble_eq_true rfl, Nat.le_of_ble_eq_true rfl⟩ dX1_nextSecond_101 rfl))) (m_bt_all (m_lf_all (o_min C (m_tb_of 633 (by decide +kernel) rfl) (m_tb_of 615 (by decide +kernel) rfl) (m_tb_of 87 (by decide +kernel) rfl) (m_tb_of 616 (by decide +kernel) rfl) ⟨Nat.le_of_ble_eq_true rfl, Nat.le_of_ble_eq_true rfl⟩ dX1_nextSecond_104 rfl)) (m_lf_all (o_istore_n C (i := 2) rfl dX1_nextSecond_107 rfl))))) (m_bt_all (m_bt_all (m_bt_all (m_lf_all (o_iinc C dX1_nextSecond_108 rfl)) (m_lf_all (o_goto C dX1_nextSecond_111 rfl))) (m_bt_all (m_lf_all (o_iload_n C (i := 2) rfl dX1_nextSecond_114 rfl)) (m_lf_all (o_iload_n C (i := 1) rfl dX1_nextSecond_115 rfl)))) (m_bt_all (m_bt_all (m_lf_all (o_iconst C (x := (1)) (m_rngd rfl) dX1_nextSecond_116 rfl)) (m_lf_all (o_iadd C dX1_nextSecond_117 rfl))) (m_bt_all (m_lf_all (o_max C (m_tb_of 649 (by decide +kernel) rfl) (m_tb_of 650 (by decide +kernel) rfl) (m_tb_of 87 (by decide +kernel) rfl) (m_tb_of 651 (by decide +kernel) rfl) ⟨Nat.le_of_ble_eq_true rfl, Nat.le_of_ble_eq_true rfl⟩ dX1_nextSecond_118 rfl)) (m_lf_all (o_iret C hr dX1_nextSecond_121))))))))
set_option maxRecDepth 20000 in
def kX1_closeLine : m_C := m_bt 56 (m_bt 24 (m_bt 9 (m_bt 5 (m_bt 1 (m_lf 0 (s_ald 1 1)) (m_bt 4 (m_lf 1 (s_get 4 3 7)) (m_lf 4 (s_ist 5 2)))) (m_bt 7 (m_bt 6 (m_lf 5 (s_push 6 (.inl (0)))) (m_lf 6 (s_ist 7 3))) (m_bt 8 (m_lf 7 (s_ild 8 3)) (m_lf 8 (s_ald 9 1))))) (m_bt 16 (m_bt 12 (m_lf 9 (s_get 12 3 0)) (m_bt 15 (m_lf 12 (s_icmp 15 105 (fun x y => y ≤ x))) (m_lf 15 (s_ild 16 2)))) (m_bt 20 (m_bt 19 (m_lf 16 (s_if 19 105 (fun x => x < 0))) (m_lf 19 (s_ild 20 3))) (m_bt 23 (m_lf 20 (s_if 23 34 (fun x => ¬ x = 0))) (m_lf 23 (s_ald 24 1)))))) (m_bt 39 (m_bt 31 (m_bt 27 (m_lf 24 (s_get 27 3 5)) (m_bt 30 (m_lf 27 (s_if 30 34 (fun x => x = 0))) (m_lf 30 (s_push 31 (.inl (1)))))) (m_bt 35 (m_bt 34 (m_lf 31 (s_goto 35)) (m_lf 34 (s_push 35 (.inl (0))))) (m_bt 37 (m_lf 35 (s_ist 37 4)) (m_lf 37 (s_ild 39 4))))) (m_bt 46 (m_bt 42 (m_lf 39 (s_if 42 55 (fun x => x = 0))) (m_bt 43 (m_lf 42 (s_ald 43 1)) (m_lf 43 (s_get 46 3 2)))) (m_bt 52 (m_bt 49 (m_lf 46 (s_push 49 (.inl (7200)))) (m_lf 49 (s_min 52))) (m_bt 55 (m_lf 52 (s_goto 64)) (m_lf 55 (s_ald 56 0))))))) (m_bt 81 (m_bt 70 (m_bt 63 (m_bt 59 (m_lf 56 (s_get 59 1 6)) (m_bt 62 (m_lf 59 (s_get 62 0 2)) (m_lf 62 (s_ild 63 2)))) (m_bt 66 (m_bt 64 (m_lf 63 (s_iald 64)) (m_lf 64 (s_ist 66 5))) (m_bt 67 (m_lf 66 (s_ald 67 0)) (m_lf 67 (s_get 70 1 0))))) (m_bt 77 (m_bt 71 (m_lf 70 (s_ald 71 0)) (m_bt 74 (m_lf 71 (s_get 74 1 6)) (m_lf 74 (s_get 77 0 1)))) (m_bt 79 (m_bt 78 (m_lf 77 (s_ild 78 2)) (m_lf 78 (s_iald 79))) (m_bt 80 (m_lf 79 (s_dup2 80)) (m_lf 80 (s_iald 81)))))) (m_bt 93 (m_bt 87 (m_bt 84 (m_lf 81 (s_push 84 (.inl (7200)))) (m_bt 86 (m_lf 84 (s_ild 86 5)) (m_lf 86 (s_bin 87 (fun x y => m_wrap (x - y)))))) (m_bt 89 (m_bt 88 (m_lf 87 (s_bin 88 (fun x y => m_wrap (x + y)))) (m_lf 88 (s_iast 89))) (m_bt 90 (m_lf 89 (s_ald 90 0)) (m_lf 90 (s_get 93 1 6))))) (m_bt 98 (m_bt 96 (m_lf 93 (s_get 96 0 4)) (m_bt 97 (m_lf 96 (s_ild 97 2)) (m_lf 97 (s_iald 98)))) (m_bt 102 (m_bt 99 (m_lf 98 (s_ist 99 2)) (m_lf 99 (s_inc 102 3 (1)))) (m_bt 105 (m_lf 102 (s_goto 7)) (m_lf 105 (s_retv)))))))
theorem kX1_closeLine_0 : kX1_closeLine 0 = some (s_ald 1 1) := rfl
theorem kX1_closeLine_1 : kX1_closeLine 1 = some (s_get 4 3 7) := rfl
theorem kX1_closeLine_4 : kX1_closeLine 4 = some (s_ist 5 2) := rfl
theorem kX1_closeLine_5 : kX1_closeLine 5 = some (s_push 6 (.inl (0))) := rfl
theorem kX1_closeLine_6 : kX1_closeLine 6 = some (s_ist 7 3) := rfl
theorem kX1_closeLine_7 : kX1_closeLine 7 = some (s_ild 8 3) := rfl
theorem kX1_closeLine_8 : kX1_closeLine 8 = some (s_ald 9 1) := rfl
theorem kX1_closeLine_9 : kX1_closeLine 9 = some (s_get 12 3 0) := rfl
theorem kX1_closeLine_12 : kX1_closeLine 12 = some (s_icmp 15 105 (fun x y => y ≤ x)) := rfl
theorem kX1_closeLine_15 : kX1_closeLine 15 = some (s_ild 16 2) := rfl
theorem kX1_closeLine_16 : kX1_closeLine 16 = some (s_if 19 105 (fun x => x < 0)) := rfl
theorem kX1_closeLine_19 : kX1_closeLine 19 = some (s_ild 20 3) := rfl
theorem kX1_closeLine_20 : kX1_closeLine 20 = some (s_if 23 34 (fun x => ¬ x = 0)) := rfl
theorem kX1_closeLine_23 : kX1_closeLine 23 = some (s_ald 24 1) := rfl
theorem kX1_closeLine_24 : kX1_closeLine 24 = some (s_get 27 3 5) := rfl
theorem kX1_closeLine_27 : kX1_closeLine 27 = some (s_if 30 34 (fun x => x = 0)) := rfl
theorem kX1_closeLine_30 : kX1_closeLine 30 = some (s_push 31 (.inl (1))) := rfl
theorem kX1_closeLine_31 : kX1_closeLine 31 = some (s_goto 35) := rfl
theorem kX1_closeLine_34 : kX1_closeLine 34 = some (s_push 35 (.inl (0))) := rfl
theorem kX1_closeLine_35 : kX1_closeLine 35 = some (s_ist 37 4) := rfl
theorem kX1_closeLine_37 : kX1_closeLine 37 = some (s_ild 39 4) := rfl
theorem kX1_closeLine_39 : kX1_closeLine 39 = some (s_if 42 55 (fun x => x = 0)) := rfl
theorem kX1_closeLine_42 : kX1_closeLine 42 = some (s_ald 43 1) := rfl
theorem kX1_closeLine_43 : kX1_closeLine 43 = some (s_get 46 3 2) := rfl
theorem kX1_closeLine_46 : kX1_closeLine 46 = some (s_push 49 (.inl (7200))) := rfl
theorem kX1_closeLine_49 : kX1_closeLine 49 = some (s_min 52) := rfl
theorem kX1_closeLine_52 : kX1_closeLine 52 = some (s_goto 64) := rfl
theorem kX1_closeLine_55 : kX1_closeLine 55 = some (s_ald 56 0) := rfl
theorem kX1_closeLine_56 : kX1_closeLine 56 = some (s_get 59 1 6) := rfl
theorem kX1_closeLine_59 : kX1_closeLine 59 = some (s_get 62 0 2) := rfl
theorem kX1_closeLine_62 : kX1_closeLine 62 = some (s_ild 63 2) := rfl
theorem kX1_closeLine_63 : kX1_closeLine 63 = some (s_iald 64) := rfl
theorem kX1_closeLine_64 : kX1_closeLine 64 = some (s_ist 66 5) := rfl
theorem kX1_closeLine_66 : kX1_closeLine 66 = some (s_ald 67 0) := rfl
theorem kX1_closeLine_67 : kX1_closeLine 67 = some (s_get 70 1 0) := rfl
theorem kX1_closeLine_70 : kX1_closeLine 70 = some (s_ald 71 0) := rfl
theorem kX1_closeLine_71 : kX1_closeLine 71 = some (s_get 74 1 6) := rfl
theorem kX1_closeLine_74 : kX1_closeLine 74 = some (s_get 77 0 1) := rfl
theorem kX1_closeLine_77 : kX1_closeLine 77 = some (s_ild 78 2) := rfl
theorem kX1_closeLine_78 : kX1_closeLine 78 = some (s_iald 79) := rfl
theorem kX1_closeLine_79 : kX1_closeLine 79 = some (s_dup2 80) := rfl
theorem kX1_closeLine_80 : kX1_closeLine 80 = some (s_iald 81) := rfl
theorem kX1_closeLine_81 : kX1_closeLine 81 = some (s_push 84 (.inl (7200))) := rfl
theorem kX1_closeLine_84 : kX1_closeLine 84 = some (s_ild 86 5) := rfl
theorem kX1_closeLine_86 : kX1_closeLine 86 = some (s_bin 87 (fun x y => m_wrap (x - y))) := rfl
theorem kX1_closeLine_87 : kX1_closeLine 87 = some (s_bin 88 (fun x y => m_wrap (x + y))) := rfl
theorem kX1_closeLine_88 : kX1_closeLine 88 = some (s_iast 89) := rfl
theorem kX1_closeLine_89 : kX1_closeLine 89 = some (s_ald 90 0) := rfl
theorem kX1_closeLine_90 : kX1_closeLine 90 = some (s_get 93 1 6) := rfl
theorem kX1_closeLine_93 : kX1_closeLine 93 = some (s_get 96 0 4) := rfl
theorem kX1_closeLine_96 : kX1_closeLine 96 = some (s_ild 97 2) := rfl
theorem kX1_closeLine_97 : kX1_closeLine 97 = some (s_iald 98) := rfl
theorem kX1_closeLine_98 : kX1_closeLine 98 = some (s_ist 99 2) := rfl
theorem kX1_closeLine_99 : kX1_closeLine 99 = some (s_inc 102 3 (1)) := rfl
theorem kX1_closeLine_102 : kX1_closeLine 102 = some (s_goto 7) := rfl
theorem kX1_closeLine_105 : kX1_closeLine 105 = some (s_retv) := rfl
def wX1_closeLine : m_GK := m_wp 6 kX1_closeLine
set_option maxRecDepth 100000 in
set_option maxHeartbeats 4000000 in
theorem sX1_closeLine (l : Launch) (X : m_X) (hX : m_inj X.1) : m_Sound l X 1 yX1_closeLine cX1_closeLine 6 none wX1_closeLine := m_sound_of hX (by decide) (fun p e s m args below meth c q C hr => m_bt_all (m_bt_all (m_bt_all (m_bt_all (m_bt_all (m_lf_all (o_aload_n C (i := 1) rfl dX1_closeLine_0 rfl)) (m_bt_all (m_lf_all (o_get C (ci := 3) (k := 7) (N := 12) (rf := RX3) (T := TX3) rfl ginX3 (Nat.le_of_ble_eq_true rfl) (m_tb_of 204 (by decide +kernel) rfl) dX1_closeLine_1 rfl)) (m_lf_all (o_istore_n C (i := 2) rfl dX1_closeLine_4 rfl)))) (m_bt_all (m_bt_all (m_lf_all (o_iconst C (x := (0)) (m_rngd rfl) dX1_closeLine_5 rfl)) (m_lf_all (o_istore_n C (i := 3) rfl dX1_closeLine_6 rfl))) (m_bt_all (m_lf_all (o_iload_n C (i := 3) rfl dX1_closeLine_7 rfl)) (m_lf_all (o_aload_n C (i := 1) rfl dX1_closeLine_8 rfl))))) (m_bt_all (m_bt_all (m_lf_all (o_get C (ci := 3) (k := 0) (N := 12) (rf := RX3) (T := TX3) rfl ginX3 (Nat.le_of_ble_eq_true rfl) (m_tb_of 190 (by decide +kernel) rfl) dX1_closeLine_9 rfl)) (m_bt_all (m_lf_all (o_icmp_ge C dX1_closeLine_12 rfl rfl)) (m_lf_all (o_iload_n C (i := 2) rfl dX1_closeLine_15 rfl)))) (m_bt_all (m_bt_all (m_lf_all (o_if_lt C dX1_closeLine_16 rfl rfl)) (m_lf_all (o_iload_n C (i := 3) rfl dX1_closeLine_19 rfl))) (m_bt_all (m_lf_all (o_if_ne C dX1_closeLine_20 rfl rfl)) (m_lf_all (o_aload_n C (i := 1) rfl dX1_closeLine_23 rfl)))))) (m_bt_all (m_bt_all (m_bt_all (m_lf_all (o_get C (ci := 3) (k := 5) (N := 12) (rf := RX3) (T := TX3) rfl ginX3 (Nat.le_of_ble_eq_true rfl) (m_tb_of 200 (by decide +kernel) rfl) dX1_closeLine_24 rfl)) (m_bt_all (m_lf_all (o_if_eq C dX1_closeLine_27 rfl rfl)) (m_lf_all (o_iconst C (x := (1)) (m_rngd rfl) dX1_closeLine_30 rfl)))) (m_bt_all (m_bt_all (m_lf_all (o_goto C dX1_closeLine_31 rfl)) (m_lf_all (o_iconst C (x := (0)) (m_rngd rfl) dX1_closeLine_34 rfl))) (m_bt_all (m_lf_all (o_istore C dX1_closeLine_35 rfl)) (m_lf_all (o_iload C dX1_closeLine_37 rfl))))) (m_bt_all (m_bt_all (m_lf_all (o_if_eq C dX1_closeLine_39 rfl rfl)) (m_bt_all (m_lf_all (o_aload_n C (i := 1) rfl dX1_closeLine_42 rfl)) (m_lf_all (o_get C (ci := 3) (k := 2) (N := 12) (rf := RX3) (T := TX3) rfl ginX3 (Nat.le_of_ble_eq_true rfl) (m_tb_of 193 (by decide +kernel) rfl) dX1_closeLine_43 rfl)))) (m_bt_all (m_bt_all (m_lf_all (o_sipush C (x := (7200)) (m_rngd rfl) rfl dX1_closeLine_46 rfl)) (m_lf_all (o_min C (m_tb_of 633 (by decide +kernel) rfl) (m_tb_of 615 (by decide +kernel) rfl) (m_tb_of 87 (by decide +kernel) rfl) (m_tb_of 616 (by decide +kernel) rfl) ⟨Nat.le_of_ble_eq_true rfl, Nat.le_of_ble_eq_true rfl⟩ dX1_closeLine_49 rfl))) (m_bt_all (m_lf_all (o_goto C dX1_closeLine_52 rfl)) (m_lf_all (o_aload_n C (i := 0) rfl dX1_closeLine_55 rfl))))))) (m_bt_all (m_bt_all (m_bt_all (m_bt_all (m_lf_all (o_get C (ci := 1) (k := 6) (N := 11) (rf := RX1) (T := TX1) rfl ginX1 (Nat.le_of_ble_eq_true rfl) (m_tb_of 292 (by decide +kernel) rfl) dX1_closeLine_56 rfl)) (m_bt_all (m_lf_all (o_get C (ci := 0) (k := 2) (N := 8) (rf := RX0) (T := TX0) rfl ginX0 (Nat.le_of_ble_eq_true rfl) (m_tb_of 249 (by decide +kernel) rfl) dX1_closeLine_59 rfl)) (m_lf_all (o_iload_n C (i := 2) rfl dX1_closeLine_62 rfl)))) (m_bt_all (m_bt_all (m_lf_all (o_iald C dX1_closeLine_63 rfl)) (m_lf_all (o_istore C dX1_closeLine_64 rfl))) (m_bt_all (m_lf_all (o_aload_n C (i := 0) rfl dX1_closeLine_66 rfl)) (m_lf_all (o_get C (ci := 1) (k := 0) (N := 11) (rf := RX1) (T := TX1) rfl ginX1 (Nat.le_of_ble_eq_true rfl) (m_tb_of 280 (by decide +kernel) rfl) dX1_closeLine_67 rfl))))) (m_bt_all (m_bt_all (m_lf_all (o_aload_n C (i := 0) rfl dX1_closeLine_70 rfl)) (m_bt_all (m_lf_all (o_get C (ci := 1) (k := 6) (N := 11) (rf := RX1) (T := TX1) rfl ginX1 (Nat.le_of_ble_eq_true rfl) (m_tb_of 292 (by decide +kernel) rfl) dX1_closeLine_71 rfl)) (m_lf_all (o_get C (ci := 0) (k := 1) (N := 8) (rf := RX0) (T := TX0) rfl ginX0 (Nat.le_of_ble_eq_true rfl) (m_tb_of 247 (by decide +kernel) rfl) dX1_closeLine_74 rfl)))) (m_bt_all (m_bt_all (m_lf_all (o_iload_n C (i := 2) rfl dX1_closeLine_77 rfl)) (m_lf_all (o_iald C dX1_closeLine_78 rfl))) (m_bt_all (m_lf_all (o_dup2 C dX1_closeLine_79 rfl)) (m_lf_all (o_iald C dX1_closeLine_80 rfl)))))) (m_bt_all (m_bt_all (m_bt_all (m_lf_all (o_sipush C (x := (7200)) (m_rngd rfl) rfl dX1_closeLine_81 rfl)) (m_bt_all (m_lf_all (o_iload C dX1_closeLine_84 rfl)) (m_lf_all (o_isub C dX1_closeLine_86 rfl)))) (m_bt_all (m_bt_all (m_lf_all (o_iadd C dX1_closeLine_87 rfl)) (m_lf_all (o_iast C dX1_closeLine_88 rfl))) (m_bt_all (m_lf_all (o_aload_n C (i := 0) rfl dX1_closeLine_89 rfl)) (m_lf_all (o_get C (ci := 1) (k := 6) (N := 11) (rf := RX1) (T := TX1) rfl ginX1 (Nat.le_of_ble_eq_true rfl) (m_tb_of 292 (by decide +kernel) rfl) dX1_closeLine_90 rfl))))) (m_bt_all (m_bt_all (m_lf_all (o_get C (ci := 0) (k := 4) (N := 8) (rf := RX0) (T := TX0) rfl ginX0 (Nat.le_of_ble_eq_true rfl) (m_tb_of 255 (by decide +kernel) rfl) dX1_closeLine_93 rfl)) (m_bt_all (m_lf_all (o_iload_n C (i := 2) rfl dX1_closeLine_96 rfl)) (m_lf_all (o_iald C dX1_closeLine_97 rfl)))) (m_bt_all (m_bt_all (m_lf_all (o_istore_n C (i := 2) rfl dX1_closeLine_98 rfl)) (m_lf_all (o_iinc C dX1_closeLine_99 rfl))) (m_bt_all (m_lf_all (o_goto C dX1_closeLine_102 rfl)) (m_lf_all (o_vret C hr dX1_closeLine_105))))))))
