/-! the shape's tables, row by row -/
theorem ob_0 : m_ob 0 8 = True := eq_true ⟨by decide, by decide +kernel, by decide +kernel⟩
theorem fv_0_0 {g : m_G} : m_fv 0 0 g = .inr (.inr 1) := rfl
theorem fv_0_1 {g : m_G} : m_fv 0 1 g = .inr (.inr 8) := rfl
theorem fv_0_2 {g : m_G} : m_fv 0 2 g = .inr (.inr 36) := rfl
theorem fv_0_3 {g : m_G} : m_fv 0 3 g = .inr (.inr 39) := rfl
theorem fv_0_4 {g : m_G} : m_fv 0 4 g = .inr (.inr 58) := rfl
theorem fv_0_5 {g : m_G} : m_fv 0 5 g = .inr (.inr 59) := rfl
theorem fv_0_6 {g : m_G} : m_fv 0 6 g = .inr (.inr 62) := rfl
theorem fv_0_7 {g : m_G} : m_fv 0 7 g = .inr (.inr 64) := rfl
theorem fv_0_8 {g : m_G} : m_fv 0 8 g = .inr (.inr 65) := rfl
theorem fv_0_9 {g : m_G} : m_fv 0 9 g = .inl (g 0 9) := rfl
theorem fs_0_9 : m_fs 0 9 = 0 := rfl
theorem fv_0_10 {g : m_G} : m_fv 0 10 g = .inl (g 0 10) := rfl
theorem fs_0_10 : m_fs 0 10 = 0 := rfl
theorem ob_36 : m_ob 36 6 = True := eq_true ⟨by decide, by decide +kernel, by decide +kernel⟩
theorem fv_36_0 {g : m_G} : m_fv 36 0 g = .inl (g 36 0) := rfl
theorem fs_36_0 : m_fs 36 0 = 0 := rfl
theorem fv_36_1 {g : m_G} : m_fv 36 1 g = .inr (.inr 37) := rfl
theorem fv_36_2 {g : m_G} : m_fv 36 2 g = .inr (.inr 38) := rfl
theorem fv_36_3 {g : m_G} : m_fv 36 3 g = .inr (.inr 15) := rfl
theorem fv_36_4 {g : m_G} : m_fv 36 4 g = .inl (g 36 4) := rfl
theorem fs_36_4 : m_fs 36 4 = 0 := rfl
theorem fv_36_5 {g : m_G} : m_fv 36 5 g = .inl (g 36 5) := rfl
theorem fs_36_5 : m_fs 36 5 = 0 := rfl
theorem kd_37 : m_kd 37 = 1 := rfl
theorem ln_37 : ((m_len 37 : Nat) : Int) = 64 := rfl
theorem kd_38 : m_kd 38 = 1 := rfl
theorem ln_38 : ((m_len 38 : Nat) : Int) = 3 := rfl
theorem ob_39 : m_ob 39 1 = True := eq_true ⟨by decide, by decide +kernel, by decide +kernel⟩
theorem fv_39_0 {g : m_G} : m_fv 39 0 g = .inr (.inr 40) := rfl
theorem fv_39_1 {g : m_G} : m_fv 39 1 g = .inr (.inr 41) := rfl
theorem fv_39_2 {g : m_G} : m_fv 39 2 g = .inr (.inr 42) := rfl
theorem fv_39_3 {g : m_G} : m_fv 39 3 g = .inr (.inr 43) := rfl
theorem fv_39_4 {g : m_G} : m_fv 39 4 g = .inl (g 39 4) := rfl
theorem fs_39_4 : m_fs 39 4 = 0 := rfl
theorem fv_39_5 {g : m_G} : m_fv 39 5 g = .inl (g 39 5) := rfl
theorem fs_39_5 : m_fs 39 5 = 0 := rfl
theorem fv_39_6 {g : m_G} : m_fv 39 6 g = .inr (.inr 50) := rfl
theorem fv_39_7 {g : m_G} : m_fv 39 7 g = .inr (.inr (g 39 7).toNat) := rfl
theorem fs_39_7 : m_fs 39 7 = 1 := rfl
theorem fv_39_8 {g : m_G} : m_fv 39 8 g = .inl (g 39 8) := rfl
theorem fs_39_8 : m_fs 39 8 = 0 := rfl
theorem fv_39_9 {g : m_G} : m_fv 39 9 g = .inl (g 39 9) := rfl
theorem fs_39_9 : m_fs 39 9 = 0 := rfl
theorem fv_39_10 {g : m_G} : m_fv 39 10 g = .inl (g 39 10) := rfl
theorem fs_39_10 : m_fs 39 10 = 0 := rfl
theorem kd_40 : m_kd 40 = 1 := rfl
theorem ln_40 : ((m_len 40 : Nat) : Int) = 5 := rfl
theorem kd_41 : m_kd 41 = 1 := rfl
theorem ln_41 : ((m_len 41 : Nat) : Int) = 5 := rfl
theorem kd_42 : m_kd 42 = 1 := rfl
theorem ln_42 : ((m_len 42 : Nat) : Int) = 5 := rfl
theorem kd_43 : m_kd 43 = 3 := rfl
theorem ln_43 : ((m_len 43 : Nat) : Int) = 6 := rfl
theorem ob_50 : m_ob 50 0 = True := eq_true ⟨by decide, by decide +kernel, by decide +kernel⟩
theorem fv_50_0 {g : m_G} : m_fv 50 0 g = .inl (g 50 0) := rfl
theorem fs_50_0 : m_fs 50 0 = 0 := rfl
theorem fv_50_1 {g : m_G} : m_fv 50 1 g = .inr (.inr 51) := rfl
theorem fv_50_2 {g : m_G} : m_fv 50 2 g = .inr (.inr 52) := rfl
theorem fv_50_3 {g : m_G} : m_fv 50 3 g = .inr (.inr 53) := rfl
theorem fv_50_4 {g : m_G} : m_fv 50 4 g = .inr (.inr 54) := rfl
theorem fv_50_5 {g : m_G} : m_fv 50 5 g = .inr (.inr 55) := rfl
theorem fv_50_6 {g : m_G} : m_fv 50 6 g = .inr (.inr 56) := rfl
theorem fv_50_7 {g : m_G} : m_fv 50 7 g = .inr (.inr 57) := rfl
theorem kd_51 : m_kd 51 = 1 := rfl
theorem ln_51 : ((m_len 51 : Nat) : Int) = 500 := rfl
theorem kd_52 : m_kd 52 = 1 := rfl
theorem ln_52 : ((m_len 52 : Nat) : Int) = 500 := rfl
theorem kd_53 : m_kd 53 = 1 := rfl
theorem ln_53 : ((m_len 53 : Nat) : Int) = 500 := rfl
theorem kd_54 : m_kd 54 = 1 := rfl
theorem ln_54 : ((m_len 54 : Nat) : Int) = 500 := rfl
theorem kd_55 : m_kd 55 = 2 := rfl
theorem ln_55 : ((m_len 55 : Nat) : Int) = 500 := rfl
theorem kd_56 : m_kd 56 = 1 := rfl
theorem ln_56 : ((m_len 56 : Nat) : Int) = 5 := rfl
theorem kd_57 : m_kd 57 = 1 := rfl
theorem ln_57 : ((m_len 57 : Nat) : Int) = 5 := rfl
theorem ob_58 : m_ob 58 4 = True := eq_true ⟨by decide, by decide +kernel, by decide +kernel⟩
theorem fv_58_0 {g : m_G} : m_fv 58 0 g = .inr (.inr 22) := rfl
theorem ob_59 : m_ob 59 7 = True := eq_true ⟨by decide, by decide +kernel, by decide +kernel⟩
theorem fv_59_0 {g : m_G} : m_fv 59 0 g = .inr (.inr 60) := rfl
theorem fv_59_1 {g : m_G} : m_fv 59 1 g = .inl (g 59 1) := rfl
theorem fs_59_1 : m_fs 59 1 = 0 := rfl
theorem fv_59_2 {g : m_G} : m_fv 59 2 g = .inr (.inr 61) := rfl
theorem kd_60 : m_kd 60 = 1 := rfl
theorem ln_60 : ((m_len 60 : Nat) : Int) = 6 := rfl
theorem kd_61 : m_kd 61 = 1 := rfl
theorem ln_61 : ((m_len 61 : Nat) : Int) = 6 := rfl
theorem ob_62 : m_ob 62 5 = True := eq_true ⟨by decide, by decide +kernel, by decide +kernel⟩
theorem fv_62_0 {g : m_G} : m_fv 62 0 g = .inr (.inr 63) := rfl
theorem kd_63 : m_kd 63 = 1 := rfl
theorem ln_63 : ((m_len 63 : Nat) : Int) = 5 := rfl
theorem kd_64 : m_kd 64 = 1 := rfl
theorem ln_64 : ((m_len 64 : Nat) : Int) = 5 := rfl
theorem kd_65 : m_kd 65 = 1 := rfl
theorem ln_65 : ((m_len 65 : Nat) : Int) = 7 := rfl
theorem ob_66 : m_ob 66 9 = True := eq_true ⟨by decide, by decide +kernel, by decide +kernel⟩
theorem fv_66_0 {g : m_G} : m_fv 66 0 g = .inr (.inr 67) := rfl
theorem fv_66_1 {g : m_G} : m_fv 66 1 g = .inr (.inr 68) := rfl
theorem fv_66_2 {g : m_G} : m_fv 66 2 g = .inr (.inr 69) := rfl
theorem fv_66_3 {g : m_G} : m_fv 66 3 g = .inr (.inr 70) := rfl
theorem fv_66_4 {g : m_G} : m_fv 66 4 g = .inr (.inr 71) := rfl
theorem fv_66_5 {g : m_G} : m_fv 66 5 g = .inl (g 66 5) := rfl
theorem fs_66_5 : m_fs 66 5 = 0 := rfl
theorem fv_66_6 {g : m_G} : m_fv 66 6 g = .inr (.inr 72) := rfl
theorem fv_66_7 {g : m_G} : m_fv 66 7 g = .inr (.inr 73) := rfl
theorem fv_66_8 {g : m_G} : m_fv 66 8 g = .inl (g 66 8) := rfl
theorem fs_66_8 : m_fs 66 8 = 0 := rfl
theorem fv_66_9 {g : m_G} : m_fv 66 9 g = .inl (g 66 9) := rfl
theorem fs_66_9 : m_fs 66 9 = 0 := rfl
theorem fv_66_10 {g : m_G} : m_fv 66 10 g = .inr (.inr 74) := rfl
theorem fv_66_11 {g : m_G} : m_fv 66 11 g = .inr (.inr 75) := rfl
theorem fv_66_12 {g : m_G} : m_fv 66 12 g = .inr (.inr 76) := rfl
theorem fv_66_13 {g : m_G} : m_fv 66 13 g = .inr (.inr 77) := rfl
theorem fv_66_14 {g : m_G} : m_fv 66 14 g = .inr (.inr 78) := rfl
theorem fv_66_15 {g : m_G} : m_fv 66 15 g = .inr (.inr 79) := rfl
theorem fv_66_16 {g : m_G} : m_fv 66 16 g = .inr (.inr 80) := rfl
theorem fv_66_17 {g : m_G} : m_fv 66 17 g = .inr (.inr 81) := rfl
theorem fv_66_18 {g : m_G} : m_fv 66 18 g = .inr (.inr 82) := rfl
theorem fv_66_19 {g : m_G} : m_fv 66 19 g = .inr (.inr 83) := rfl
theorem fv_66_20 {g : m_G} : m_fv 66 20 g = .inr (.inr 84) := rfl
theorem fv_66_21 {g : m_G} : m_fv 66 21 g = .inr (.inr 85) := rfl
theorem fv_66_22 {g : m_G} : m_fv 66 22 g = .inr (.inr 86) := rfl
theorem fv_66_23 {g : m_G} : m_fv 66 23 g = .inl (g 66 23) := rfl
theorem fs_66_23 : m_fs 66 23 = 0 := rfl
theorem fv_66_24 {g : m_G} : m_fv 66 24 g = .inl (g 66 24) := rfl
theorem fs_66_24 : m_fs 66 24 = 0 := rfl
theorem fv_66_25 {g : m_G} : m_fv 66 25 g = .inl (g 66 25) := rfl
theorem fs_66_25 : m_fs 66 25 = 0 := rfl
theorem fv_66_26 {g : m_G} : m_fv 66 26 g = .inl (g 66 26) := rfl
theorem fs_66_26 : m_fs 66 26 = 0 := rfl
theorem fv_66_27 {g : m_G} : m_fv 66 27 g = .inl (g 66 27) := rfl
theorem fs_66_27 : m_fs 66 27 = 0 := rfl
theorem fv_66_28 {g : m_G} : m_fv 66 28 g = .inl (g 66 28) := rfl
theorem fs_66_28 : m_fs 66 28 = 0 := rfl
theorem fv_66_29 {g : m_G} : m_fv 66 29 g = .inr (.inr 87) := rfl
theorem fv_66_30 {g : m_G} : m_fv 66 30 g = .inr (.inr 88) := rfl
theorem fv_66_31 {g : m_G} : m_fv 66 31 g = .inl (g 66 31) := rfl
theorem fs_66_31 : m_fs 66 31 = 0 := rfl
theorem fv_66_32 {g : m_G} : m_fv 66 32 g = .inr (.inr 89) := rfl
theorem fv_66_33 {g : m_G} : m_fv 66 33 g = .inr (.inr 90) := rfl
theorem fv_66_34 {g : m_G} : m_fv 66 34 g = .inl (g 66 34) := rfl
theorem fs_66_34 : m_fs 66 34 = 0 := rfl
theorem kd_67 : m_kd 67 = 1 := rfl
theorem ln_67 : ((m_len 67 : Nat) : Int) = 7 := rfl
theorem kd_68 : m_kd 68 = 1 := rfl
theorem ln_68 : ((m_len 68 : Nat) : Int) = 64 := rfl
theorem kd_69 : m_kd 69 = 1 := rfl
theorem ln_69 : ((m_len 69 : Nat) : Int) = 64 := rfl
theorem kd_70 : m_kd 70 = 1 := rfl
theorem ln_70 : ((m_len 70 : Nat) : Int) = 64 := rfl
theorem kd_71 : m_kd 71 = 1 := rfl
theorem ln_71 : ((m_len 71 : Nat) : Int) = 64 := rfl
theorem kd_72 : m_kd 72 = 1 := rfl
theorem ln_72 : ((m_len 72 : Nat) : Int) = 64 := rfl
theorem kd_73 : m_kd 73 = 1 := rfl
theorem ln_73 : ((m_len 73 : Nat) : Int) = 3 := rfl
theorem kd_74 : m_kd 74 = 1 := rfl
theorem ln_74 : ((m_len 74 : Nat) : Int) = 360 := rfl
theorem kd_75 : m_kd 75 = 1 := rfl
theorem ln_75 : ((m_len 75 : Nat) : Int) = 360 := rfl
theorem kd_76 : m_kd 76 = 1 := rfl
theorem ln_76 : ((m_len 76 : Nat) : Int) = 360 := rfl
theorem kd_77 : m_kd 77 = 1 := rfl
theorem ln_77 : ((m_len 77 : Nat) : Int) = 360 := rfl
theorem kd_78 : m_kd 78 = 1 := rfl
theorem ln_78 : ((m_len 78 : Nat) : Int) = 6 := rfl
theorem kd_79 : m_kd 79 = 1 := rfl
theorem ln_79 : ((m_len 79 : Nat) : Int) = 6 := rfl
theorem kd_80 : m_kd 80 = 1 := rfl
theorem ln_80 : ((m_len 80 : Nat) : Int) = 6 := rfl
theorem kd_81 : m_kd 81 = 1 := rfl
theorem ln_81 : ((m_len 81 : Nat) : Int) = 5 := rfl
theorem kd_82 : m_kd 82 = 1 := rfl
theorem ln_82 : ((m_len 82 : Nat) : Int) = 5 := rfl
theorem kd_83 : m_kd 83 = 1 := rfl
theorem ln_83 : ((m_len 83 : Nat) : Int) = 5 := rfl
theorem kd_84 : m_kd 84 = 1 := rfl
theorem ln_84 : ((m_len 84 : Nat) : Int) = 5 := rfl
theorem kd_85 : m_kd 85 = 1 := rfl
theorem ln_85 : ((m_len 85 : Nat) : Int) = 6 := rfl
theorem kd_86 : m_kd 86 = 1 := rfl
theorem ln_86 : ((m_len 86 : Nat) : Int) = 6 := rfl
theorem kd_87 : m_kd 87 = 1 := rfl
theorem ln_87 : ((m_len 87 : Nat) : Int) = 6 := rfl
theorem kd_88 : m_kd 88 = 1 := rfl
theorem ln_88 : ((m_len 88 : Nat) : Int) = 6 := rfl
theorem kd_89 : m_kd 89 = 1 := rfl
theorem ln_89 : ((m_len 89 : Nat) : Int) = 5 := rfl
theorem kd_90 : m_kd 90 = 1 := rfl
theorem ln_90 : ((m_len 90 : Nat) : Int) = 5 := rfl
/-- a house's cell -/
def m_hs (b : Nat) : Prop := b = 1 ∨ b = 8 ∨ b = 15 ∨ b = 22 ∨ b = 29
theorem obH {b : Nat} (h : m_hs b) : m_ob b 2 = True := eq_true (by rcases h with rfl | rfl | rfl | rfl | rfl <;> exact ⟨by decide, by decide +kernel, by decide +kernel⟩)
theorem fvH0 {b : Nat} {g : m_G} (h : m_hs b) : m_fv b 0 g = .inl (g b 0) := by rcases h with rfl | rfl | rfl | rfl | rfl <;> rfl
theorem fsH0 {b : Nat} (h : m_hs b) : m_fs b 0 = 0 := by rcases h with rfl | rfl | rfl | rfl | rfl <;> rfl
theorem fvH1 {b : Nat} {g : m_G} (h : m_hs b) : m_fv b 1 g = .inl (g b 1) := by rcases h with rfl | rfl | rfl | rfl | rfl <;> rfl
theorem fsH1 {b : Nat} (h : m_hs b) : m_fs b 1 = 0 := by rcases h with rfl | rfl | rfl | rfl | rfl <;> rfl
theorem fvH2 {b : Nat} {g : m_G} (h : m_hs b) : m_fv b 2 g = .inr (.inr (b + 1)) := by rcases h with rfl | rfl | rfl | rfl | rfl <;> rfl
theorem fvH3 {b : Nat} {g : m_G} (h : m_hs b) : m_fv b 3 g = .inr (.inr (b + 2)) := by rcases h with rfl | rfl | rfl | rfl | rfl <;> rfl
theorem fvH4 {b : Nat} {g : m_G} (h : m_hs b) : m_fv b 4 g = .inr (.inr (b + 3)) := by rcases h with rfl | rfl | rfl | rfl | rfl <;> rfl
theorem fvH5 {b : Nat} {g : m_G} (h : m_hs b) : m_fv b 5 g = .inr (.inr (b + 4)) := by rcases h with rfl | rfl | rfl | rfl | rfl <;> rfl
theorem fvH6 {b : Nat} {g : m_G} (h : m_hs b) : m_fv b 6 g = .inr (.inr (b + 5)) := by rcases h with rfl | rfl | rfl | rfl | rfl <;> rfl
theorem fvH7 {b : Nat} {g : m_G} (h : m_hs b) : m_fv b 7 g = .inr (.inr (b + 6)) := by rcases h with rfl | rfl | rfl | rfl | rfl <;> rfl
theorem kdH1 {b : Nat} (h : m_hs b) : m_kd (b + 1) = 1 := by rcases h with rfl | rfl | rfl | rfl | rfl <;> rfl
theorem lnH1 {b : Nat} (h : m_hs b) : ((m_len (b + 1) : Nat) : Int) = 5 := by rcases h with rfl | rfl | rfl | rfl | rfl <;> rfl
theorem ltH1 {b : Nat} (h : m_hs b) : (b + 1 < 91) = True := eq_true (by rcases h with rfl | rfl | rfl | rfl | rfl <;> decide)
theorem kdH2 {b : Nat} (h : m_hs b) : m_kd (b + 2) = 1 := by rcases h with rfl | rfl | rfl | rfl | rfl <;> rfl
theorem lnH2 {b : Nat} (h : m_hs b) : ((m_len (b + 2) : Nat) : Int) = 5 := by rcases h with rfl | rfl | rfl | rfl | rfl <;> rfl
theorem ltH2 {b : Nat} (h : m_hs b) : (b + 2 < 91) = True := eq_true (by rcases h with rfl | rfl | rfl | rfl | rfl <;> decide)
theorem kdH3 {b : Nat} (h : m_hs b) : m_kd (b + 3) = 1 := by rcases h with rfl | rfl | rfl | rfl | rfl <;> rfl
theorem lnH3 {b : Nat} (h : m_hs b) : ((m_len (b + 3) : Nat) : Int) = 20 := by rcases h with rfl | rfl | rfl | rfl | rfl <;> rfl
theorem ltH3 {b : Nat} (h : m_hs b) : (b + 3 < 91) = True := eq_true (by rcases h with rfl | rfl | rfl | rfl | rfl <;> decide)
theorem kdH4 {b : Nat} (h : m_hs b) : m_kd (b + 4) = 1 := by rcases h with rfl | rfl | rfl | rfl | rfl <;> rfl
theorem lnH4 {b : Nat} (h : m_hs b) : ((m_len (b + 4) : Nat) : Int) = 20 := by rcases h with rfl | rfl | rfl | rfl | rfl <;> rfl
theorem ltH4 {b : Nat} (h : m_hs b) : (b + 4 < 91) = True := eq_true (by rcases h with rfl | rfl | rfl | rfl | rfl <;> decide)
theorem kdH5 {b : Nat} (h : m_hs b) : m_kd (b + 5) = 1 := by rcases h with rfl | rfl | rfl | rfl | rfl <;> rfl
theorem lnH5 {b : Nat} (h : m_hs b) : ((m_len (b + 5) : Nat) : Int) = 24 := by rcases h with rfl | rfl | rfl | rfl | rfl <;> rfl
theorem ltH5 {b : Nat} (h : m_hs b) : (b + 5 < 91) = True := eq_true (by rcases h with rfl | rfl | rfl | rfl | rfl <;> decide)
theorem kdH6 {b : Nat} (h : m_hs b) : m_kd (b + 6) = 1 := by rcases h with rfl | rfl | rfl | rfl | rfl <;> rfl
theorem lnH6 {b : Nat} (h : m_hs b) : ((m_len (b + 6) : Nat) : Int) = 8 := by rcases h with rfl | rfl | rfl | rfl | rfl <;> rfl
theorem ltH6 {b : Nat} (h : m_hs b) : (b + 6 < 91) = True := eq_true (by rcases h with rfl | rfl | rfl | rfl | rfl <;> decide)
/-- a line's cell -/
def m_lnc (i : Nat) : Prop := i = 44 ∨ i = 45 ∨ i = 46 ∨ i = 47 ∨ i = 48 ∨ i = 49
theorem obL {b : Nat} (h : m_lnc b) : m_ob b 3 = True := eq_true (by rcases h with rfl | rfl | rfl | rfl | rfl | rfl <;> exact ⟨by decide, by decide +kernel, by decide +kernel⟩)
theorem fvL0 {b : Nat} {g : m_G} (h : m_lnc b) : m_fv b 0 g = .inl (g b 0) := by rcases h with rfl | rfl | rfl | rfl | rfl | rfl <;> rfl
theorem fsL0 {b : Nat} (h : m_lnc b) : m_fs b 0 = 0 := by rcases h with rfl | rfl | rfl | rfl | rfl | rfl <;> rfl
theorem fvL1 {b : Nat} {g : m_G} (h : m_lnc b) : m_fv b 1 g = .inl (g b 1) := by rcases h with rfl | rfl | rfl | rfl | rfl | rfl <;> rfl
theorem fsL1 {b : Nat} (h : m_lnc b) : m_fs b 1 = 0 := by rcases h with rfl | rfl | rfl | rfl | rfl | rfl <;> rfl
theorem fvL2 {b : Nat} {g : m_G} (h : m_lnc b) : m_fv b 2 g = .inl (g b 2) := by rcases h with rfl | rfl | rfl | rfl | rfl | rfl <;> rfl
theorem fsL2 {b : Nat} (h : m_lnc b) : m_fs b 2 = 0 := by rcases h with rfl | rfl | rfl | rfl | rfl | rfl <;> rfl
theorem fvL3 {b : Nat} {g : m_G} (h : m_lnc b) : m_fv b 3 g = .inl (g b 3) := by rcases h with rfl | rfl | rfl | rfl | rfl | rfl <;> rfl
theorem fsL3 {b : Nat} (h : m_lnc b) : m_fs b 3 = 0 := by rcases h with rfl | rfl | rfl | rfl | rfl | rfl <;> rfl
theorem fvL4 {b : Nat} {g : m_G} (h : m_lnc b) : m_fv b 4 g = .inl (g b 4) := by rcases h with rfl | rfl | rfl | rfl | rfl | rfl <;> rfl
theorem fsL4 {b : Nat} (h : m_lnc b) : m_fs b 4 = 0 := by rcases h with rfl | rfl | rfl | rfl | rfl | rfl <;> rfl
theorem fvL5 {b : Nat} {g : m_G} (h : m_lnc b) : m_fv b 5 g = .inl (g b 5) := by rcases h with rfl | rfl | rfl | rfl | rfl | rfl <;> rfl
theorem fsL5 {b : Nat} (h : m_lnc b) : m_fs b 5 = 0 := by rcases h with rfl | rfl | rfl | rfl | rfl | rfl <;> rfl
theorem fvL6 {b : Nat} {g : m_G} (h : m_lnc b) : m_fv b 6 g = .inl (g b 6) := by rcases h with rfl | rfl | rfl | rfl | rfl | rfl <;> rfl
theorem fsL6 {b : Nat} (h : m_lnc b) : m_fs b 6 = 0 := by rcases h with rfl | rfl | rfl | rfl | rfl | rfl <;> rfl
theorem fvL7 {b : Nat} {g : m_G} (h : m_lnc b) : m_fv b 7 g = .inl (g b 7) := by rcases h with rfl | rfl | rfl | rfl | rfl | rfl <;> rfl
theorem fsL7 {b : Nat} (h : m_lnc b) : m_fs b 7 = 0 := by rcases h with rfl | rfl | rfl | rfl | rfl | rfl <;> rfl
theorem fvL8 {b : Nat} {g : m_G} (h : m_lnc b) : m_fv b 8 g = .inl (g b 8) := by rcases h with rfl | rfl | rfl | rfl | rfl | rfl <;> rfl
theorem fsL8 {b : Nat} (h : m_lnc b) : m_fs b 8 = 0 := by rcases h with rfl | rfl | rfl | rfl | rfl | rfl <;> rfl
theorem fvL9 {b : Nat} {g : m_G} (h : m_lnc b) : m_fv b 9 g = .inl (g b 9) := by rcases h with rfl | rfl | rfl | rfl | rfl | rfl <;> rfl
theorem fsL9 {b : Nat} (h : m_lnc b) : m_fs b 9 = 0 := by rcases h with rfl | rfl | rfl | rfl | rfl | rfl <;> rfl
theorem fvL10 {b : Nat} {g : m_G} (h : m_lnc b) : m_fv b 10 g = .inl (g b 10) := by rcases h with rfl | rfl | rfl | rfl | rfl | rfl <;> rfl
theorem fsL10 {b : Nat} (h : m_lnc b) : m_fs b 10 = 0 := by rcases h with rfl | rfl | rfl | rfl | rfl | rfl <;> rfl
theorem fvL11 {b : Nat} {g : m_G} (h : m_lnc b) : m_fv b 11 g = .inl (g b 11) := by rcases h with rfl | rfl | rfl | rfl | rfl | rfl <;> rfl
theorem fsL11 {b : Nat} (h : m_lnc b) : m_fs b 11 = 0 := by rcases h with rfl | rfl | rfl | rfl | rfl | rfl <;> rfl
theorem m_lnc_of {x : Int} (h0 : 0 ≤ x) (h6 : x < 6) : m_lnc (44 + x.toNat) := by unfold m_lnc; omega
