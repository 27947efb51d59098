/-! the decode rows are NAMES.whole.lean.txt's -/
theorem dJ6_bitCount_0f7a4_0 : decode cJ6_bitCount_0f7a4 0 = .ok (.iload_n 0, 1) := by decide +kernel
theorem dJ6_bitCount_0f7a4_1 : decode cJ6_bitCount_0f7a4 1 = .ok (.iload_n 0, 1) := by decide +kernel
theorem dJ6_bitCount_0f7a4_2 : decode cJ6_bitCount_0f7a4 2 = .ok (.iconst 1, 1) := by decide +kernel
theorem dJ6_bitCount_0f7a4_3 : decode cJ6_bitCount_0f7a4 3 = .ok (.iushr, 1) := by decide +kernel
theorem dJ6_bitCount_0f7a4_4 : decode cJ6_bitCount_0f7a4 4 = .ok (.ldc_w 265, 3) := by decide +kernel
theorem dJ6_bitCount_0f7a4_7 : decode cJ6_bitCount_0f7a4 7 = .ok (.iand, 1) := by decide +kernel
theorem dJ6_bitCount_0f7a4_8 : decode cJ6_bitCount_0f7a4 8 = .ok (.isub, 1) := by decide +kernel
theorem dJ6_bitCount_0f7a4_9 : decode cJ6_bitCount_0f7a4 9 = .ok (.istore_n 0, 1) := by decide +kernel
theorem dJ6_bitCount_0f7a4_10 : decode cJ6_bitCount_0f7a4 10 = .ok (.iload_n 0, 1) := by decide +kernel
theorem dJ6_bitCount_0f7a4_11 : decode cJ6_bitCount_0f7a4 11 = .ok (.ldc_w 266, 3) := by decide +kernel
theorem dJ6_bitCount_0f7a4_14 : decode cJ6_bitCount_0f7a4 14 = .ok (.iand, 1) := by decide +kernel
theorem dJ6_bitCount_0f7a4_15 : decode cJ6_bitCount_0f7a4 15 = .ok (.iload_n 0, 1) := by decide +kernel
theorem dJ6_bitCount_0f7a4_16 : decode cJ6_bitCount_0f7a4 16 = .ok (.iconst 2, 1) := by decide +kernel
theorem dJ6_bitCount_0f7a4_17 : decode cJ6_bitCount_0f7a4 17 = .ok (.iushr, 1) := by decide +kernel
theorem dJ6_bitCount_0f7a4_18 : decode cJ6_bitCount_0f7a4 18 = .ok (.ldc_w 266, 3) := by decide +kernel
theorem dJ6_bitCount_0f7a4_21 : decode cJ6_bitCount_0f7a4 21 = .ok (.iand, 1) := by decide +kernel
theorem dJ6_bitCount_0f7a4_22 : decode cJ6_bitCount_0f7a4 22 = .ok (.iadd, 1) := by decide +kernel
theorem dJ6_bitCount_0f7a4_23 : decode cJ6_bitCount_0f7a4 23 = .ok (.istore_n 0, 1) := by decide +kernel
theorem dJ6_bitCount_0f7a4_24 : decode cJ6_bitCount_0f7a4 24 = .ok (.iload_n 0, 1) := by decide +kernel
theorem dJ6_bitCount_0f7a4_25 : decode cJ6_bitCount_0f7a4 25 = .ok (.iload_n 0, 1) := by decide +kernel
theorem dJ6_bitCount_0f7a4_26 : decode cJ6_bitCount_0f7a4 26 = .ok (.iconst 4, 1) := by decide +kernel
theorem dJ6_bitCount_0f7a4_27 : decode cJ6_bitCount_0f7a4 27 = .ok (.iushr, 1) := by decide +kernel
theorem dJ6_bitCount_0f7a4_28 : decode cJ6_bitCount_0f7a4 28 = .ok (.iadd, 1) := by decide +kernel
theorem dJ6_bitCount_0f7a4_29 : decode cJ6_bitCount_0f7a4 29 = .ok (.ldc_w 267, 3) := by decide +kernel
theorem dJ6_bitCount_0f7a4_32 : decode cJ6_bitCount_0f7a4 32 = .ok (.iand, 1) := by decide +kernel
theorem dJ6_bitCount_0f7a4_33 : decode cJ6_bitCount_0f7a4 33 = .ok (.istore_n 0, 1) := by decide +kernel
theorem dJ6_bitCount_0f7a4_34 : decode cJ6_bitCount_0f7a4 34 = .ok (.iload_n 0, 1) := by decide +kernel
theorem dJ6_bitCount_0f7a4_35 : decode cJ6_bitCount_0f7a4 35 = .ok (.iload_n 0, 1) := by decide +kernel
theorem dJ6_bitCount_0f7a4_36 : decode cJ6_bitCount_0f7a4 36 = .ok (.bipush 8, 2) := by decide +kernel
theorem dJ6_bitCount_0f7a4_38 : decode cJ6_bitCount_0f7a4 38 = .ok (.iushr, 1) := by decide +kernel
theorem dJ6_bitCount_0f7a4_39 : decode cJ6_bitCount_0f7a4 39 = .ok (.iadd, 1) := by decide +kernel
theorem dJ6_bitCount_0f7a4_40 : decode cJ6_bitCount_0f7a4 40 = .ok (.istore_n 0, 1) := by decide +kernel
theorem dJ6_bitCount_0f7a4_41 : decode cJ6_bitCount_0f7a4 41 = .ok (.iload_n 0, 1) := by decide +kernel
theorem dJ6_bitCount_0f7a4_42 : decode cJ6_bitCount_0f7a4 42 = .ok (.iload_n 0, 1) := by decide +kernel
theorem dJ6_bitCount_0f7a4_43 : decode cJ6_bitCount_0f7a4 43 = .ok (.bipush 16, 2) := by decide +kernel
theorem dJ6_bitCount_0f7a4_45 : decode cJ6_bitCount_0f7a4 45 = .ok (.iushr, 1) := by decide +kernel
theorem dJ6_bitCount_0f7a4_46 : decode cJ6_bitCount_0f7a4 46 = .ok (.iadd, 1) := by decide +kernel
theorem dJ6_bitCount_0f7a4_47 : decode cJ6_bitCount_0f7a4 47 = .ok (.istore_n 0, 1) := by decide +kernel
theorem dJ6_bitCount_0f7a4_48 : decode cJ6_bitCount_0f7a4 48 = .ok (.iload_n 0, 1) := by decide +kernel
theorem dJ6_bitCount_0f7a4_49 : decode cJ6_bitCount_0f7a4 49 = .ok (.bipush 63, 2) := by decide +kernel
theorem dJ6_bitCount_0f7a4_51 : decode cJ6_bitCount_0f7a4 51 = .ok (.iand, 1) := by decide +kernel
theorem dJ6_bitCount_0f7a4_52 : decode cJ6_bitCount_0f7a4 52 = .ok (.ireturn, 1) := by decide +kernel
theorem dJ0_length_8abf5_0 : decode cJ0_length_8abf5 0 = .ok (.aload_n 0, 1) := by decide +kernel
theorem dJ0_length_8abf5_1 : decode cJ0_length_8abf5 1 = .ok (.getfield 9, 3) := by decide +kernel
theorem dJ0_length_8abf5_4 : decode cJ0_length_8abf5 4 = .ok (.arraylength, 1) := by decide +kernel
theorem dJ0_length_8abf5_5 : decode cJ0_length_8abf5 5 = .ok (.aload_n 0, 1) := by decide +kernel
theorem dJ0_length_8abf5_6 : decode cJ0_length_8abf5 6 = .ok (.invokevirtual 335, 3) := by decide +kernel
theorem dJ0_length_8abf5_9 : decode cJ0_length_8abf5 9 = .ok (.ishr, 1) := by decide +kernel
theorem dJ0_length_8abf5_10 : decode cJ0_length_8abf5 10 = .ok (.ireturn, 1) := by decide +kernel
theorem dJ0_isEmpty_aae02_0 : decode cJ0_isEmpty_aae02 0 = .ok (.aload_n 0, 1) := by decide +kernel
theorem dJ0_isEmpty_aae02_1 : decode cJ0_isEmpty_aae02 1 = .ok (.getfield 9, 3) := by decide +kernel
theorem dJ0_isEmpty_aae02_4 : decode cJ0_isEmpty_aae02 4 = .ok (.arraylength, 1) := by decide +kernel
theorem dJ0_isEmpty_aae02_5 : decode cJ0_isEmpty_aae02 5 = .ok (.ifCond .ne 7, 3) := by decide +kernel
theorem dJ0_isEmpty_aae02_8 : decode cJ0_isEmpty_aae02 8 = .ok (.iconst 1, 1) := by decide +kernel
theorem dJ0_isEmpty_aae02_9 : decode cJ0_isEmpty_aae02 9 = .ok (.goto 4, 3) := by decide +kernel
theorem dJ0_isEmpty_aae02_12 : decode cJ0_isEmpty_aae02 12 = .ok (.iconst 0, 1) := by decide +kernel
theorem dJ0_isEmpty_aae02_13 : decode cJ0_isEmpty_aae02 13 = .ok (.ireturn, 1) := by decide +kernel
theorem dJ0_charAt_5068e_0 : decode cJ0_charAt_5068e 0 = .ok (.aload_n 0, 1) := by decide +kernel
theorem dJ0_charAt_5068e_1 : decode cJ0_charAt_5068e 1 = .ok (.invokevirtual 492, 3) := by decide +kernel
theorem dJ0_charAt_5068e_4 : decode cJ0_charAt_5068e 4 = .ok (.ifCond .eq 12, 3) := by decide +kernel
theorem dJ0_charAt_5068e_7 : decode cJ0_charAt_5068e 7 = .ok (.aload_n 0, 1) := by decide +kernel
theorem dJ0_charAt_5068e_8 : decode cJ0_charAt_5068e 8 = .ok (.getfield 9, 3) := by decide +kernel
theorem dJ0_charAt_5068e_11 : decode cJ0_charAt_5068e 11 = .ok (.iload_n 1, 1) := by decide +kernel
theorem dJ0_charAt_5068e_12 : decode cJ0_charAt_5068e 12 = .ok (.invokestatic 495, 3) := by decide +kernel
theorem dJ0_charAt_5068e_15 : decode cJ0_charAt_5068e 15 = .ok (.ireturn, 1) := by decide +kernel
theorem dJ0_charAt_5068e_16 : decode cJ0_charAt_5068e 16 = .ok (.aload_n 0, 1) := by decide +kernel
theorem dJ0_charAt_5068e_17 : decode cJ0_charAt_5068e 17 = .ok (.getfield 9, 3) := by decide +kernel
theorem dJ0_charAt_5068e_20 : decode cJ0_charAt_5068e 20 = .ok (.iload_n 1, 1) := by decide +kernel
theorem dJ0_charAt_5068e_21 : decode cJ0_charAt_5068e 21 = .ok (.invokestatic 498, 3) := by decide +kernel
theorem dJ0_charAt_5068e_24 : decode cJ0_charAt_5068e 24 = .ok (.ireturn, 1) := by decide +kernel
theorem dJ0_coder_7d493_0 : decode cJ0_coder_7d493 0 = .ok (.getstatic 38, 3) := by decide +kernel
theorem dJ0_coder_7d493_3 : decode cJ0_coder_7d493 3 = .ok (.ifCond .eq 10, 3) := by decide +kernel
theorem dJ0_coder_7d493_6 : decode cJ0_coder_7d493 6 = .ok (.aload_n 0, 1) := by decide +kernel
theorem dJ0_coder_7d493_7 : decode cJ0_coder_7d493 7 = .ok (.getfield 15, 3) := by decide +kernel
theorem dJ0_coder_7d493_10 : decode cJ0_coder_7d493 10 = .ok (.goto 4, 3) := by decide +kernel
theorem dJ0_coder_7d493_13 : decode cJ0_coder_7d493 13 = .ok (.iconst 1, 1) := by decide +kernel
theorem dJ0_coder_7d493_14 : decode cJ0_coder_7d493 14 = .ok (.ireturn, 1) := by decide +kernel
theorem dJ0_isLatin1_aae02_0 : decode cJ0_isLatin1_aae02 0 = .ok (.getstatic 38, 3) := by decide +kernel
theorem dJ0_isLatin1_aae02_3 : decode cJ0_isLatin1_aae02 3 = .ok (.ifCond .eq 14, 3) := by decide +kernel
theorem dJ0_isLatin1_aae02_6 : decode cJ0_isLatin1_aae02 6 = .ok (.aload_n 0, 1) := by decide +kernel
theorem dJ0_isLatin1_aae02_7 : decode cJ0_isLatin1_aae02 7 = .ok (.getfield 15, 3) := by decide +kernel
theorem dJ0_isLatin1_aae02_10 : decode cJ0_isLatin1_aae02 10 = .ok (.ifCond .ne 7, 3) := by decide +kernel
theorem dJ0_isLatin1_aae02_13 : decode cJ0_isLatin1_aae02 13 = .ok (.iconst 1, 1) := by decide +kernel
theorem dJ0_isLatin1_aae02_14 : decode cJ0_isLatin1_aae02 14 = .ok (.goto 4, 3) := by decide +kernel
theorem dJ0_isLatin1_aae02_17 : decode cJ0_isLatin1_aae02 17 = .ok (.iconst 0, 1) := by decide +kernel
theorem dJ0_isLatin1_aae02_18 : decode cJ0_isLatin1_aae02 18 = .ok (.ireturn, 1) := by decide +kernel
theorem dJ0_checkIndex_df160_0 : decode cJ0_checkIndex_df160 0 = .ok (.iload_n 0, 1) := by decide +kernel
theorem dJ0_checkIndex_df160_1 : decode cJ0_checkIndex_df160 1 = .ok (.iload_n 1, 1) := by decide +kernel
theorem dJ0_checkIndex_df160_2 : decode cJ0_checkIndex_df160 2 = .ok (.getstatic 1053, 3) := by decide +kernel
theorem dJ0_checkIndex_df160_5 : decode cJ0_checkIndex_df160 5 = .ok (.invokestatic 1059, 3) := by decide +kernel
theorem dJ0_checkIndex_df160_8 : decode cJ0_checkIndex_df160 8 = .ok (.pop, 1) := by decide +kernel
theorem dJ0_checkIndex_df160_9 : decode cJ0_checkIndex_df160 9 = .ok (.return_, 1) := by decide +kernel
theorem dJ1_charAt_3b067_0 : decode cJ1_charAt_3b067 0 = .ok (.iload_n 1, 1) := by decide +kernel
theorem dJ1_charAt_3b067_1 : decode cJ1_charAt_3b067 1 = .ok (.aload_n 0, 1) := by decide +kernel
theorem dJ1_charAt_3b067_2 : decode cJ1_charAt_3b067 2 = .ok (.arraylength, 1) := by decide +kernel
theorem dJ1_charAt_3b067_3 : decode cJ1_charAt_3b067 3 = .ok (.invokestatic 9, 3) := by decide +kernel
theorem dJ1_charAt_3b067_6 : decode cJ1_charAt_3b067 6 = .ok (.aload_n 0, 1) := by decide +kernel
theorem dJ1_charAt_3b067_7 : decode cJ1_charAt_3b067 7 = .ok (.iload_n 1, 1) := by decide +kernel
theorem dJ1_charAt_3b067_8 : decode cJ1_charAt_3b067 8 = .ok (.baload, 1) := by decide +kernel
theorem dJ1_charAt_3b067_9 : decode cJ1_charAt_3b067 9 = .ok (.sipush 255, 3) := by decide +kernel
theorem dJ1_charAt_3b067_12 : decode cJ1_charAt_3b067 12 = .ok (.iand, 1) := by decide +kernel
theorem dJ1_charAt_3b067_13 : decode cJ1_charAt_3b067 13 = .ok (.i2c, 1) := by decide +kernel
theorem dJ1_charAt_3b067_14 : decode cJ1_charAt_3b067 14 = .ok (.ireturn, 1) := by decide +kernel
theorem dJ3_checkIndex_8e157_0 : decode cJ3_checkIndex_8e157 0 = .ok (.iload_n 0, 1) := by decide +kernel
theorem dJ3_checkIndex_8e157_1 : decode cJ3_checkIndex_8e157 1 = .ok (.ifCond .lt 8, 3) := by decide +kernel
theorem dJ3_checkIndex_8e157_4 : decode cJ3_checkIndex_8e157 4 = .ok (.iload_n 0, 1) := by decide +kernel
theorem dJ3_checkIndex_8e157_5 : decode cJ3_checkIndex_8e157 5 = .ok (.iload_n 1, 1) := by decide +kernel
theorem dJ3_checkIndex_8e157_6 : decode cJ3_checkIndex_8e157 6 = .ok (.if_icmp .lt 10, 3) := by decide +kernel
theorem dJ3_checkIndex_8e157_9 : decode cJ3_checkIndex_8e157 9 = .ok (.aload_n 2, 1) := by decide +kernel
theorem dJ3_checkIndex_8e157_10 : decode cJ3_checkIndex_8e157 10 = .ok (.iload_n 0, 1) := by decide +kernel
theorem dJ3_checkIndex_8e157_11 : decode cJ3_checkIndex_8e157 11 = .ok (.iload_n 1, 1) := by decide +kernel
theorem dJ3_checkIndex_8e157_12 : decode cJ3_checkIndex_8e157 12 = .ok (.invokestatic 95, 3) := by decide +kernel
theorem dJ3_checkIndex_8e157_15 : decode cJ3_checkIndex_8e157 15 = .ok (.athrow, 1) := by decide +kernel
theorem dJ3_checkIndex_8e157_16 : decode cJ3_checkIndex_8e157 16 = .ok (.iload_n 0, 1) := by decide +kernel
theorem dJ3_checkIndex_8e157_17 : decode cJ3_checkIndex_8e157 17 = .ok (.ireturn, 1) := by decide +kernel
theorem m_rngd {x : Int} (h : (decide (-2147483648 ≤ x) && decide (x ≤ 2147483647)) = true) : m_rng x := by
  simp only [Bool.and_eq_true, decide_eq_true_eq] at h
  exact h
theorem m_in_of {ws : List Cond} (ps : List Nat) (hp : ws = ps.filterMap (fun i => lw_tbl[i]?)) (hg : ws.all goodWord = true) : ∀ w ∈ ws, w ∈ m_tblG := by
  intro w hw
  have h1 := List.all_eq_true.mp hg w hw
  rw [hp] at hw
  obtain ⟨i, -, hi⟩ := List.mem_filterMap.mp hw
  exact m_tb_of i hi h1
theorem m_tl_S : ∀ i : Nat, i < 4 → Int32.ofNat (([0, 4, 2, 5] : List Nat).getD i 0) = Int32.ofInt (m_tl (210 + i)) ∧ m_rng (m_tl (210 + i)) ∧ m_tl (210 + i) = (([0, 4, 2, 5] : List Nat).getD i 0 : Int) := by
  intro i hi
  rcases i with _ | _ | _ | _ | i
  · exact ⟨rfl, m_rngd rfl, rfl⟩
  · exact ⟨rfl, m_rngd rfl, rfl⟩
  · exact ⟨rfl, m_rngd rfl, rfl⟩
  · exact ⟨rfl, m_rngd rfl, rfl⟩
  · omega
theorem m_ty_S : ∀ i : Nat, i < 4 → ∀ j : Nat, j < ([0, 4, 2, 5] : List Nat).getD i 0 → (([[], [110, 44, 110, 59], [110, 59], [100, 100, 44, 110, 59]] : List (List Int32)).getD i []).getD j 0 = Int32.ofInt (m_ty (210 + i) j) ∧ (0 ≤ m_ty (210 + i) j ∧ m_ty (210 + i) j < 256) := by decide +kernel
section SN
variable {p : Program} {l : Launch} {e : Env} {R : Room} {s : State} {m : MethodId} {args : Array Value} {below : List Frame} {meth : Method} {c : Code} {cells slots : Nat} {Qf : State → Prop} {A0 : Nat → Prop} {X : m_X} {cc : ByteArray} {nL : Nat} {own : String}
variable {q : m_Post} {pc : Nat}
theorem m_Env_S {H : Heap} (h : m_Env X A0 s H) : vk_S 4 [0, 4, 2, 5] [[], [110, 44, 110, 59], [110, 59], [100, 100, 44, 110, 59]] (fun i => X.1 (200 + i)) (fun i => X.1 (210 + i)) A0 s H := h.2.2.2.1
theorem o_sval (C : m_Cx p R s m args meth c cells slots A0 X cc nL own) {n ix : Nat} (hw : Cond.fieldLink own ix "java/lang/String" "value" "[B" ∈ m_tblG) (hd : decode cc pc = .ok (.getfield ix, 3)) (hn : n = pc + 3) : m_Snd p l e R s m args below meth c cells slots Qf A0 X nL q pc (s_sval n) := by
  intro ls stk g h
  rcases stk with _ | ⟨x | x | x, r⟩
  all_goals first | exact False.elim h | skip
  obtain ⟨hh, h⟩ := h
  intro o1 o2 o3 H locs lsA hP hS hl
  subst hn
  have hE := (m_Env_S C.2.2.2.2.2.2.1).1 (x - 200) (by omega)
  have e1 : 200 + (x - 200) = x := by omega
  have e2 : 210 + (x - 200) = 10 + x := by omega
  have hF := hE.2.2.1
  dsimp only at hF
  rw [e1, e2] at hF
  refine vk_getf (q := X.1 x) (v := .ref (X.1 (10 + x))) C.1 C.2.1 hF hS C.2.2.2.1 (C.2.2.2.2.1 _ hw) (fun _ z => z) hd ?_
  exact h (m_okc trivial (m_okt o1)) o2 o3 H locs lsA hP hS hl
theorem o_scod (C : m_Cx p R s m args meth c cells slots A0 X cc nL own) {n ix : Nat} (hw : Cond.fieldLink own ix "java/lang/String" "coder" "B" ∈ m_tblG) (hd : decode cc pc = .ok (.getfield ix, 3)) (hn : n = pc + 3) : m_Snd p l e R s m args below meth c cells slots Qf A0 X nL q pc (s_scod n) := by
  intro ls stk g h
  rcases stk with _ | ⟨x | x | x, r⟩
  all_goals first | exact False.elim h | skip
  obtain ⟨hh, h⟩ := h
  intro o1 o2 o3 H locs lsA hP hS hl
  subst hn
  have hE := (m_Env_S C.2.2.2.2.2.2.1).1 (x - 200) (by omega)
  have e1 : 200 + (x - 200) = x := by omega
  have hF := hE.2.1
  dsimp only at hF
  rw [e1] at hF
  refine vk_getf (q := X.1 x) (v := .int 0) C.1 C.2.1 hF hS C.2.2.2.1 (C.2.2.2.2.1 _ hw) (fun _ z => z) hd ?_
  exact h (m_okc m_rng_0 (m_okt o1)) o2 o3 H locs lsA hP hS hl
theorem o_blen (C : m_Cx p R s m args meth c cells slots A0 X cc nL own) {n : Nat} (hd : decode cc pc = .ok (.arraylength, 1)) (hn : n = pc + 1) : m_Snd p l e R s m args below meth c cells slots Qf A0 X nL q pc (s_blen n) := by
  intro ls stk g h
  rcases stk with _ | ⟨x | x | x, r⟩
  all_goals first | exact False.elim h | skip
  obtain ⟨hh, h⟩ := h
  intro o1 o2 o3 H locs lsA hP hS hl
  subst hn
  have hE := (m_Env_S C.2.2.2.2.2.2.1).1 (x - 210) (by omega)
  have e2 : 210 + (x - 210) = x := by omega
  have hT := hE.2.2.2
  dsimp only at hT
  have h3 := m_tl_S (x - 210) (by omega)
  rw [e2] at hT h3
  refine va_tlen (v := Int32.ofInt (m_tl x)) C.1 C.2.1 hT hS h3.1 hd ?_
  exact h (m_okc h3.2.1 (m_okt o1)) o2 o3 H locs lsA hP hS hl
theorem o_bald (C : m_Cx p R s m args meth c cells slots A0 X cc nL own) {n : Nat} (hd : decode cc pc = .ok (.baload, 1)) (hn : n = pc + 1) : m_Snd p l e R s m args below meth c cells slots Qf A0 X nL q pc (s_bald n) := by
  intro ls stk g h
  rcases stk with _ | ⟨y | y | y, _ | ⟨x | x | x, r⟩⟩
  all_goals first | exact False.elim h | skip
  obtain ⟨hh, h⟩ := h
  intro o1 o2 o3 H locs lsA hP hS hl
  subst hn
  have oy := m_ok1 o1
  have hE := (m_Env_S C.2.2.2.2.2.2.1).1 (x - 210) (by omega)
  have e2 : 210 + (x - 210) = x := by omega
  have hT := hE.2.2.2
  dsimp only at hT
  have h3 := m_tl_S (x - 210) (by omega)
  have h4 := m_ty_S (x - 210) (by omega) y.toNat (by rw [e2] at h3; omega)
  rw [e2] at hT h3 h4
  refine va_tb (v := .int (Int32.ofInt (m_ty x y.toNat))) C.1 C.2.1 hT hS (m_vp oy hh.2.1 (by omega)) ?_ hd ?_
  · rw [m_clamp oy, h4.1]
  · exact h (m_okc (by have := h4.2; show m_rng _; unfold m_rng; omega) (m_okt (m_okt o1))) o2 o3 H locs lsA hP hS hl
theorem o_i2c (C : m_Cx p R s m args meth c cells slots A0 X cc nL own) {n : Nat} (hd : decode cc pc = .ok (.i2c, 1)) (hn : n = pc + 1) : m_Snd p l e R s m args below meth c cells slots Qf A0 X nL q pc (s_i2c n) := by
  intro ls stk g h
  rcases stk with _ | ⟨x | x | x, r⟩
  all_goals first | exact False.elim h | skip
  obtain ⟨hh, h⟩ := h
  intro o1 o2 o3 H locs lsA hP hS hl
  subst hn
  have e : ((Int32.ofInt x).toUInt32 % 65536).toInt32 = Int32.ofInt x := by
    obtain ⟨k, rfl⟩ : ∃ k : Nat, x = (k : Int) := ⟨x.toNat, by omega⟩
    have hk : k < 65536 := by omega
    rw [show Int32.ofInt (k : Int) = nI k from rfl, pk_char, pk_tn (by omega), Nat.mod_eq_of_lt hk]
  refine lv_i2c (v := Int32.ofInt x) C.1 C.2.1 hd e ?_
  exact h o1 o2 o3 H locs lsA hP hS hl
theorem o_ldcw (C : m_Cx p R s m args meth c cells slots A0 X cc nL own) {n : Nat} {x : Int} {ix : Nat} (hv : m_rng x) (hw : Cond.constant own ix (Int32.ofInt x) ∈ m_tblG) (hd : decode cc pc = .ok (.ldc_w ix, 3)) (hn : n = pc + 3) : m_Snd p l e R s m args below meth c cells slots Qf A0 X nL q pc (s_push n (.inl x)) := by
  intro ls stk g h
  obtain ⟨-, h⟩ := h
  intro o1 o2 o3 H locs lsA hP hS hl
  subst hn
  refine lv_ldcw (v := Int32.ofInt x) C.1 C.2.1 C.2.2.2.1 (C.2.2.2.2.1 _ hw) hd ?_
  exact h (m_okc hv o1) o2 o3 H locs lsA hP hS hl
theorem o_compact (C : m_Cx p R s m args meth c cells slots A0 X cc nL own) {n ix : Nat} (hw : Cond.fieldLink own ix "java/lang/String" "COMPACT_STRINGS" "Z" ∈ m_tblG) (hd : decode cc pc = .ok (.getstatic ix, 3)) (hn : n = pc + 3) : m_Snd p l e R s m args below meth c cells slots Qf A0 X nL q pc (s_push n (.inl 1)) := by
  intro ls stk g h
  obtain ⟨-, h⟩ := h
  intro o1 o2 o3 H locs lsA hP hS hl
  subst hn
  refine va_gets (v := .int 1) C.1 C.2.1 C.2.2.2.2.2.2.1.2.2.2.2.1 hS C.2.2.2.1 (C.2.2.2.2.1 _ hw) (fun _ z => z) hd ?_
  exact h (m_okc m_rng_1 o1) o2 o3 H locs lsA hP hS hl
/-- a call on a text -/
theorem o_callT (C : m_Cx p R s m args meth c cells slots A0 X cc nL own) {n k na d ix maxL : Nat} {y : MethodName} {bytes : ByteArray} {ret : Option FieldType} {K : m_GK} (hM : m_Sound l X d y bytes maxL ret K) (hc : y.cls = "java/lang/String")
    (hw : ∀ w ∈ ([.methodLink own ix y, .instanceMethod y, .selects y.cls y y, .initialized y.cls] : List Cond), w ∈ m_tblG) (h5 : Cond.code y bytes maxL ret ∈ m_tblG)
    (hy : y.cls ≠ "java/lang/invoke/MethodHandle" ∧ y.cls ≠ "java/lang/invoke/VarHandle" ∧ (parseMethodDescriptor y.desc).map (fun d => d.parameters.length) = some na) (hk : k = na + 1) (hR : d + 1 ≤ R.frames ∧ 8 + (maxL + 11) + 48 * d ≤ R.locals)
    (hd : decode cc pc = .ok (.invokevirtual ix, 3)) (hn : n = pc + 3) : m_Snd p l e R s m args below meth c cells slots Qf A0 X nL q pc (s_callT n k K) := by
  intro ls stk g h0
  have h : (match m_pop k [] stk with
    | some (.inr (.inr b) :: as, r) => ((200 ≤ b ∧ b < 204) ∧ r.length ≤ 4) ∧ K.1 (.inr (.inr b) :: as) g (fun x g' => m_J p l e R s m args below meth c cells slots Qf A0 X nL n ls (m_push x r) g')
    | _ => False) := h0
  clear h0
  split at h
  · rename_i b as r hp
    obtain ⟨⟨hb, hr⟩, h⟩ := h
    obtain ⟨lx, e1, e2, e3⟩ := m_pop_spec _ _ _ _ _ hp
    rw [List.append_nil] at e3
    have e4 : lx = as.reverse ++ [.inr (.inr b)] := by rw [← List.reverse_reverse lx, ← e3]; simp
    subst e2
    subst hn
    subst hk
    rw [e4] at e1
    intro o1 o2 o3 H locs lsA hP hS hl
    have hoa : ∀ v ∈ (.inr (.inr b) :: as : List m_V), m_okV v := fun v hv => o1 v (List.mem_append.mpr (Or.inl (by rw [e3] at hv; exact List.mem_reverse.mp hv)))
    have hor : ∀ v ∈ r, m_okV v := fun v hv => o1 v (List.mem_append.mpr (Or.inr hv))
    have hstk : (lx ++ r).map (m_c X.1) = (as.map (m_c X.1)).reverse ++ .ref (X.1 b) :: r.map (m_c X.1) := by rw [e4]; simp [m_c]
    rw [hstk]
    have hrec := vk_recv (i := b - 200) (m_Env_S C.2.2.2.2.2.2.1) (by omega) hS
    rw [show 200 + (b - 200) = b by omega, ← hc] at hrec
    refine m_after (va_runV (As := as.map (m_c X.1)) (rest := r.map (m_c X.1)) (b := X.1 b) ⟨C.1, C.2.1, C.2.2.1, C.2.2.2.1, C.2.2.2.2.1⟩ (hM _ _ _ h hoa o3) (cwV na C.2.2.2.2.1 (m_good hw h5) rfl rfl rfl ⟨rfl, hy⟩ hR)
      ⟨m_holds_blind X _ g, hrec, ?_⟩ rfl ?_ hl.1 rfl ?_ hd ⟨C.2.2.2.2.2.2.2.2.2.1, C.2.2.2.2.2.2.2.2.2.2.1⟩) hS (m_AA C) ?_
    · exact m_start C hP hS _
    · rw [List.length_map]; simp at e1; omega
    · show 2 * 0 + _ ≤ 8
      have := m_rest X hr
      omega
    · intro x g' H1 locs1 hq ho hi hp1 hs1
      rw [m_pushc]
      exact hq (m_pusho ho hor) o2 hi H1 locs1 lsA hp1 hs1 hl
  · exact False.elim h
/-- Preconditions.checkIndex: a place in range -/
theorem c_pci (l : Launch) (X : m_X) {i n : Int} (hi : m_rng i) (hn : m_rng n) (h0 : 0 ≤ i) (h1 : i < n) {w : Value} (hw : w = .null ∨ ∃ t, w = .ref t) {g : m_G} (hg : m_InR g) : Met l yJ3_checkIndex_8e157 (.code yJ3_checkIndex_8e157 cJ3_checkIndex_8e157 3 (some .int) :: m_tblG) (m_rm 1) (va_Pc [.int (Int32.ofInt i), .int (Int32.ofInt n), w] (m_holds X g)) (m_Qc X (fun r g' => r = some (.inl i) ∧ g' = g)) 0 0 (m_A X.1) := by
  refine Met.ofW (cc := cJ3_checkIndex_8e157) (maxL := 3) (ret := some .int) (by decide) rfl ?_
  intro p e s m args below meth c s₁ B hml hv
  obtain ⟨rfl, hP, hK, hE⟩ := hv
  have hx := B.exec
  have hb := B.bytes
  have hr := B.returns
  have hlocks := B.notSynchronized
  have hl := lv_entry ([.int (Int32.ofInt i), .int (Int32.ofInt n), w]) (n := 3) (by rcases hw with rfl | ⟨t, rfl⟩ <;> exact Nat.le_refl 3)
  rw [lg_entry_eq]
  generalize (lg_sl ([.int (Int32.ofInt i), .int (Int32.ofInt n), w]) ++ List.replicate (3 - (lg_sl ([.int (Int32.ofInt i), .int (Int32.ofInt n), w])).length) Slot.unset).toArray = ls at hl ⊢
  have hl : lv_has ls 3 [(0, .int (Int32.ofInt i)), (1, .int (Int32.ofInt n)), (2, w)] := hl
  refine lv_iload_n hx hb dJ3_checkIndex_8e157_0 rfl (lv_at hl 0 rfl) ?_
  refine lv_if_lt (tgt := 9) hx hb dJ3_checkIndex_8e157_1 (by decide) (fun z => ?_) (fun z => ?_)
  · exact absurd ((m_lt hi m_rng_0).mp z) (by omega)
  · refine lv_iload_n hx hb dJ3_checkIndex_8e157_4 rfl (lv_at hl 0 rfl) ?_
    refine lv_iload_n hx hb dJ3_checkIndex_8e157_5 rfl (lv_at hl 1 rfl) ?_
    refine lv_icmp_lt (tgt := 16) hx hb dJ3_checkIndex_8e157_6 (by decide) (fun z => ?_) (fun z => ?_)
    · refine lv_iload_n hx hb dJ3_checkIndex_8e157_16 rfl (lv_at hl 0 rfl) ?_
      exact W.iret (v := Int32.ofInt i) hx hb hr (fun t ht hW => ⟨⟨some (.inl i), g, rfl, ⟨rfl, rfl⟩, fun v z => by cases z; exact hi, hg, by rw [ht]; exact hP⟩, va_S.rf.F ht⟩) (fun _ z => by cases z) dJ3_checkIndex_8e157_17
    · exact absurd ((m_lt hi hn).mpr h1) z
theorem o_ci (C : m_Cx p R s m args meth c cells slots A0 X cJ0_checkIndex_df160 nL "java/lang/String") (hR : 2 ≤ R.frames ∧ 96 ≤ R.locals) : m_Snd p l e R s m args below meth c cells slots Qf A0 X nL q 2 (s_ci 9) := by
  intro ls stk g h
  rcases stk with _ | ⟨y | y | y, _ | ⟨x | x | x, _ | ⟨w, r⟩⟩⟩
  all_goals first | exact False.elim h | skip
  obtain ⟨hh, h⟩ := h
  intro o1 o2 o3 H locs lsA hP hS hl
  have oy := m_ok1 o1
  have ox := m_ok1 (m_okt o1)
  have hgo : ∀ v : Value, (v = .null ∨ ∃ t, v = .ref t) → va_Z "jdk/internal/util/Preconditions" "SIOOBE_FORMATTER" "Ljava/util/function/BiFunction;" v A0 s s.heap → W p l e R s m args below meth c H locs cells slots Qf (F0 m 2 lsA ([.inl y, .inl x].map (m_c X.1))) := by
    intro v hv hZ
    refine va_gets (v := v) C.1 C.2.1 hZ hS C.2.2.2.1 (C.2.2.2.2.1 _ (m_tb_of 463 (by decide +kernel) rfl)) (fun _ z => z) dJ0_checkIndex_df160_2 ?_
    refine m_after (va_runS (As := [.int (Int32.ofInt x), .int (Int32.ofInt y), v]) (rest := []) ⟨C.1, C.2.1, C.2.2.1, C.2.2.2.1, C.2.2.2.2.1⟩ (c_pci l X ox oy hh.1 hh.2 hv o3)
      (va_cwS 3 C.2.2.2.2.1 (m_good (hd := [.methodLink "java/lang/String" 1059 yJ3_checkIndex_8e157, .static yJ3_checkIndex_8e157, .initialized yJ3_checkIndex_8e157.cls]) (m_in_of [465, 466, 84] (by decide +kernel) (by decide +kernel)) (m_tb_of 467 (by decide +kernel) rfl)) rfl rfl rfl (by decide +kernel) ⟨by show 1 + 1 ≤ _; exact hR.1, by show 8 + (3 + 11) + 48 * 1 ≤ _; omega⟩)
      ⟨m_holds_blind X _ g, m_start C hP hS _⟩ rfl rfl hl.1 rfl (by show 2 * 0 + 0 ≤ 8; omega) dJ0_checkIndex_df160_5 ⟨C.2.2.2.2.2.2.2.2.2.1, C.2.2.2.2.2.2.2.2.2.2.1⟩) hS (m_AA C) (fun r g' H1 locs1 hq ho hi hp1 hs1 => ?_)
    obtain ⟨rfl, rfl⟩ := hq
    refine lv_pop C.1 C.2.1 dJ0_checkIndex_df160_8 rfl ?_
    exact h (fun _ z => by cases z) o2 o3 H1 locs1 lsA hp1 hs1 hl
  rcases C.2.2.2.2.2.2.1.2.2.2.2.2 with hZ | ⟨t, hZ⟩
  · exact hgo _ (Or.inl rfl) hZ
  · exact hgo _ (Or.inr ⟨t, rfl⟩) hZ
end SN
section SR
variable {p : Program} {l : Launch} {e : Env} {R : Room} {s : State} {m : MethodId} {args : Array Value} {below : List Frame} {meth : Method} {c : Code} {X : m_X} {cc : ByteArray} {nL : Nat} {own : String}
variable {q : m_Post} {pc : Nat}
theorem o_cret (C : m_Cx p R s m args meth c 0 0 (m_A X.1) X cc nL own) (hr : meth.sig.returnType = some .char) (hd : decode cc pc = .ok (.ireturn, 1)) : m_Snd p l e R s m args below meth c 0 0 (MQ below (m_Qc X q) args s 0 0 (m_A X.1)) (m_A X.1) X nL q pc s_retc := by
  intro ls stk g h
  rcases stk with _ | ⟨x | x | x, _ | ⟨w, r⟩⟩
  all_goals first | exact False.elim h | skip
  obtain ⟨hh, h⟩ := h
  intro o1 o2 o3 H locs lsA hP hS hl
  have hlocks := C.2.2.2.2.2.2.2.2.2.2.2
  have hn : narrow .char (.int (Int32.ofInt x)) = .int (Int32.ofInt x) := by
    obtain ⟨k, rfl⟩ : ∃ k : Nat, x = (k : Int) := ⟨x.toNat, by omega⟩
    exact (pk_charN (q := k) (by omega)).1
  exact W.zret (v := Int32.ofInt x) (ty := .char) C.1 C.2.1 hr hn (m_end (r := some (.inl x)) h (fun v z => by cases z; exact m_ok1 o1) o3 hP hS) hS.2.2 hd
theorem o_bret (C : m_Cx p R s m args meth c 0 0 (m_A X.1) X cc nL own) (hr : meth.sig.returnType = some .byte) (hd : decode cc pc = .ok (.ireturn, 1)) : m_Snd p l e R s m args below meth c 0 0 (MQ below (m_Qc X q) args s 0 0 (m_A X.1)) (m_A X.1) X nL q pc s_retb := by
  intro ls stk g h
  rcases stk with _ | ⟨x | x | x, _ | ⟨w, r⟩⟩
  all_goals first | exact False.elim h | skip
  obtain ⟨rfl, h⟩ := h
  intro o1 o2 o3 H locs lsA hP hS hl
  have hlocks := C.2.2.2.2.2.2.2.2.2.2.2
  exact W.zret (v := Int32.ofInt 0) (ty := .byte) C.1 C.2.1 hr rfl (m_end (r := some (.inl 0)) h (fun v z => by cases z; exact m_ok1 o1) o3 hP hS) hS.2.2 hd
end SR

theorem ginX0 : ∀ w ∈ u_ws RX0 TX0 8, w ∈ m_tblG := m_in_of [260, 262, 264, 266, 268, 270, 272, 274] (by decide +kernel) (by decide +kernel)
theorem ginX1 : ∀ w ∈ u_ws RX1 TX1 11, w ∈ m_tblG := m_in_of [297, 299, 301, 303, 305, 307, 309, 311, 313, 315, 317] (by decide +kernel) (by decide +kernel)
theorem ginX2 : ∀ w ∈ u_ws RX2 TX2 8, w ∈ m_tblG := m_in_of [130, 132, 134, 136, 138, 140, 142, 144] (by decide +kernel) (by decide +kernel)
theorem ginX3 : ∀ w ∈ u_ws RX3 TX3 12, w ∈ m_tblG := m_in_of [212, 214, 216, 218, 220, 222, 224, 226, 228, 230, 232, 234] (by decide +kernel) (by decide +kernel)
theorem ginX4 : ∀ w ∈ u_ws RX4 TX4 1, w ∈ m_tblG := m_in_of [329] (by decide +kernel) (by decide +kernel)
theorem ginX5 : ∀ w ∈ u_ws RX5 TX5 1, w ∈ m_tblG := m_in_of [358] (by decide +kernel) (by decide +kernel)
theorem ginX6 : ∀ w ∈ u_ws RX6 TX6 6, w ∈ m_tblG := m_in_of [163, 165, 167, 169, 171, 173] (by decide +kernel) (by decide +kernel)
theorem ginX7 : ∀ w ∈ u_ws RX7 TX7 3, w ∈ m_tblG := m_in_of [343, 345, 347] (by decide +kernel) (by decide +kernel)
theorem ginX8 : ∀ w ∈ u_ws RX8 TX8 11, w ∈ m_tblG := m_in_of [372, 374, 376, 378, 380, 382, 384, 386, 388, 390, 392] (by decide +kernel) (by decide +kernel)
theorem ginX9 : ∀ w ∈ u_ws RX9 TX9 35, w ∈ m_tblG := m_in_of [961, 963, 965, 967, 969, 971, 973, 975, 977, 979, 981, 983, 985, 987, 989, 991, 993, 995, 997, 999, 1001, 1003, 1005, 1007, 1009, 1011, 1013, 1015, 1017, 1019, 1021, 1023, 1025, 1027, 1029] (by decide +kernel) (by decide +kernel)
