set_option maxHeartbeats 4000000 in
set_option maxRecDepth 100000 in
/-- the law's opening: both objects are made -/
theorem lw_open {p : Program} {l : Launch} {e : Env} {s : State} {m : MethodId} {args : Array Value} {below : List Frame} {meth : Method} {c : Code} {Q : State → Prop} {A : Nat → Prop} {X : m_X} {b : Nat} {lsA : Array Slot} (C : n_Cx p s m args c A X cL_law 4 "WhichLaneLaw") (hl : lv_has lsA 4 [(0, .ref b)])
    (kk : ∀ (u w : Nat → Nat) (ls2 : Array Slot), lv_has ls2 4 [(3, .int 0), (2, .ref (w 0)), (1, .ref (u 0)), (0, .ref b)] → n_J p l e room_1 s m args below meth c Q A X 91 5067 (V_8 X u ++ V_9 X w) 18 ls2 []) : n_J p l e room_1 s m args below meth c Q A X 0 0 [] 0 lsA [] := by
  refine n_new C (ci := 8) (T := TX8) (N := 11) (ty0 := tyX8) rfl ginX8 tyX8_ok (m_tb_of 89 (by decide +kernel) rfl) (m_tb_of 90 (by decide +kernel) rfl) (m_tb_of 72 (by decide +kernel) rfl) [.null, .null, .null, .null, .null, .null, .null, .null, .null, .int 0, .int 0] (by decide) (Nat.le_of_ble_eq_true rfl) (Nat.le_of_ble_eq_true rfl) dL_law_0 (fun q1 => ?_)
  refine n_dup C dL_law_3 ?_
  refine n_init C (iX8 l X) 0 rfl [] [] rfl (by decide) (by decide) (m_tb_of 72 (by decide +kernel) rfl) (m_tb_of 91 (by decide +kernel) rfl) (m_tb_of 92 (by decide +kernel) rfl) (m_tb_of 93 (by decide +kernel) rfl) rfl (by decide +kernel) ⟨Nat.le_of_ble_eq_true rfl, Nat.le_of_ble_eq_true rfl⟩ hl.1 (Nat.le_of_ble_eq_true rfl) ⟨Nat.le_of_ble_eq_true rfl, Nat.le_of_ble_eq_true rfl⟩ dL_law_4 (fun u hu => ?_)
  subst hu
  refine n_astore C (i := 1) (lv' := [(1, .ref (u 0)), (0, .ref b)]) dL_law_7 rfl hl (by decide) rfl (fun lsA hl => ?_)
  refine n_norm (ws2 := V_8 X u) rfl ?_
  refine n_new C (ci := 9) (T := TX9) (N := 35) (ty0 := tyX9) rfl ginX9 tyX9_ok (m_tb_of 920 (by decide +kernel) rfl) (m_tb_of 921 (by decide +kernel) rfl) (m_tb_of 81 (by decide +kernel) rfl) [.null, .null, .null, .null, .null, .int 0, .null, .null, .int 0, .int 0, .null, .null, .null, .null, .null, .null, .null, .null, .null, .null, .null, .null, .null, .int 0, .int 0, .int 0, .int 0, .int 0, .int 0, .null, .null, .int 0, .null, .null, .int 0] (by decide) (Nat.le_of_ble_eq_true rfl) (Nat.le_of_ble_eq_true rfl) dL_law_8 (fun q2 => ?_)
  refine n_dup C dL_law_11 ?_
  refine n_init C (iX9 l X) 66 rfl [0, 1, 2, 3, 4, 5, 6, 7, 8, 9, 10, 11, 12, 13, 14, 15, 16, 17, 18, 19, 20, 21, 22, 23, 24, 25, 26, 27, 28, 29, 30, 31, 32, 33, 34, 35, 36, 37, 38, 39, 40, 41, 42, 43, 44, 45, 46, 47, 48, 49, 50, 51, 52, 53, 54, 55, 56, 57, 58, 59, 60, 61, 62, 63, 64, 65] (V_8 X u) rfl (by decide) (by decide) (m_tb_of 81 (by decide +kernel) rfl) (m_tb_of 922 (by decide +kernel) rfl) (m_tb_of 923 (by decide +kernel) rfl) (m_tb_of 924 (by decide +kernel) rfl) rfl (by decide +kernel) ⟨Nat.le_of_ble_eq_true rfl, Nat.le_of_ble_eq_true rfl⟩ hl.1 (Nat.le_of_ble_eq_true rfl) ⟨Nat.le_of_ble_eq_true rfl, Nat.le_of_ble_eq_true rfl⟩ dL_law_12 (fun w hw => ?_)
  subst hw
  refine n_astore C (i := 2) (lv' := [(2, .ref (w 0)), (1, .ref (u 0)), (0, .ref b)]) dL_law_15 rfl hl (by decide) rfl (fun lsA hl => ?_)
  refine n_iconst C (v := 0) dL_law_16 rfl ?_
  refine n_istore C (i := 3) (lv' := [(3, .int 0), (2, .ref (w 0)), (1, .ref (u 0)), (0, .ref b)]) dL_law_17 rfl hl (by decide) rfl (fun lsA hl => ?_)
  exact kk u w lsA hl
