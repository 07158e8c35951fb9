/-! the law, up to its loop: both constructors -/
set_option maxRecDepth 100000 in
theorem g_X9c : Cond.code iX9.1 iX9.2.1 iX9.2.2.1 none ∈ lw_g := lw_gm 832 rfl rfl
theorem n_law (n : NG_) (b : Nat) : VN_ n mL_law room_1 0 0 0 [(0, .ref b)] [] [] (fun pc lv st ws c s => pc = 18 ∧ st = [] ∧ c ≤ 600000 ∧ s ≤ 7302250 ∧ ∃ (a : Nat) (u : Nat → Nat) (a2 : Nat) (u2 : Nat → Nat), lv = [(3, .int 0), (2, .ref a2), (1, .ref a), (0, .ref b)] ∧ ws = [] ++ wX8 n a u ++ wX9 n a2 u2) := by
  refine vn_new (ci := 7) (fs := [.null, .null, .null, .null, .null, .null, .null, .null, .int 0]) tyX8 (q := 3) dL_law_0 rfl in_X8 tyX8_ok (lw_gm 75 (by decide +kernel) rfl) (lw_gm 76 (by decide +kernel) rfl) (lw_gm 62 (by decide +kernel) rfl) rfl df_X8 (Nat.le_of_ble_eq_true rfl) (Nat.le_of_ble_eq_true rfl) (fun a => ?_)
  refine vn_dup (q := 4) dL_law_3 rfl ?_
  refine vn_call (as := []) (a := a) (st := [.ref a]) (nn := 0) (q := 7) dL_law_4 rfl (n_X8 n) (lw_gm 79 rfl rfl) rfl (lw_gm 62 (by decide +kernel) rfl) (lw_gm 77 (by decide +kernel) rfl) (lw_gm 78 (by decide +kernel) rfl) rfl ⟨by decide, by decide, by decide +kernel⟩ rfl ⟨Nat.le_of_ble_eq_true rfl, Nat.le_of_ble_eq_true rfl⟩ (Nat.le_of_ble_eq_true rfl) ⟨Nat.le_of_ble_eq_true rfl, Nat.le_of_ble_eq_true rfl⟩ (fun u => ?_)
  refine vn_astore (q := 8) (lv2 := [(1, .ref a), (0, .ref b)]) dL_law_7 rfl rfl (Nat.le_of_ble_eq_true rfl) rfl ?_
  refine vn_new (ci := 8) (fs := [.null, .null, .null, .null, .int 0, .null, .int 0, .int 0, .int 0, .int 0, .int 0, .int 0, .int 0, .null, .null, .null, .int 0, .null, .null, .null, .int 0, .int 0, .int 0, .int 0, .null, .null, .null, .int 0]) tyX9 (q := 11) dL_law_8 rfl in_X9 tyX9_ok (lw_gm 828 (by decide +kernel) rfl) (lw_gm 829 (by decide +kernel) rfl) (lw_gm 70 (by decide +kernel) rfl) rfl df_X9 (Nat.le_of_ble_eq_true rfl) (Nat.le_of_ble_eq_true rfl) (fun a2 => ?_)
  refine vn_dup (q := 12) dL_law_11 rfl ?_
  refine vn_call (as := []) (a := a2) (st := [.ref a2]) (nn := 0) (q := 15) dL_law_12 rfl (n_X9 n) g_X9c rfl (lw_gm 70 (by decide +kernel) rfl) (lw_gm 830 (by decide +kernel) rfl) (lw_gm 831 (by decide +kernel) rfl) rfl ⟨by decide, by decide, by decide +kernel⟩ rfl ⟨Nat.le_of_ble_eq_true rfl, Nat.le_of_ble_eq_true rfl⟩ (Nat.le_of_ble_eq_true rfl) ⟨Nat.le_of_ble_eq_true rfl, Nat.le_of_ble_eq_true rfl⟩ (fun u2 => ?_)
  refine vn_astore (q := 16) (lv2 := [(2, .ref a2), (1, .ref a), (0, .ref b)]) dL_law_15 rfl rfl (Nat.le_of_ble_eq_true rfl) rfl ?_
  refine vn_iconst (q := 17) (v := 0) dL_law_16 rfl rfl ?_
  refine vn_istore (q := 18) (lv2 := [(3, .int 0), (2, .ref a2), (1, .ref a), (0, .ref b)]) dL_law_17 rfl rfl (Nat.le_of_ble_eq_true rfl) rfl ?_
  exact vn_end ⟨rfl, rfl, Nat.le_of_ble_eq_true rfl, Nat.le_of_ble_eq_true rfl, a, u, a2, u2, rfl, rfl⟩
