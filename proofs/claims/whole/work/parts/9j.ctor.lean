theorem df_X0 : ∀ j, j < 7 → defaultValue (tyX0 j) = vp_V [.null, .null, .null, .null, .null, .int 0, .int 0] j := by
  intro j hj
  rcases (by omega : j = 0 ∨ j = 1 ∨ j = 2 ∨ j = 3 ∨ j = 4 ∨ j = 5 ∨ j = 6) with rfl | rfl | rfl | rfl | rfl | rfl | rfl <;> rfl
theorem df_X1 : ∀ j, j < 2 → defaultValue (tyX1 j) = vp_V [.null, .int 0] j := by
  intro j hj
  rcases (by omega : j = 0 ∨ j = 1) with rfl | rfl <;> rfl
theorem df_X2 : ∀ j, j < 8 → defaultValue (tyX2 j) = vp_V [.null, .null, .null, .int 0, .int 0, .null, .null, .int 0] j := by
  intro j hj
  rcases (by omega : j = 0 ∨ j = 1 ∨ j = 2 ∨ j = 3 ∨ j = 4 ∨ j = 5 ∨ j = 6 ∨ j = 7) with rfl | rfl | rfl | rfl | rfl | rfl | rfl | rfl <;> rfl
theorem df_X4 : ∀ j, j < 4 → defaultValue (tyX4 j) = vp_V [.int 0, .int 0, .int 0, .null] j := by
  intro j hj
  rcases (by omega : j = 0 ∨ j = 1 ∨ j = 2 ∨ j = 3) with rfl | rfl | rfl | rfl <;> rfl
theorem df_X5 : ∀ j, j < 4 → defaultValue (tyX5 j) = vp_V [.null, .int 0, .int 0, .int 0] j := by
  intro j hj
  rcases (by omega : j = 0 ∨ j = 1 ∨ j = 2 ∨ j = 3) with rfl | rfl | rfl | rfl <;> rfl
theorem df_X6 : ∀ j, j < 3 → defaultValue (tyX6 j) = vp_V [.null, .null, .null] j := by
  intro j hj
  rcases (by omega : j = 0 ∨ j = 1 ∨ j = 2) with rfl | rfl | rfl <;> rfl
theorem df_X7 : ∀ j, j < 11 → defaultValue (tyX7 j) = vp_V [.int 0, .int 0, .int 0, .int 0, .null, .null, .null, .null, .null, .null, .null] j := by
  intro j hj
  rcases (by omega : j = 0 ∨ j = 1 ∨ j = 2 ∨ j = 3 ∨ j = 4 ∨ j = 5 ∨ j = 6 ∨ j = 7 ∨ j = 8 ∨ j = 9 ∨ j = 10) with rfl | rfl | rfl | rfl | rfl | rfl | rfl | rfl | rfl | rfl | rfl <;> rfl
theorem df_X8 : ∀ j, j < 9 → defaultValue (tyX8 j) = vp_V [.null, .null, .null, .null, .null, .null, .null, .null, .int 0] j := by
  intro j hj
  rcases (by omega : j = 0 ∨ j = 1 ∨ j = 2 ∨ j = 3 ∨ j = 4 ∨ j = 5 ∨ j = 6 ∨ j = 7 ∨ j = 8) with rfl | rfl | rfl | rfl | rfl | rfl | rfl | rfl | rfl <;> rfl
theorem df_X9 : ∀ j, j < 28 → defaultValue (tyX9 j) = vp_V [.null, .null, .null, .null, .int 0, .null, .int 0, .int 0, .int 0, .int 0, .int 0, .int 0, .int 0, .null, .null, .null, .int 0, .null, .null, .null, .int 0, .int 0, .int 0, .int 0, .null, .null, .null, .int 0] j := by
  intro j hj
  rcases (by omega : j = 0 ∨ j = 1 ∨ j = 2 ∨ j = 3 ∨ j = 4 ∨ j = 5 ∨ j = 6 ∨ j = 7 ∨ j = 8 ∨ j = 9 ∨ j = 10 ∨ j = 11 ∨ j = 12 ∨ j = 13 ∨ j = 14 ∨ j = 15 ∨ j = 16 ∨ j = 17 ∨ j = 18 ∨ j = 19 ∨ j = 20 ∨ j = 21 ∨ j = 22 ∨ j = 23 ∨ j = 24 ∨ j = 25 ∨ j = 26 ∨ j = 27) with rfl | rfl | rfl | rfl | rfl | rfl | rfl | rfl | rfl | rfl | rfl | rfl | rfl | rfl | rfl | rfl | rfl | rfl | rfl | rfl | rfl | rfl | rfl | rfl | rfl | rfl | rfl | rfl <;> rfl
abbrev iX4 : MD_ := (yX4_init, cX4_init, 1, none, 0)
def rX4 : Room := { frames := 1, cells := 1, slots := 4, locals := 12 }
def wX4 (n : NG_) (a : Nat) (u : Nat → Nat) : va_W := [(a, .inr (3, [.int 0, .int 0, .int 0, .ref (u 1)])), ((u 1), .inl (ng_I n, 4, .inl (fun _ => 0)))]
set_option maxHeartbeats 20000000 in
theorem n_X4 (n : NG_) : NC_ n iX4 rX4 (.inr (3, [.int 0, .int 0, .int 0, .null])) [] (wX4 n) := by
  refine nc_mk (by decide) rfl rfl (Nat.le_of_ble_eq_true rfl) (fun _ => rfl) (fun a => ?_)
  show VN_ n iX4 rX4 0 0 0 [(0, .ref a)] [] [(a, .inr (3, [.int 0, .int 0, .int 0, .null]))] _
  refine vn_aload (q := 1) (j := 0) dX4_init_0 rfl rfl rfl ?_
  refine vn_obj (q := 4) dX4_init_1 rfl (lw_gm 227 (by decide +kernel) rfl) (lw_gm 81 (by decide +kernel) rfl) (lw_gm 82 rfl rfl) (Nat.le_of_ble_eq_true rfl) (Nat.le_of_ble_eq_true rfl) ?_
  refine vn_aload (q := 5) (j := 0) dX4_init_4 rfl rfl rfl ?_
  refine vn_iconst (q := 6) (v := 0) dX4_init_5 rfl rfl ?_
  refine vn_put (k := 0) (q0 := 0) (ty := tyX4 0) (ws2 := [(a, .inr (3, [.int 0, .int 0, .int 0, .null]))]) (q := 9) dX4_init_6 rfl in_X4 tyX4_ok nmX4 rfl rfl (by decide) (lw_gm 228 (by decide +kernel) rfl) rfl (tyX4_ok 0 (by decide)) rfl rfl (Nat.le_of_ble_eq_true rfl) rfl ?_
  refine vn_aload (q := 10) (j := 0) dX4_init_9 rfl rfl rfl ?_
  refine vn_iconst (q := 11) (v := 0) dX4_init_10 rfl rfl ?_
  refine vn_put (k := 1) (q0 := 0) (ty := tyX4 1) (ws2 := [(a, .inr (3, [.int 0, .int 0, .int 0, .null]))]) (q := 14) dX4_init_11 rfl in_X4 tyX4_ok nmX4 rfl rfl (by decide) (lw_gm 231 (by decide +kernel) rfl) rfl (tyX4_ok 1 (by decide)) rfl rfl (Nat.le_of_ble_eq_true rfl) rfl ?_
  refine vn_aload (q := 15) (j := 0) dX4_init_14 rfl rfl rfl ?_
  refine vn_iconst (q := 16) (v := 0) dX4_init_15 rfl rfl ?_
  refine vn_put (k := 2) (q0 := 0) (ty := tyX4 2) (ws2 := [(a, .inr (3, [.int 0, .int 0, .int 0, .null]))]) (q := 19) dX4_init_16 rfl in_X4 tyX4_ok nmX4 rfl rfl (by decide) (lw_gm 233 (by decide +kernel) rfl) rfl (tyX4_ok 2 (by decide)) rfl rfl (Nat.le_of_ble_eq_true rfl) rfl ?_
  refine vn_aload (q := 20) (j := 0) dX4_init_19 rfl rfl rfl ?_
  refine vn_iconst (q := 21) (v := 4) dX4_init_20 rfl rfl ?_
  refine vn_newI (q := 23) (N := 4) dX4_init_21 rfl (by decide) rfl (by decide) (Nat.le_of_ble_eq_true rfl) (Nat.le_of_ble_eq_true rfl) (lw_gm 99 (by decide +kernel) rfl) (fun q1 => ?_)
  refine vn_putF (k := 3) (q0 := 0) (ty := tyX4 3) (ws2 := [(a, .inr (3, [.int 0, .int 0, .int 0, .ref q1]))] ++ [(q1, .inl (ng_I n, 4, .inl (fun _ => 0)))]) (q := 26) dX4_init_23 rfl in_X4 tyX4_ok nmX4 rfl rfl (by decide) (lw_gm 234 (by decide +kernel) rfl) rfl rfl rfl (tyX4_ok 3 (by decide)) rfl rfl (Nat.le_of_ble_eq_true rfl) rfl ?_
  refine vn_end ⟨dX4_init_26, rfl, Nat.le_of_ble_eq_true rfl, Nat.le_of_ble_eq_true rfl, fun i => ([a, q1] : List Nat).getD i 0, rfl⟩
abbrev iX5 : MD_ := (yX5_init, cX5_init, 1, none, 0)
def rX5 : Room := { frames := 1, cells := 1, slots := 120, locals := 12 }
def wX5 (n : NG_) (a : Nat) (u : Nat → Nat) : va_W := [(a, .inr (4, [.ref (u 1), .int 0, .int 0, .int 0])), ((u 1), .inl (ng_I n, 120, .inl (fun _ => 0)))]
set_option maxHeartbeats 20000000 in
theorem n_X5 (n : NG_) : NC_ n iX5 rX5 (.inr (4, [.null, .int 0, .int 0, .int 0])) [] (wX5 n) := by
  refine nc_mk (by decide) rfl rfl (Nat.le_of_ble_eq_true rfl) (fun _ => rfl) (fun a => ?_)
  show VN_ n iX5 rX5 0 0 0 [(0, .ref a)] [] [(a, .inr (4, [.null, .int 0, .int 0, .int 0]))] _
  refine vn_aload (q := 1) (j := 0) dX5_init_0 rfl rfl rfl ?_
  refine vn_obj (q := 4) dX5_init_1 rfl (lw_gm 105 (by decide +kernel) rfl) (lw_gm 81 (by decide +kernel) rfl) (lw_gm 82 rfl rfl) (Nat.le_of_ble_eq_true rfl) (Nat.le_of_ble_eq_true rfl) ?_
  refine vn_aload (q := 5) (j := 0) dX5_init_4 rfl rfl rfl ?_
  refine vn_bipush (q := 7) (v := 120) dX5_init_5 rfl rfl ?_
  refine vn_newI (q := 9) (N := 120) dX5_init_7 rfl (by decide) rfl (by decide) (Nat.le_of_ble_eq_true rfl) (Nat.le_of_ble_eq_true rfl) (lw_gm 99 (by decide +kernel) rfl) (fun q1 => ?_)
  refine vn_putF (k := 0) (q0 := 0) (ty := tyX5 0) (ws2 := [(a, .inr (4, [.ref q1, .int 0, .int 0, .int 0]))] ++ [(q1, .inl (ng_I n, 120, .inl (fun _ => 0)))]) (q := 12) dX5_init_9 rfl in_X5 tyX5_ok nmX5 rfl rfl (by decide) (lw_gm 106 (by decide +kernel) rfl) rfl rfl rfl (tyX5_ok 0 (by decide)) rfl rfl (Nat.le_of_ble_eq_true rfl) rfl ?_
  refine vn_aload (q := 13) (j := 0) dX5_init_12 rfl rfl rfl ?_
  refine vn_iconst (q := 14) (v := 0) dX5_init_13 rfl rfl ?_
  refine vn_put (k := 1) (q0 := 0) (ty := tyX5 1) (ws2 := [(a, .inr (4, [.ref q1, .int 0, .int 0, .int 0]))] ++ [(q1, .inl (ng_I n, 120, .inl (fun _ => 0)))]) (q := 17) dX5_init_14 rfl in_X5 tyX5_ok nmX5 rfl rfl (by decide) (lw_gm 107 (by decide +kernel) rfl) rfl (tyX5_ok 1 (by decide)) rfl rfl (Nat.le_of_ble_eq_true rfl) rfl ?_
  refine vn_aload (q := 18) (j := 0) dX5_init_17 rfl rfl rfl ?_
  refine vn_iconst (q := 19) (v := 0) dX5_init_18 rfl rfl ?_
  refine vn_put (k := 2) (q0 := 0) (ty := tyX5 2) (ws2 := [(a, .inr (4, [.ref q1, .int 0, .int 0, .int 0]))] ++ [(q1, .inl (ng_I n, 120, .inl (fun _ => 0)))]) (q := 22) dX5_init_19 rfl in_X5 tyX5_ok nmX5 rfl rfl (by decide) (lw_gm 108 (by decide +kernel) rfl) rfl (tyX5_ok 2 (by decide)) rfl rfl (Nat.le_of_ble_eq_true rfl) rfl ?_
  refine vn_aload (q := 23) (j := 0) dX5_init_22 rfl rfl rfl ?_
  refine vn_iconst (q := 24) (v := 0) dX5_init_23 rfl rfl ?_
  refine vn_put (k := 3) (q0 := 0) (ty := tyX5 3) (ws2 := [(a, .inr (4, [.ref q1, .int 0, .int 0, .int 0]))] ++ [(q1, .inl (ng_I n, 120, .inl (fun _ => 0)))]) (q := 27) dX5_init_24 rfl in_X5 tyX5_ok nmX5 rfl rfl (by decide) (lw_gm 109 (by decide +kernel) rfl) rfl (tyX5_ok 3 (by decide)) rfl rfl (Nat.le_of_ble_eq_true rfl) rfl ?_
  refine vn_end ⟨dX5_init_27, rfl, Nat.le_of_ble_eq_true rfl, Nat.le_of_ble_eq_true rfl, fun i => ([a, q1] : List Nat).getD i 0, rfl⟩
abbrev iX6 : MD_ := (yX6_init, cX6_init, 2, none, 0)
def rX6 : Room := { frames := 1, cells := 3, slots := 336, locals := 12 }
def wX6 (n : NG_) (a : Nat) (u : Nat → Nat) : va_W := [(a, .inr (5, [.ref (u 1), .ref (u 2), .ref (u 3)])), ((u 1), .inl (ng_I n, 8, .inl (upd (upd (upd (upd (upd (upd (upd (upd (fun _ => 0) 0 (-1)) 1 (-1)) 2 (-1)) 3 (-1)) 4 (-1)) 5 (-1)) 6 (-1)) 7 (-1)))), ((u 2), .inl (ng_I n, 8, .inl (fun _ => 0))), ((u 3), .inl (ng_I n, 320, .inl (fun _ => 0)))]
set_option maxHeartbeats 20000000 in
theorem n_X6 (n : NG_) : NC_ n iX6 rX6 (.inr (5, [.null, .null, .null])) [] (wX6 n) := by
  refine nc_mk (by decide) rfl rfl (Nat.le_of_ble_eq_true rfl) (fun _ => rfl) (fun a => ?_)
  show VN_ n iX6 rX6 0 0 0 [(0, .ref a)] [] [(a, .inr (5, [.null, .null, .null]))] _
  refine vn_aload (q := 1) (j := 0) dX6_init_0 rfl rfl rfl ?_
  refine vn_obj (q := 4) dX6_init_1 rfl (lw_gm 88 (by decide +kernel) rfl) (lw_gm 81 (by decide +kernel) rfl) (lw_gm 82 rfl rfl) (Nat.le_of_ble_eq_true rfl) (Nat.le_of_ble_eq_true rfl) ?_
  refine vn_aload (q := 5) (j := 0) dX6_init_4 rfl rfl rfl ?_
  refine vn_bipush (q := 7) (v := 8) dX6_init_5 rfl rfl ?_
  refine vn_newI (q := 9) (N := 8) dX6_init_7 rfl (by decide) rfl (by decide) (Nat.le_of_ble_eq_true rfl) (Nat.le_of_ble_eq_true rfl) (lw_gm 99 (by decide +kernel) rfl) (fun q1 => ?_)
  refine vn_putF (k := 0) (q0 := 0) (ty := tyX6 0) (ws2 := [(a, .inr (5, [.ref q1, .null, .null]))] ++ [(q1, .inl (ng_I n, 8, .inl (fun _ => 0)))]) (q := 12) dX6_init_9 rfl in_X6 tyX6_ok nmX6 rfl rfl (by decide) (lw_gm 89 (by decide +kernel) rfl) rfl rfl rfl (tyX6_ok 0 (by decide)) rfl rfl (Nat.le_of_ble_eq_true rfl) rfl ?_
  refine vn_aload (q := 13) (j := 0) dX6_init_12 rfl rfl rfl ?_
  refine vn_bipush (q := 15) (v := 8) dX6_init_13 rfl rfl ?_
  refine vn_newI (q := 17) (N := 8) dX6_init_15 rfl (by decide) rfl (by decide) (Nat.le_of_ble_eq_true rfl) (Nat.le_of_ble_eq_true rfl) (lw_gm 99 (by decide +kernel) rfl) (fun q2 => ?_)
  refine vn_putF (k := 1) (q0 := 0) (ty := tyX6 1) (ws2 := [(a, .inr (5, [.ref q1, .ref q2, .null]))] ++ [(q1, .inl (ng_I n, 8, .inl (fun _ => 0)))] ++ [(q2, .inl (ng_I n, 8, .inl (fun _ => 0)))]) (q := 20) dX6_init_17 rfl in_X6 tyX6_ok nmX6 rfl rfl (by decide) (lw_gm 90 (by decide +kernel) rfl) rfl rfl rfl (tyX6_ok 1 (by decide)) rfl rfl (Nat.le_of_ble_eq_true rfl) rfl ?_
  refine vn_aload (q := 21) (j := 0) dX6_init_20 rfl rfl rfl ?_
  refine vn_sipush (q := 24) (v := 320) dX6_init_21 rfl rfl ?_
  refine vn_newI (q := 26) (N := 320) dX6_init_24 rfl (by decide) rfl (by decide) (Nat.le_of_ble_eq_true rfl) (Nat.le_of_ble_eq_true rfl) (lw_gm 99 (by decide +kernel) rfl) (fun q3 => ?_)
  refine vn_putF (k := 2) (q0 := 0) (ty := tyX6 2) (ws2 := [(a, .inr (5, [.ref q1, .ref q2, .ref q3]))] ++ [(q1, .inl (ng_I n, 8, .inl (fun _ => 0)))] ++ [(q2, .inl (ng_I n, 8, .inl (fun _ => 0)))] ++ [(q3, .inl (ng_I n, 320, .inl (fun _ => 0)))]) (q := 29) dX6_init_26 rfl in_X6 tyX6_ok nmX6 rfl rfl (by decide) (lw_gm 91 (by decide +kernel) rfl) rfl rfl rfl (tyX6_ok 2 (by decide)) rfl rfl (Nat.le_of_ble_eq_true rfl) rfl ?_
  refine vn_iconst (q := 30) (v := 0) dX6_init_29 rfl rfl ?_
  refine vn_istore (q := 31) (lv2 := [(1, .int 0), (0, .ref a)]) dX6_init_30 rfl rfl (Nat.le_of_ble_eq_true rfl) rfl ?_
  refine vn_iload (q := 32) (j := 0) dX6_init_31 rfl rfl rfl ?_
  refine vn_bipush (q := 34) (v := 8) dX6_init_32 rfl rfl ?_
  refine vn_geF (t := 50) (q := 37) dX6_init_34 (by decide) rfl (by decide) ?_
  refine vn_aload (q := 38) (j := 1) dX6_init_37 rfl rfl rfl ?_
  refine vn_get (k := 0) (q0 := 0) (q := 41) dX6_init_38 rfl in_X6 rfl rfl (by decide) (lw_gm 89 (by decide +kernel) rfl) rfl ?_
  refine vn_iload (q := 42) (j := 0) dX6_init_41 rfl rfl rfl ?_
  refine vn_iconst (q := 43) (v := (-1)) dX6_init_42 rfl rfl ?_
  refine vn_iast (q0 := 1) (ws2 := [(a, .inr (5, [.ref q1, .ref q2, .ref q3]))] ++ [(q1, .inl (ng_I n, 8, .inl (upd (fun _ => 0) 0 (-1))))] ++ [(q2, .inl (ng_I n, 8, .inl (fun _ => 0)))] ++ [(q3, .inl (ng_I n, 320, .inl (fun _ => 0)))]) (q := 44) dX6_init_43 rfl rfl (by unfold vp_in; decide) rfl ?_
  refine vn_iinc (q := 47) (j := 0) (v := 1) (lv2 := [(1, .int 1), (0, .ref a)]) dX6_init_44 rfl rfl rfl (Nat.le_of_ble_eq_true rfl) rfl ?_
  refine vn_goto (t := 31) dX6_init_47 (by decide) ?_
  refine vn_iload (q := 32) (j := 0) dX6_init_31 rfl rfl rfl ?_
  refine vn_bipush (q := 34) (v := 8) dX6_init_32 rfl rfl ?_
  refine vn_geF (t := 50) (q := 37) dX6_init_34 (by decide) rfl (by decide) ?_
  refine vn_aload (q := 38) (j := 1) dX6_init_37 rfl rfl rfl ?_
  refine vn_get (k := 0) (q0 := 0) (q := 41) dX6_init_38 rfl in_X6 rfl rfl (by decide) (lw_gm 89 (by decide +kernel) rfl) rfl ?_
  refine vn_iload (q := 42) (j := 0) dX6_init_41 rfl rfl rfl ?_
  refine vn_iconst (q := 43) (v := (-1)) dX6_init_42 rfl rfl ?_
  refine vn_iast (q0 := 1) (ws2 := [(a, .inr (5, [.ref q1, .ref q2, .ref q3]))] ++ [(q1, .inl (ng_I n, 8, .inl (upd (upd (fun _ => 0) 0 (-1)) 1 (-1))))] ++ [(q2, .inl (ng_I n, 8, .inl (fun _ => 0)))] ++ [(q3, .inl (ng_I n, 320, .inl (fun _ => 0)))]) (q := 44) dX6_init_43 rfl rfl (by unfold vp_in; decide) rfl ?_
  refine vn_iinc (q := 47) (j := 0) (v := 2) (lv2 := [(1, .int 2), (0, .ref a)]) dX6_init_44 rfl rfl rfl (Nat.le_of_ble_eq_true rfl) rfl ?_
  refine vn_goto (t := 31) dX6_init_47 (by decide) ?_
  refine vn_iload (q := 32) (j := 0) dX6_init_31 rfl rfl rfl ?_
  refine vn_bipush (q := 34) (v := 8) dX6_init_32 rfl rfl ?_
  refine vn_geF (t := 50) (q := 37) dX6_init_34 (by decide) rfl (by decide) ?_
  refine vn_aload (q := 38) (j := 1) dX6_init_37 rfl rfl rfl ?_
  refine vn_get (k := 0) (q0 := 0) (q := 41) dX6_init_38 rfl in_X6 rfl rfl (by decide) (lw_gm 89 (by decide +kernel) rfl) rfl ?_
  refine vn_iload (q := 42) (j := 0) dX6_init_41 rfl rfl rfl ?_
  refine vn_iconst (q := 43) (v := (-1)) dX6_init_42 rfl rfl ?_
  refine vn_iast (q0 := 1) (ws2 := [(a, .inr (5, [.ref q1, .ref q2, .ref q3]))] ++ [(q1, .inl (ng_I n, 8, .inl (upd (upd (upd (fun _ => 0) 0 (-1)) 1 (-1)) 2 (-1))))] ++ [(q2, .inl (ng_I n, 8, .inl (fun _ => 0)))] ++ [(q3, .inl (ng_I n, 320, .inl (fun _ => 0)))]) (q := 44) dX6_init_43 rfl rfl (by unfold vp_in; decide) rfl ?_
  refine vn_iinc (q := 47) (j := 0) (v := 3) (lv2 := [(1, .int 3), (0, .ref a)]) dX6_init_44 rfl rfl rfl (Nat.le_of_ble_eq_true rfl) rfl ?_
  refine vn_goto (t := 31) dX6_init_47 (by decide) ?_
  refine vn_iload (q := 32) (j := 0) dX6_init_31 rfl rfl rfl ?_
  refine vn_bipush (q := 34) (v := 8) dX6_init_32 rfl rfl ?_
  refine vn_geF (t := 50) (q := 37) dX6_init_34 (by decide) rfl (by decide) ?_
  refine vn_aload (q := 38) (j := 1) dX6_init_37 rfl rfl rfl ?_
  refine vn_get (k := 0) (q0 := 0) (q := 41) dX6_init_38 rfl in_X6 rfl rfl (by decide) (lw_gm 89 (by decide +kernel) rfl) rfl ?_
  refine vn_iload (q := 42) (j := 0) dX6_init_41 rfl rfl rfl ?_
  refine vn_iconst (q := 43) (v := (-1)) dX6_init_42 rfl rfl ?_
  refine vn_iast (q0 := 1) (ws2 := [(a, .inr (5, [.ref q1, .ref q2, .ref q3]))] ++ [(q1, .inl (ng_I n, 8, .inl (upd (upd (upd (upd (fun _ => 0) 0 (-1)) 1 (-1)) 2 (-1)) 3 (-1))))] ++ [(q2, .inl (ng_I n, 8, .inl (fun _ => 0)))] ++ [(q3, .inl (ng_I n, 320, .inl (fun _ => 0)))]) (q := 44) dX6_init_43 rfl rfl (by unfold vp_in; decide) rfl ?_
  refine vn_iinc (q := 47) (j := 0) (v := 4) (lv2 := [(1, .int 4), (0, .ref a)]) dX6_init_44 rfl rfl rfl (Nat.le_of_ble_eq_true rfl) rfl ?_
  refine vn_goto (t := 31) dX6_init_47 (by decide) ?_
  refine vn_iload (q := 32) (j := 0) dX6_init_31 rfl rfl rfl ?_
  refine vn_bipush (q := 34) (v := 8) dX6_init_32 rfl rfl ?_
  refine vn_geF (t := 50) (q := 37) dX6_init_34 (by decide) rfl (by decide) ?_
  refine vn_aload (q := 38) (j := 1) dX6_init_37 rfl rfl rfl ?_
  refine vn_get (k := 0) (q0 := 0) (q := 41) dX6_init_38 rfl in_X6 rfl rfl (by decide) (lw_gm 89 (by decide +kernel) rfl) rfl ?_
  refine vn_iload (q := 42) (j := 0) dX6_init_41 rfl rfl rfl ?_
  refine vn_iconst (q := 43) (v := (-1)) dX6_init_42 rfl rfl ?_
  refine vn_iast (q0 := 1) (ws2 := [(a, .inr (5, [.ref q1, .ref q2, .ref q3]))] ++ [(q1, .inl (ng_I n, 8, .inl (upd (upd (upd (upd (upd (fun _ => 0) 0 (-1)) 1 (-1)) 2 (-1)) 3 (-1)) 4 (-1))))] ++ [(q2, .inl (ng_I n, 8, .inl (fun _ => 0)))] ++ [(q3, .inl (ng_I n, 320, .inl (fun _ => 0)))]) (q := 44) dX6_init_43 rfl rfl (by unfold vp_in; decide) rfl ?_
  refine vn_iinc (q := 47) (j := 0) (v := 5) (lv2 := [(1, .int 5), (0, .ref a)]) dX6_init_44 rfl rfl rfl (Nat.le_of_ble_eq_true rfl) rfl ?_
  refine vn_goto (t := 31) dX6_init_47 (by decide) ?_
  refine vn_iload (q := 32) (j := 0) dX6_init_31 rfl rfl rfl ?_
  refine vn_bipush (q := 34) (v := 8) dX6_init_32 rfl rfl ?_
  refine vn_geF (t := 50) (q := 37) dX6_init_34 (by decide) rfl (by decide) ?_
  refine vn_aload (q := 38) (j := 1) dX6_init_37 rfl rfl rfl ?_
  refine vn_get (k := 0) (q0 := 0) (q := 41) dX6_init_38 rfl in_X6 rfl rfl (by decide) (lw_gm 89 (by decide +kernel) rfl) rfl ?_
  refine vn_iload (q := 42) (j := 0) dX6_init_41 rfl rfl rfl ?_
  refine vn_iconst (q := 43) (v := (-1)) dX6_init_42 rfl rfl ?_
  refine vn_iast (q0 := 1) (ws2 := [(a, .inr (5, [.ref q1, .ref q2, .ref q3]))] ++ [(q1, .inl (ng_I n, 8, .inl (upd (upd (upd (upd (upd (upd (fun _ => 0) 0 (-1)) 1 (-1)) 2 (-1)) 3 (-1)) 4 (-1)) 5 (-1))))] ++ [(q2, .inl (ng_I n, 8, .inl (fun _ => 0)))] ++ [(q3, .inl (ng_I n, 320, .inl (fun _ => 0)))]) (q := 44) dX6_init_43 rfl rfl (by unfold vp_in; decide) rfl ?_
  refine vn_iinc (q := 47) (j := 0) (v := 6) (lv2 := [(1, .int 6), (0, .ref a)]) dX6_init_44 rfl rfl rfl (Nat.le_of_ble_eq_true rfl) rfl ?_
  refine vn_goto (t := 31) dX6_init_47 (by decide) ?_
  refine vn_iload (q := 32) (j := 0) dX6_init_31 rfl rfl rfl ?_
  refine vn_bipush (q := 34) (v := 8) dX6_init_32 rfl rfl ?_
  refine vn_geF (t := 50) (q := 37) dX6_init_34 (by decide) rfl (by decide) ?_
  refine vn_aload (q := 38) (j := 1) dX6_init_37 rfl rfl rfl ?_
  refine vn_get (k := 0) (q0 := 0) (q := 41) dX6_init_38 rfl in_X6 rfl rfl (by decide) (lw_gm 89 (by decide +kernel) rfl) rfl ?_
  refine vn_iload (q := 42) (j := 0) dX6_init_41 rfl rfl rfl ?_
  refine vn_iconst (q := 43) (v := (-1)) dX6_init_42 rfl rfl ?_
  refine vn_iast (q0 := 1) (ws2 := [(a, .inr (5, [.ref q1, .ref q2, .ref q3]))] ++ [(q1, .inl (ng_I n, 8, .inl (upd (upd (upd (upd (upd (upd (upd (fun _ => 0) 0 (-1)) 1 (-1)) 2 (-1)) 3 (-1)) 4 (-1)) 5 (-1)) 6 (-1))))] ++ [(q2, .inl (ng_I n, 8, .inl (fun _ => 0)))] ++ [(q3, .inl (ng_I n, 320, .inl (fun _ => 0)))]) (q := 44) dX6_init_43 rfl rfl (by unfold vp_in; decide) rfl ?_
  refine vn_iinc (q := 47) (j := 0) (v := 7) (lv2 := [(1, .int 7), (0, .ref a)]) dX6_init_44 rfl rfl rfl (Nat.le_of_ble_eq_true rfl) rfl ?_
  refine vn_goto (t := 31) dX6_init_47 (by decide) ?_
  refine vn_iload (q := 32) (j := 0) dX6_init_31 rfl rfl rfl ?_
  refine vn_bipush (q := 34) (v := 8) dX6_init_32 rfl rfl ?_
  refine vn_geF (t := 50) (q := 37) dX6_init_34 (by decide) rfl (by decide) ?_
  refine vn_aload (q := 38) (j := 1) dX6_init_37 rfl rfl rfl ?_
  refine vn_get (k := 0) (q0 := 0) (q := 41) dX6_init_38 rfl in_X6 rfl rfl (by decide) (lw_gm 89 (by decide +kernel) rfl) rfl ?_
  refine vn_iload (q := 42) (j := 0) dX6_init_41 rfl rfl rfl ?_
  refine vn_iconst (q := 43) (v := (-1)) dX6_init_42 rfl rfl ?_
  refine vn_iast (q0 := 1) (ws2 := [(a, .inr (5, [.ref q1, .ref q2, .ref q3]))] ++ [(q1, .inl (ng_I n, 8, .inl (upd (upd (upd (upd (upd (upd (upd (upd (fun _ => 0) 0 (-1)) 1 (-1)) 2 (-1)) 3 (-1)) 4 (-1)) 5 (-1)) 6 (-1)) 7 (-1))))] ++ [(q2, .inl (ng_I n, 8, .inl (fun _ => 0)))] ++ [(q3, .inl (ng_I n, 320, .inl (fun _ => 0)))]) (q := 44) dX6_init_43 rfl rfl (by unfold vp_in; decide) rfl ?_
  refine vn_iinc (q := 47) (j := 0) (v := 8) (lv2 := [(1, .int 8), (0, .ref a)]) dX6_init_44 rfl rfl rfl (Nat.le_of_ble_eq_true rfl) rfl ?_
  refine vn_goto (t := 31) dX6_init_47 (by decide) ?_
  refine vn_iload (q := 32) (j := 0) dX6_init_31 rfl rfl rfl ?_
  refine vn_bipush (q := 34) (v := 8) dX6_init_32 rfl rfl ?_
  refine vn_geT (t := 50) dX6_init_34 (by decide) (by decide) ?_
  refine vn_end ⟨dX6_init_50, rfl, Nat.le_of_ble_eq_true rfl, Nat.le_of_ble_eq_true rfl, fun i => ([a, q1, q2, q3] : List Nat).getD i 0, rfl⟩
abbrev iX7 : MD_ := (yX7_init, cX7_init, 1, none, 0)
def rX7 : Room := { frames := 1, cells := 7, slots := 34, locals := 12 }
def wX7 (n : NG_) (a : Nat) (u : Nat → Nat) : va_W := [(a, .inr (6, [.int 0, .int 0, .int 0, .int 0, .ref (u 1), .ref (u 2), .ref (u 3), .ref (u 4), .ref (u 5), .ref (u 6), .ref (u 7)])), ((u 1), .inl (ng_I n, 6, .inl (fun _ => 0))), ((u 2), .inl (ng_I n, 6, .inl (fun _ => 0))), ((u 3), .inl (ng_I n, 6, .inl (fun _ => 0))), ((u 4), .inl (ng_I n, 4, .inl (fun _ => 0))), ((u 5), .inl (ng_I n, 4, .inl (fun _ => 0))), ((u 6), .inl (ng_I n, 4, .inl (fun _ => 0))), ((u 7), .inl (ng_I n, 4, .inl (fun _ => 0)))]
set_option maxHeartbeats 20000000 in
theorem n_X7 (n : NG_) : NC_ n iX7 rX7 (.inr (6, [.int 0, .int 0, .int 0, .int 0, .null, .null, .null, .null, .null, .null, .null])) [] (wX7 n) := by
  refine nc_mk (by decide) rfl rfl (Nat.le_of_ble_eq_true rfl) (fun _ => rfl) (fun a => ?_)
  show VN_ n iX7 rX7 0 0 0 [(0, .ref a)] [] [(a, .inr (6, [.int 0, .int 0, .int 0, .int 0, .null, .null, .null, .null, .null, .null, .null]))] _
  refine vn_aload (q := 1) (j := 0) dX7_init_0 rfl rfl rfl ?_
  refine vn_obj (q := 4) dX7_init_1 rfl (lw_gm 124 (by decide +kernel) rfl) (lw_gm 81 (by decide +kernel) rfl) (lw_gm 82 rfl rfl) (Nat.le_of_ble_eq_true rfl) (Nat.le_of_ble_eq_true rfl) ?_
  refine vn_aload (q := 5) (j := 0) dX7_init_4 rfl rfl rfl ?_
  refine vn_iconst (q := 6) (v := 0) dX7_init_5 rfl rfl ?_
  refine vn_put (k := 0) (q0 := 0) (ty := tyX7 0) (ws2 := [(a, .inr (6, [.int 0, .int 0, .int 0, .int 0, .null, .null, .null, .null, .null, .null, .null]))]) (q := 9) dX7_init_6 rfl in_X7 tyX7_ok nmX7 rfl rfl (by decide) (lw_gm 125 (by decide +kernel) rfl) rfl (tyX7_ok 0 (by decide)) rfl rfl (Nat.le_of_ble_eq_true rfl) rfl ?_
  refine vn_aload (q := 10) (j := 0) dX7_init_9 rfl rfl rfl ?_
  refine vn_iconst (q := 11) (v := 0) dX7_init_10 rfl rfl ?_
  refine vn_put (k := 1) (q0 := 0) (ty := tyX7 1) (ws2 := [(a, .inr (6, [.int 0, .int 0, .int 0, .int 0, .null, .null, .null, .null, .null, .null, .null]))]) (q := 14) dX7_init_11 rfl in_X7 tyX7_ok nmX7 rfl rfl (by decide) (lw_gm 127 (by decide +kernel) rfl) rfl (tyX7_ok 1 (by decide)) rfl rfl (Nat.le_of_ble_eq_true rfl) rfl ?_
  refine vn_aload (q := 15) (j := 0) dX7_init_14 rfl rfl rfl ?_
  refine vn_iconst (q := 16) (v := 0) dX7_init_15 rfl rfl ?_
  refine vn_put (k := 2) (q0 := 0) (ty := tyX7 2) (ws2 := [(a, .inr (6, [.int 0, .int 0, .int 0, .int 0, .null, .null, .null, .null, .null, .null, .null]))]) (q := 19) dX7_init_16 rfl in_X7 tyX7_ok nmX7 rfl rfl (by decide) (lw_gm 130 (by decide +kernel) rfl) rfl (tyX7_ok 2 (by decide)) rfl rfl (Nat.le_of_ble_eq_true rfl) rfl ?_
  refine vn_aload (q := 20) (j := 0) dX7_init_19 rfl rfl rfl ?_
  refine vn_iconst (q := 21) (v := 0) dX7_init_20 rfl rfl ?_
  refine vn_put (k := 3) (q0 := 0) (ty := tyX7 3) (ws2 := [(a, .inr (6, [.int 0, .int 0, .int 0, .int 0, .null, .null, .null, .null, .null, .null, .null]))]) (q := 24) dX7_init_21 rfl in_X7 tyX7_ok nmX7 rfl rfl (by decide) (lw_gm 134 (by decide +kernel) rfl) rfl (tyX7_ok 3 (by decide)) rfl rfl (Nat.le_of_ble_eq_true rfl) rfl ?_
  refine vn_aload (q := 25) (j := 0) dX7_init_24 rfl rfl rfl ?_
  refine vn_bipush (q := 27) (v := 6) dX7_init_25 rfl rfl ?_
  refine vn_newI (q := 29) (N := 6) dX7_init_27 rfl (by decide) rfl (by decide) (Nat.le_of_ble_eq_true rfl) (Nat.le_of_ble_eq_true rfl) (lw_gm 99 (by decide +kernel) rfl) (fun q1 => ?_)
  refine vn_putF (k := 4) (q0 := 0) (ty := tyX7 4) (ws2 := [(a, .inr (6, [.int 0, .int 0, .int 0, .int 0, .ref q1, .null, .null, .null, .null, .null, .null]))] ++ [(q1, .inl (ng_I n, 6, .inl (fun _ => 0)))]) (q := 32) dX7_init_29 rfl in_X7 tyX7_ok nmX7 rfl rfl (by decide) (lw_gm 136 (by decide +kernel) rfl) rfl rfl rfl (tyX7_ok 4 (by decide)) rfl rfl (Nat.le_of_ble_eq_true rfl) rfl ?_
  refine vn_aload (q := 33) (j := 0) dX7_init_32 rfl rfl rfl ?_
  refine vn_bipush (q := 35) (v := 6) dX7_init_33 rfl rfl ?_
  refine vn_newI (q := 37) (N := 6) dX7_init_35 rfl (by decide) rfl (by decide) (Nat.le_of_ble_eq_true rfl) (Nat.le_of_ble_eq_true rfl) (lw_gm 99 (by decide +kernel) rfl) (fun q2 => ?_)
  refine vn_putF (k := 5) (q0 := 0) (ty := tyX7 5) (ws2 := [(a, .inr (6, [.int 0, .int 0, .int 0, .int 0, .ref q1, .ref q2, .null, .null, .null, .null, .null]))] ++ [(q1, .inl (ng_I n, 6, .inl (fun _ => 0)))] ++ [(q2, .inl (ng_I n, 6, .inl (fun _ => 0)))]) (q := 40) dX7_init_37 rfl in_X7 tyX7_ok nmX7 rfl rfl (by decide) (lw_gm 140 (by decide +kernel) rfl) rfl rfl rfl (tyX7_ok 5 (by decide)) rfl rfl (Nat.le_of_ble_eq_true rfl) rfl ?_
  refine vn_aload (q := 41) (j := 0) dX7_init_40 rfl rfl rfl ?_
  refine vn_bipush (q := 43) (v := 6) dX7_init_41 rfl rfl ?_
  refine vn_newI (q := 45) (N := 6) dX7_init_43 rfl (by decide) rfl (by decide) (Nat.le_of_ble_eq_true rfl) (Nat.le_of_ble_eq_true rfl) (lw_gm 99 (by decide +kernel) rfl) (fun q3 => ?_)
  refine vn_putF (k := 6) (q0 := 0) (ty := tyX7 6) (ws2 := [(a, .inr (6, [.int 0, .int 0, .int 0, .int 0, .ref q1, .ref q2, .ref q3, .null, .null, .null, .null]))] ++ [(q1, .inl (ng_I n, 6, .inl (fun _ => 0)))] ++ [(q2, .inl (ng_I n, 6, .inl (fun _ => 0)))] ++ [(q3, .inl (ng_I n, 6, .inl (fun _ => 0)))]) (q := 48) dX7_init_45 rfl in_X7 tyX7_ok nmX7 rfl rfl (by decide) (lw_gm 144 (by decide +kernel) rfl) rfl rfl rfl (tyX7_ok 6 (by decide)) rfl rfl (Nat.le_of_ble_eq_true rfl) rfl ?_
  refine vn_aload (q := 49) (j := 0) dX7_init_48 rfl rfl rfl ?_
  refine vn_iconst (q := 50) (v := 4) dX7_init_49 rfl rfl ?_
  refine vn_newI (q := 52) (N := 4) dX7_init_50 rfl (by decide) rfl (by decide) (Nat.le_of_ble_eq_true rfl) (Nat.le_of_ble_eq_true rfl) (lw_gm 99 (by decide +kernel) rfl) (fun q4 => ?_)
  refine vn_putF (k := 7) (q0 := 0) (ty := tyX7 7) (ws2 := [(a, .inr (6, [.int 0, .int 0, .int 0, .int 0, .ref q1, .ref q2, .ref q3, .ref q4, .null, .null, .null]))] ++ [(q1, .inl (ng_I n, 6, .inl (fun _ => 0)))] ++ [(q2, .inl (ng_I n, 6, .inl (fun _ => 0)))] ++ [(q3, .inl (ng_I n, 6, .inl (fun _ => 0)))] ++ [(q4, .inl (ng_I n, 4, .inl (fun _ => 0)))]) (q := 55) dX7_init_52 rfl in_X7 tyX7_ok nmX7 rfl rfl (by decide) (lw_gm 147 (by decide +kernel) rfl) rfl rfl rfl (tyX7_ok 7 (by decide)) rfl rfl (Nat.le_of_ble_eq_true rfl) rfl ?_
  refine vn_aload (q := 56) (j := 0) dX7_init_55 rfl rfl rfl ?_
  refine vn_iconst (q := 57) (v := 4) dX7_init_56 rfl rfl ?_
  refine vn_newI (q := 59) (N := 4) dX7_init_57 rfl (by decide) rfl (by decide) (Nat.le_of_ble_eq_true rfl) (Nat.le_of_ble_eq_true rfl) (lw_gm 99 (by decide +kernel) rfl) (fun q5 => ?_)
  refine vn_putF (k := 8) (q0 := 0) (ty := tyX7 8) (ws2 := [(a, .inr (6, [.int 0, .int 0, .int 0, .int 0, .ref q1, .ref q2, .ref q3, .ref q4, .ref q5, .null, .null]))] ++ [(q1, .inl (ng_I n, 6, .inl (fun _ => 0)))] ++ [(q2, .inl (ng_I n, 6, .inl (fun _ => 0)))] ++ [(q3, .inl (ng_I n, 6, .inl (fun _ => 0)))] ++ [(q4, .inl (ng_I n, 4, .inl (fun _ => 0)))] ++ [(q5, .inl (ng_I n, 4, .inl (fun _ => 0)))]) (q := 62) dX7_init_59 rfl in_X7 tyX7_ok nmX7 rfl rfl (by decide) (lw_gm 151 (by decide +kernel) rfl) rfl rfl rfl (tyX7_ok 8 (by decide)) rfl rfl (Nat.le_of_ble_eq_true rfl) rfl ?_
  refine vn_aload (q := 63) (j := 0) dX7_init_62 rfl rfl rfl ?_
  refine vn_iconst (q := 64) (v := 4) dX7_init_63 rfl rfl ?_
  refine vn_newI (q := 66) (N := 4) dX7_init_64 rfl (by decide) rfl (by decide) (Nat.le_of_ble_eq_true rfl) (Nat.le_of_ble_eq_true rfl) (lw_gm 99 (by decide +kernel) rfl) (fun q6 => ?_)
  refine vn_putF (k := 9) (q0 := 0) (ty := tyX7 9) (ws2 := [(a, .inr (6, [.int 0, .int 0, .int 0, .int 0, .ref q1, .ref q2, .ref q3, .ref q4, .ref q5, .ref q6, .null]))] ++ [(q1, .inl (ng_I n, 6, .inl (fun _ => 0)))] ++ [(q2, .inl (ng_I n, 6, .inl (fun _ => 0)))] ++ [(q3, .inl (ng_I n, 6, .inl (fun _ => 0)))] ++ [(q4, .inl (ng_I n, 4, .inl (fun _ => 0)))] ++ [(q5, .inl (ng_I n, 4, .inl (fun _ => 0)))] ++ [(q6, .inl (ng_I n, 4, .inl (fun _ => 0)))]) (q := 69) dX7_init_66 rfl in_X7 tyX7_ok nmX7 rfl rfl (by decide) (lw_gm 154 (by decide +kernel) rfl) rfl rfl rfl (tyX7_ok 9 (by decide)) rfl rfl (Nat.le_of_ble_eq_true rfl) rfl ?_
  refine vn_aload (q := 70) (j := 0) dX7_init_69 rfl rfl rfl ?_
  refine vn_iconst (q := 71) (v := 4) dX7_init_70 rfl rfl ?_
  refine vn_newI (q := 73) (N := 4) dX7_init_71 rfl (by decide) rfl (by decide) (Nat.le_of_ble_eq_true rfl) (Nat.le_of_ble_eq_true rfl) (lw_gm 99 (by decide +kernel) rfl) (fun q7 => ?_)
  refine vn_putF (k := 10) (q0 := 0) (ty := tyX7 10) (ws2 := [(a, .inr (6, [.int 0, .int 0, .int 0, .int 0, .ref q1, .ref q2, .ref q3, .ref q4, .ref q5, .ref q6, .ref q7]))] ++ [(q1, .inl (ng_I n, 6, .inl (fun _ => 0)))] ++ [(q2, .inl (ng_I n, 6, .inl (fun _ => 0)))] ++ [(q3, .inl (ng_I n, 6, .inl (fun _ => 0)))] ++ [(q4, .inl (ng_I n, 4, .inl (fun _ => 0)))] ++ [(q5, .inl (ng_I n, 4, .inl (fun _ => 0)))] ++ [(q6, .inl (ng_I n, 4, .inl (fun _ => 0)))] ++ [(q7, .inl (ng_I n, 4, .inl (fun _ => 0)))]) (q := 76) dX7_init_73 rfl in_X7 tyX7_ok nmX7 rfl rfl (by decide) (lw_gm 158 (by decide +kernel) rfl) rfl rfl rfl (tyX7_ok 10 (by decide)) rfl rfl (Nat.le_of_ble_eq_true rfl) rfl ?_
  refine vn_end ⟨dX7_init_76, rfl, Nat.le_of_ble_eq_true rfl, Nat.le_of_ble_eq_true rfl, fun i => ([a, q1, q2, q3, q4, q5, q6, q7] : List Nat).getD i 0, rfl⟩
abbrev iX0 : MD_ := (yX0_init, cX0_init, 1, none, 0)
def rX0 : Room := { frames := 1, cells := 5, slots := 120, locals := 12 }
def wX0 (n : NG_) (a : Nat) (u : Nat → Nat) : va_W := [(a, .inr (0, [.ref (u 1), .ref (u 2), .ref (u 3), .ref (u 4), .ref (u 5), .int 0, .int 0])), ((u 1), .inl (ng_I n, 24, .inl (fun _ => 0))), ((u 2), .inl (ng_I n, 24, .inl (fun _ => 0))), ((u 3), .inl (ng_I n, 24, .inl (fun _ => 0))), ((u 4), .inl (ng_I n, 24, .inl (fun _ => 0))), ((u 5), .inl (ng_I n, 24, .inl (fun _ => 0)))]
set_option maxHeartbeats 20000000 in
theorem n_X0 (n : NG_) : NC_ n iX0 rX0 (.inr (0, [.null, .null, .null, .null, .null, .int 0, .int 0])) [] (wX0 n) := by
  refine nc_mk (by decide) rfl rfl (Nat.le_of_ble_eq_true rfl) (fun _ => rfl) (fun a => ?_)
  show VN_ n iX0 rX0 0 0 0 [(0, .ref a)] [] [(a, .inr (0, [.null, .null, .null, .null, .null, .int 0, .int 0]))] _
  refine vn_aload (q := 1) (j := 0) dX0_init_0 rfl rfl rfl ?_
  refine vn_obj (q := 4) dX0_init_1 rfl (lw_gm 192 (by decide +kernel) rfl) (lw_gm 81 (by decide +kernel) rfl) (lw_gm 82 rfl rfl) (Nat.le_of_ble_eq_true rfl) (Nat.le_of_ble_eq_true rfl) ?_
  refine vn_aload (q := 5) (j := 0) dX0_init_4 rfl rfl rfl ?_
  refine vn_bipush (q := 7) (v := 24) dX0_init_5 rfl rfl ?_
  refine vn_newI (q := 9) (N := 24) dX0_init_7 rfl (by decide) rfl (by decide) (Nat.le_of_ble_eq_true rfl) (Nat.le_of_ble_eq_true rfl) (lw_gm 99 (by decide +kernel) rfl) (fun q1 => ?_)
  refine vn_putF (k := 0) (q0 := 0) (ty := tyX0 0) (ws2 := [(a, .inr (0, [.ref q1, .null, .null, .null, .null, .int 0, .int 0]))] ++ [(q1, .inl (ng_I n, 24, .inl (fun _ => 0)))]) (q := 12) dX0_init_9 rfl in_X0 tyX0_ok nmX0 rfl rfl (by decide) (lw_gm 193 (by decide +kernel) rfl) rfl rfl rfl (tyX0_ok 0 (by decide)) rfl rfl (Nat.le_of_ble_eq_true rfl) rfl ?_
  refine vn_aload (q := 13) (j := 0) dX0_init_12 rfl rfl rfl ?_
  refine vn_bipush (q := 15) (v := 24) dX0_init_13 rfl rfl ?_
  refine vn_newI (q := 17) (N := 24) dX0_init_15 rfl (by decide) rfl (by decide) (Nat.le_of_ble_eq_true rfl) (Nat.le_of_ble_eq_true rfl) (lw_gm 99 (by decide +kernel) rfl) (fun q2 => ?_)
  refine vn_putF (k := 1) (q0 := 0) (ty := tyX0 1) (ws2 := [(a, .inr (0, [.ref q1, .ref q2, .null, .null, .null, .int 0, .int 0]))] ++ [(q1, .inl (ng_I n, 24, .inl (fun _ => 0)))] ++ [(q2, .inl (ng_I n, 24, .inl (fun _ => 0)))]) (q := 20) dX0_init_17 rfl in_X0 tyX0_ok nmX0 rfl rfl (by decide) (lw_gm 194 (by decide +kernel) rfl) rfl rfl rfl (tyX0_ok 1 (by decide)) rfl rfl (Nat.le_of_ble_eq_true rfl) rfl ?_
  refine vn_aload (q := 21) (j := 0) dX0_init_20 rfl rfl rfl ?_
  refine vn_bipush (q := 23) (v := 24) dX0_init_21 rfl rfl ?_
  refine vn_newI (q := 25) (N := 24) dX0_init_23 rfl (by decide) rfl (by decide) (Nat.le_of_ble_eq_true rfl) (Nat.le_of_ble_eq_true rfl) (lw_gm 99 (by decide +kernel) rfl) (fun q3 => ?_)
  refine vn_putF (k := 2) (q0 := 0) (ty := tyX0 2) (ws2 := [(a, .inr (0, [.ref q1, .ref q2, .ref q3, .null, .null, .int 0, .int 0]))] ++ [(q1, .inl (ng_I n, 24, .inl (fun _ => 0)))] ++ [(q2, .inl (ng_I n, 24, .inl (fun _ => 0)))] ++ [(q3, .inl (ng_I n, 24, .inl (fun _ => 0)))]) (q := 28) dX0_init_25 rfl in_X0 tyX0_ok nmX0 rfl rfl (by decide) (lw_gm 195 (by decide +kernel) rfl) rfl rfl rfl (tyX0_ok 2 (by decide)) rfl rfl (Nat.le_of_ble_eq_true rfl) rfl ?_
  refine vn_aload (q := 29) (j := 0) dX0_init_28 rfl rfl rfl ?_
  refine vn_bipush (q := 31) (v := 24) dX0_init_29 rfl rfl ?_
  refine vn_newI (q := 33) (N := 24) dX0_init_31 rfl (by decide) rfl (by decide) (Nat.le_of_ble_eq_true rfl) (Nat.le_of_ble_eq_true rfl) (lw_gm 99 (by decide +kernel) rfl) (fun q4 => ?_)
  refine vn_putF (k := 3) (q0 := 0) (ty := tyX0 3) (ws2 := [(a, .inr (0, [.ref q1, .ref q2, .ref q3, .ref q4, .null, .int 0, .int 0]))] ++ [(q1, .inl (ng_I n, 24, .inl (fun _ => 0)))] ++ [(q2, .inl (ng_I n, 24, .inl (fun _ => 0)))] ++ [(q3, .inl (ng_I n, 24, .inl (fun _ => 0)))] ++ [(q4, .inl (ng_I n, 24, .inl (fun _ => 0)))]) (q := 36) dX0_init_33 rfl in_X0 tyX0_ok nmX0 rfl rfl (by decide) (lw_gm 196 (by decide +kernel) rfl) rfl rfl rfl (tyX0_ok 3 (by decide)) rfl rfl (Nat.le_of_ble_eq_true rfl) rfl ?_
  refine vn_aload (q := 37) (j := 0) dX0_init_36 rfl rfl rfl ?_
  refine vn_bipush (q := 39) (v := 24) dX0_init_37 rfl rfl ?_
  refine vn_newI (q := 41) (N := 24) dX0_init_39 rfl (by decide) rfl (by decide) (Nat.le_of_ble_eq_true rfl) (Nat.le_of_ble_eq_true rfl) (lw_gm 99 (by decide +kernel) rfl) (fun q5 => ?_)
  refine vn_putF (k := 4) (q0 := 0) (ty := tyX0 4) (ws2 := [(a, .inr (0, [.ref q1, .ref q2, .ref q3, .ref q4, .ref q5, .int 0, .int 0]))] ++ [(q1, .inl (ng_I n, 24, .inl (fun _ => 0)))] ++ [(q2, .inl (ng_I n, 24, .inl (fun _ => 0)))] ++ [(q3, .inl (ng_I n, 24, .inl (fun _ => 0)))] ++ [(q4, .inl (ng_I n, 24, .inl (fun _ => 0)))] ++ [(q5, .inl (ng_I n, 24, .inl (fun _ => 0)))]) (q := 44) dX0_init_41 rfl in_X0 tyX0_ok nmX0 rfl rfl (by decide) (lw_gm 197 (by decide +kernel) rfl) rfl rfl rfl (tyX0_ok 4 (by decide)) rfl rfl (Nat.le_of_ble_eq_true rfl) rfl ?_
  refine vn_aload (q := 45) (j := 0) dX0_init_44 rfl rfl rfl ?_
  refine vn_iconst (q := 46) (v := 0) dX0_init_45 rfl rfl ?_
  refine vn_put (k := 5) (q0 := 0) (ty := tyX0 5) (ws2 := [(a, .inr (0, [.ref q1, .ref q2, .ref q3, .ref q4, .ref q5, .int 0, .int 0]))] ++ [(q1, .inl (ng_I n, 24, .inl (fun _ => 0)))] ++ [(q2, .inl (ng_I n, 24, .inl (fun _ => 0)))] ++ [(q3, .inl (ng_I n, 24, .inl (fun _ => 0)))] ++ [(q4, .inl (ng_I n, 24, .inl (fun _ => 0)))] ++ [(q5, .inl (ng_I n, 24, .inl (fun _ => 0)))]) (q := 49) dX0_init_46 rfl in_X0 tyX0_ok nmX0 rfl rfl (by decide) (lw_gm 198 (by decide +kernel) rfl) rfl (tyX0_ok 5 (by decide)) rfl rfl (Nat.le_of_ble_eq_true rfl) rfl ?_
  refine vn_aload (q := 50) (j := 0) dX0_init_49 rfl rfl rfl ?_
  refine vn_iconst (q := 51) (v := 0) dX0_init_50 rfl rfl ?_
  refine vn_put (k := 6) (q0 := 0) (ty := tyX0 6) (ws2 := [(a, .inr (0, [.ref q1, .ref q2, .ref q3, .ref q4, .ref q5, .int 0, .int 0]))] ++ [(q1, .inl (ng_I n, 24, .inl (fun _ => 0)))] ++ [(q2, .inl (ng_I n, 24, .inl (fun _ => 0)))] ++ [(q3, .inl (ng_I n, 24, .inl (fun _ => 0)))] ++ [(q4, .inl (ng_I n, 24, .inl (fun _ => 0)))] ++ [(q5, .inl (ng_I n, 24, .inl (fun _ => 0)))]) (q := 54) dX0_init_51 rfl in_X0 tyX0_ok nmX0 rfl rfl (by decide) (lw_gm 199 (by decide +kernel) rfl) rfl (tyX0_ok 6 (by decide)) rfl rfl (Nat.le_of_ble_eq_true rfl) rfl ?_
  refine vn_end ⟨dX0_init_54, rfl, Nat.le_of_ble_eq_true rfl, Nat.le_of_ble_eq_true rfl, fun i => ([a, q1, q2, q3, q4, q5] : List Nat).getD i 0, rfl⟩
abbrev iX1 : MD_ := (yX1_init, cX1_init, 1, none, 0)
def rX1 : Room := { frames := 1, cells := 1, slots := 16, locals := 12 }
def wX1 (n : NG_) (a : Nat) (u : Nat → Nat) : va_W := [(a, .inr (1, [.ref (u 1), .int 0])), ((u 1), .inl (ng_I n, 16, .inl (fun _ => 0)))]
set_option maxHeartbeats 20000000 in
theorem n_X1 (n : NG_) : NC_ n iX1 rX1 (.inr (1, [.null, .int 0])) [] (wX1 n) := by
  refine nc_mk (by decide) rfl rfl (Nat.le_of_ble_eq_true rfl) (fun _ => rfl) (fun a => ?_)
  show VN_ n iX1 rX1 0 0 0 [(0, .ref a)] [] [(a, .inr (1, [.null, .int 0]))] _
  refine vn_aload (q := 1) (j := 0) dX1_init_0 rfl rfl rfl ?_
  refine vn_obj (q := 4) dX1_init_1 rfl (lw_gm 274 (by decide +kernel) rfl) (lw_gm 81 (by decide +kernel) rfl) (lw_gm 82 rfl rfl) (Nat.le_of_ble_eq_true rfl) (Nat.le_of_ble_eq_true rfl) ?_
  refine vn_aload (q := 5) (j := 0) dX1_init_4 rfl rfl rfl ?_
  refine vn_bipush (q := 7) (v := 16) dX1_init_5 rfl rfl ?_
  refine vn_newI (q := 9) (N := 16) dX1_init_7 rfl (by decide) rfl (by decide) (Nat.le_of_ble_eq_true rfl) (Nat.le_of_ble_eq_true rfl) (lw_gm 99 (by decide +kernel) rfl) (fun q1 => ?_)
  refine vn_putF (k := 0) (q0 := 0) (ty := tyX1 0) (ws2 := [(a, .inr (1, [.ref q1, .int 0]))] ++ [(q1, .inl (ng_I n, 16, .inl (fun _ => 0)))]) (q := 12) dX1_init_9 rfl in_X1 tyX1_ok nmX1 rfl rfl (by decide) (lw_gm 275 (by decide +kernel) rfl) rfl rfl rfl (tyX1_ok 0 (by decide)) rfl rfl (Nat.le_of_ble_eq_true rfl) rfl ?_
  refine vn_aload (q := 13) (j := 0) dX1_init_12 rfl rfl rfl ?_
  refine vn_iconst (q := 14) (v := 0) dX1_init_13 rfl rfl ?_
  refine vn_put (k := 1) (q0 := 0) (ty := tyX1 1) (ws2 := [(a, .inr (1, [.ref q1, .int 0]))] ++ [(q1, .inl (ng_I n, 16, .inl (fun _ => 0)))]) (q := 17) dX1_init_14 rfl in_X1 tyX1_ok nmX1 rfl rfl (by decide) (lw_gm 276 (by decide +kernel) rfl) rfl (tyX1_ok 1 (by decide)) rfl rfl (Nat.le_of_ble_eq_true rfl) rfl ?_
  refine vn_end ⟨dX1_init_17, rfl, Nat.le_of_ble_eq_true rfl, Nat.le_of_ble_eq_true rfl, fun i => ([a, q1] : List Nat).getD i 0, rfl⟩
abbrev iX2 : MD_ := (yX2_init, cX2_init, 2, none, 0)
def rX2 : Room := { frames := 2, cells := 19, slots := 87, locals := 32 }
def wX2 (n : NG_) (a : Nat) (u : Nat → Nat) : va_W := [(a, .inr (2, [.ref (u 1), .ref (u 2), .ref (u 3), .int 0, .int 0, .ref (u 4), .ref (u 5), .int 0])), ((u 1), .inl (ng_M n, 7, .inr (.inr (.inr (.inr (va_up (va_up (va_up (va_up (va_up (va_up (va_up (fun _ => none) 0 (some (u 6))) 1 (some (u 8))) 2 (some (u 10))) 3 (some (u 12))) 4 (some (u 14))) 5 (some (u 16))) 6 (some (u 18)))))))), ((u 2), .inl (ng_I n, 6, .inl (fun _ => 0))), ((u 3), .inl (ng_I n, 6, .inl (fun _ => 0))), ((u 4), .inl (ng_I n, 6, .inl (fun _ => 0))), ((u 5), .inl (ng_I n, 6, .inl (fun _ => 0))), ((u 6), .inr (3, [.int 0, .int 0, .int 0, .ref (u 7)])), ((u 7), .inl (ng_I n, 4, .inl (fun _ => 0))), ((u 8), .inr (3, [.int 0, .int 0, .int 0, .ref (u 9)])), ((u 9), .inl (ng_I n, 4, .inl (fun _ => 0))), ((u 10), .inr (3, [.int 0, .int 0, .int 0, .ref (u 11)])), ((u 11), .inl (ng_I n, 4, .inl (fun _ => 0))), ((u 12), .inr (3, [.int 0, .int 0, .int 0, .ref (u 13)])), ((u 13), .inl (ng_I n, 4, .inl (fun _ => 0))), ((u 14), .inr (3, [.int 0, .int 0, .int 0, .ref (u 15)])), ((u 15), .inl (ng_I n, 4, .inl (fun _ => 0))), ((u 16), .inr (3, [.int 0, .int 0, .int 0, .ref (u 17)])), ((u 17), .inl (ng_I n, 4, .inl (fun _ => 0))), ((u 18), .inr (3, [.int 0, .int 0, .int 0, .ref (u 19)])), ((u 19), .inl (ng_I n, 4, .inl (fun _ => 0)))]
set_option maxHeartbeats 20000000 in
theorem n_X2 (n : NG_) : NC_ n iX2 rX2 (.inr (2, [.null, .null, .null, .int 0, .int 0, .null, .null, .int 0])) [] (wX2 n) := by
  refine nc_mk (by decide) rfl rfl (Nat.le_of_ble_eq_true rfl) (fun _ => rfl) (fun a => ?_)
  show VN_ n iX2 rX2 0 0 0 [(0, .ref a)] [] [(a, .inr (2, [.null, .null, .null, .int 0, .int 0, .null, .null, .int 0]))] _
  refine vn_aload (q := 1) (j := 0) dX2_init_0 rfl rfl rfl ?_
  refine vn_obj (q := 4) dX2_init_1 rfl (lw_gm 220 (by decide +kernel) rfl) (lw_gm 81 (by decide +kernel) rfl) (lw_gm 82 rfl rfl) (Nat.le_of_ble_eq_true rfl) (Nat.le_of_ble_eq_true rfl) ?_
  refine vn_aload (q := 5) (j := 0) dX2_init_4 rfl rfl rfl ?_
  refine vn_bipush (q := 7) (v := 7) dX2_init_5 rfl rfl ?_
  refine vn_newM (q := 10) (N := 7) dX2_init_7 rfl (by decide) rfl (by decide) (Nat.le_of_ble_eq_true rfl) (Nat.le_of_ble_eq_true rfl) (lw_gm 221 (by decide +kernel) rfl) (fun q1 => ?_)
  refine vn_putF (k := 0) (q0 := 0) (ty := tyX2 0) (ws2 := [(a, .inr (2, [.ref q1, .null, .null, .int 0, .int 0, .null, .null, .int 0]))] ++ [(q1, .inl (ng_M n, 7, .inr (.inr (.inr (.inr (fun _ => none))))))]) (q := 13) dX2_init_10 rfl in_X2 tyX2_ok nmX2 rfl rfl (by decide) (lw_gm 244 (by decide +kernel) rfl) rfl rfl rfl (tyX2_ok 0 (by decide)) rfl rfl (Nat.le_of_ble_eq_true rfl) rfl ?_
  refine vn_aload (q := 14) (j := 0) dX2_init_13 rfl rfl rfl ?_
  refine vn_bipush (q := 16) (v := 6) dX2_init_14 rfl rfl ?_
  refine vn_newI (q := 18) (N := 6) dX2_init_16 rfl (by decide) rfl (by decide) (Nat.le_of_ble_eq_true rfl) (Nat.le_of_ble_eq_true rfl) (lw_gm 99 (by decide +kernel) rfl) (fun q2 => ?_)
  refine vn_putF (k := 1) (q0 := 0) (ty := tyX2 1) (ws2 := [(a, .inr (2, [.ref q1, .ref q2, .null, .int 0, .int 0, .null, .null, .int 0]))] ++ [(q1, .inl (ng_M n, 7, .inr (.inr (.inr (.inr (fun _ => none))))))] ++ [(q2, .inl (ng_I n, 6, .inl (fun _ => 0)))]) (q := 21) dX2_init_18 rfl in_X2 tyX2_ok nmX2 rfl rfl (by decide) (lw_gm 245 (by decide +kernel) rfl) rfl rfl rfl (tyX2_ok 1 (by decide)) rfl rfl (Nat.le_of_ble_eq_true rfl) rfl ?_
  refine vn_aload (q := 22) (j := 0) dX2_init_21 rfl rfl rfl ?_
  refine vn_bipush (q := 24) (v := 6) dX2_init_22 rfl rfl ?_
  refine vn_newI (q := 26) (N := 6) dX2_init_24 rfl (by decide) rfl (by decide) (Nat.le_of_ble_eq_true rfl) (Nat.le_of_ble_eq_true rfl) (lw_gm 99 (by decide +kernel) rfl) (fun q3 => ?_)
  refine vn_putF (k := 2) (q0 := 0) (ty := tyX2 2) (ws2 := [(a, .inr (2, [.ref q1, .ref q2, .ref q3, .int 0, .int 0, .null, .null, .int 0]))] ++ [(q1, .inl (ng_M n, 7, .inr (.inr (.inr (.inr (fun _ => none))))))] ++ [(q2, .inl (ng_I n, 6, .inl (fun _ => 0)))] ++ [(q3, .inl (ng_I n, 6, .inl (fun _ => 0)))]) (q := 29) dX2_init_26 rfl in_X2 tyX2_ok nmX2 rfl rfl (by decide) (lw_gm 246 (by decide +kernel) rfl) rfl rfl rfl (tyX2_ok 2 (by decide)) rfl rfl (Nat.le_of_ble_eq_true rfl) rfl ?_
  refine vn_aload (q := 30) (j := 0) dX2_init_29 rfl rfl rfl ?_
  refine vn_iconst (q := 31) (v := 0) dX2_init_30 rfl rfl ?_
  refine vn_put (k := 3) (q0 := 0) (ty := tyX2 3) (ws2 := [(a, .inr (2, [.ref q1, .ref q2, .ref q3, .int 0, .int 0, .null, .null, .int 0]))] ++ [(q1, .inl (ng_M n, 7, .inr (.inr (.inr (.inr (fun _ => none))))))] ++ [(q2, .inl (ng_I n, 6, .inl (fun _ => 0)))] ++ [(q3, .inl (ng_I n, 6, .inl (fun _ => 0)))]) (q := 34) dX2_init_31 rfl in_X2 tyX2_ok nmX2 rfl rfl (by decide) (lw_gm 247 (by decide +kernel) rfl) rfl (tyX2_ok 3 (by decide)) rfl rfl (Nat.le_of_ble_eq_true rfl) rfl ?_
  refine vn_aload (q := 35) (j := 0) dX2_init_34 rfl rfl rfl ?_
  refine vn_iconst (q := 36) (v := 0) dX2_init_35 rfl rfl ?_
  refine vn_put (k := 4) (q0 := 0) (ty := tyX2 4) (ws2 := [(a, .inr (2, [.ref q1, .ref q2, .ref q3, .int 0, .int 0, .null, .null, .int 0]))] ++ [(q1, .inl (ng_M n, 7, .inr (.inr (.inr (.inr (fun _ => none))))))] ++ [(q2, .inl (ng_I n, 6, .inl (fun _ => 0)))] ++ [(q3, .inl (ng_I n, 6, .inl (fun _ => 0)))]) (q := 39) dX2_init_36 rfl in_X2 tyX2_ok nmX2 rfl rfl (by decide) (lw_gm 248 (by decide +kernel) rfl) rfl (tyX2_ok 4 (by decide)) rfl rfl (Nat.le_of_ble_eq_true rfl) rfl ?_
  refine vn_aload (q := 40) (j := 0) dX2_init_39 rfl rfl rfl ?_
  refine vn_bipush (q := 42) (v := 6) dX2_init_40 rfl rfl ?_
  refine vn_newI (q := 44) (N := 6) dX2_init_42 rfl (by decide) rfl (by decide) (Nat.le_of_ble_eq_true rfl) (Nat.le_of_ble_eq_true rfl) (lw_gm 99 (by decide +kernel) rfl) (fun q4 => ?_)
  refine vn_putF (k := 5) (q0 := 0) (ty := tyX2 5) (ws2 := [(a, .inr (2, [.ref q1, .ref q2, .ref q3, .int 0, .int 0, .ref q4, .null, .int 0]))] ++ [(q1, .inl (ng_M n, 7, .inr (.inr (.inr (.inr (fun _ => none))))))] ++ [(q2, .inl (ng_I n, 6, .inl (fun _ => 0)))] ++ [(q3, .inl (ng_I n, 6, .inl (fun _ => 0)))] ++ [(q4, .inl (ng_I n, 6, .inl (fun _ => 0)))]) (q := 47) dX2_init_44 rfl in_X2 tyX2_ok nmX2 rfl rfl (by decide) (lw_gm 249 (by decide +kernel) rfl) rfl rfl rfl (tyX2_ok 5 (by decide)) rfl rfl (Nat.le_of_ble_eq_true rfl) rfl ?_
  refine vn_aload (q := 48) (j := 0) dX2_init_47 rfl rfl rfl ?_
  refine vn_bipush (q := 50) (v := 6) dX2_init_48 rfl rfl ?_
  refine vn_newI (q := 52) (N := 6) dX2_init_50 rfl (by decide) rfl (by decide) (Nat.le_of_ble_eq_true rfl) (Nat.le_of_ble_eq_true rfl) (lw_gm 99 (by decide +kernel) rfl) (fun q5 => ?_)
  refine vn_putF (k := 6) (q0 := 0) (ty := tyX2 6) (ws2 := [(a, .inr (2, [.ref q1, .ref q2, .ref q3, .int 0, .int 0, .ref q4, .ref q5, .int 0]))] ++ [(q1, .inl (ng_M n, 7, .inr (.inr (.inr (.inr (fun _ => none))))))] ++ [(q2, .inl (ng_I n, 6, .inl (fun _ => 0)))] ++ [(q3, .inl (ng_I n, 6, .inl (fun _ => 0)))] ++ [(q4, .inl (ng_I n, 6, .inl (fun _ => 0)))] ++ [(q5, .inl (ng_I n, 6, .inl (fun _ => 0)))]) (q := 55) dX2_init_52 rfl in_X2 tyX2_ok nmX2 rfl rfl (by decide) (lw_gm 250 (by decide +kernel) rfl) rfl rfl rfl (tyX2_ok 6 (by decide)) rfl rfl (Nat.le_of_ble_eq_true rfl) rfl ?_
  refine vn_aload (q := 56) (j := 0) dX2_init_55 rfl rfl rfl ?_
  refine vn_iconst (q := 57) (v := 0) dX2_init_56 rfl rfl ?_
  refine vn_put (k := 7) (q0 := 0) (ty := tyX2 7) (ws2 := [(a, .inr (2, [.ref q1, .ref q2, .ref q3, .int 0, .int 0, .ref q4, .ref q5, .int 0]))] ++ [(q1, .inl (ng_M n, 7, .inr (.inr (.inr (.inr (fun _ => none))))))] ++ [(q2, .inl (ng_I n, 6, .inl (fun _ => 0)))] ++ [(q3, .inl (ng_I n, 6, .inl (fun _ => 0)))] ++ [(q4, .inl (ng_I n, 6, .inl (fun _ => 0)))] ++ [(q5, .inl (ng_I n, 6, .inl (fun _ => 0)))]) (q := 60) dX2_init_57 rfl in_X2 tyX2_ok nmX2 rfl rfl (by decide) (lw_gm 251 (by decide +kernel) rfl) rfl (tyX2_ok 7 (by decide)) rfl rfl (Nat.le_of_ble_eq_true rfl) rfl ?_
  refine vn_iconst (q := 61) (v := 0) dX2_init_60 rfl rfl ?_
  refine vn_istore (q := 62) (lv2 := [(1, .int 0), (0, .ref a)]) dX2_init_61 rfl rfl (Nat.le_of_ble_eq_true rfl) rfl ?_
  refine vn_iload (q := 63) (j := 0) dX2_init_62 rfl rfl rfl ?_
  refine vn_bipush (q := 65) (v := 6) dX2_init_63 rfl rfl ?_
  refine vn_gtF (t := 87) (q := 68) dX2_init_65 (by decide) rfl (by decide) ?_
  refine vn_aload (q := 69) (j := 1) dX2_init_68 rfl rfl rfl ?_
  refine vn_get (k := 0) (q0 := 0) (q := 72) dX2_init_69 rfl in_X2 rfl rfl (by decide) (lw_gm 244 (by decide +kernel) rfl) rfl ?_
  refine vn_iload (q := 73) (j := 0) dX2_init_72 rfl rfl rfl ?_
  refine vn_new (ci := 3) (fs := [.int 0, .int 0, .int 0, .null]) tyX4 (q := 76) dX2_init_73 rfl in_X4 tyX4_ok (lw_gm 221 (by decide +kernel) rfl) (lw_gm 223 (by decide +kernel) rfl) (lw_gm 68 (by decide +kernel) rfl) rfl df_X4 (Nat.le_of_ble_eq_true rfl) (Nat.le_of_ble_eq_true rfl) (fun q6 => ?_)
  refine vn_dup (q := 77) dX2_init_76 rfl ?_
  refine vn_callN (as := []) (a := q6) (st := [.ref q6, .int 0, .ref q1]) (nn := 0) (q := 80) dX2_init_77 rfl (n_X4 n) (lw_gm 226 rfl rfl) rfl (lw_gm 68 (by decide +kernel) rfl) (fun s h => h.2.2.2.2.2.2.1) (lw_gm 225 (by decide +kernel) rfl) rfl ⟨by decide, by decide, by decide +kernel⟩ rfl ⟨Nat.le_of_ble_eq_true rfl, Nat.le_of_ble_eq_true rfl⟩ (Nat.le_of_ble_eq_true rfl) ⟨Nat.le_of_ble_eq_true rfl, Nat.le_of_ble_eq_true rfl⟩ (fun u7 => ?_)
  refine vn_aaM (q0 := 1) (qk := 6) (ws2 := [(a, .inr (2, [.ref q1, .ref q2, .ref q3, .int 0, .int 0, .ref q4, .ref q5, .int 0]))] ++ [(q1, .inl (ng_M n, 7, .inr (.inr (.inr (.inr (va_up (fun _ => none) 0 (some q6)))))))] ++ [(q2, .inl (ng_I n, 6, .inl (fun _ => 0)))] ++ [(q3, .inl (ng_I n, 6, .inl (fun _ => 0)))] ++ [(q4, .inl (ng_I n, 6, .inl (fun _ => 0)))] ++ [(q5, .inl (ng_I n, 6, .inl (fun _ => 0)))] ++ wX4 n q6 u7) (q := 81) dX2_init_80 rfl rfl rfl (by unfold vp_in; decide) rfl ?_
  refine vn_iinc (q := 84) (j := 0) (v := 1) (lv2 := [(1, .int 1), (0, .ref a)]) dX2_init_81 rfl rfl rfl (Nat.le_of_ble_eq_true rfl) rfl ?_
  refine vn_goto (t := 62) dX2_init_84 (by decide) ?_
  refine vn_iload (q := 63) (j := 0) dX2_init_62 rfl rfl rfl ?_
  refine vn_bipush (q := 65) (v := 6) dX2_init_63 rfl rfl ?_
  refine vn_gtF (t := 87) (q := 68) dX2_init_65 (by decide) rfl (by decide) ?_
  refine vn_aload (q := 69) (j := 1) dX2_init_68 rfl rfl rfl ?_
  refine vn_get (k := 0) (q0 := 0) (q := 72) dX2_init_69 rfl in_X2 rfl rfl (by decide) (lw_gm 244 (by decide +kernel) rfl) rfl ?_
  refine vn_iload (q := 73) (j := 0) dX2_init_72 rfl rfl rfl ?_
  refine vn_new (ci := 3) (fs := [.int 0, .int 0, .int 0, .null]) tyX4 (q := 76) dX2_init_73 rfl in_X4 tyX4_ok (lw_gm 221 (by decide +kernel) rfl) (lw_gm 223 (by decide +kernel) rfl) (lw_gm 68 (by decide +kernel) rfl) rfl df_X4 (Nat.le_of_ble_eq_true rfl) (Nat.le_of_ble_eq_true rfl) (fun q8 => ?_)
  refine vn_dup (q := 77) dX2_init_76 rfl ?_
  refine vn_callN (as := []) (a := q8) (st := [.ref q8, .int 1, .ref q1]) (nn := 0) (q := 80) dX2_init_77 rfl (n_X4 n) (lw_gm 226 rfl rfl) rfl (lw_gm 68 (by decide +kernel) rfl) (fun s h => h.2.2.2.2.2.2.1) (lw_gm 225 (by decide +kernel) rfl) rfl ⟨by decide, by decide, by decide +kernel⟩ rfl ⟨Nat.le_of_ble_eq_true rfl, Nat.le_of_ble_eq_true rfl⟩ (Nat.le_of_ble_eq_true rfl) ⟨Nat.le_of_ble_eq_true rfl, Nat.le_of_ble_eq_true rfl⟩ (fun u9 => ?_)
  refine vn_aaM (q0 := 1) (qk := 8) (ws2 := [(a, .inr (2, [.ref q1, .ref q2, .ref q3, .int 0, .int 0, .ref q4, .ref q5, .int 0]))] ++ [(q1, .inl (ng_M n, 7, .inr (.inr (.inr (.inr (va_up (va_up (fun _ => none) 0 (some q6)) 1 (some q8)))))))] ++ [(q2, .inl (ng_I n, 6, .inl (fun _ => 0)))] ++ [(q3, .inl (ng_I n, 6, .inl (fun _ => 0)))] ++ [(q4, .inl (ng_I n, 6, .inl (fun _ => 0)))] ++ [(q5, .inl (ng_I n, 6, .inl (fun _ => 0)))] ++ wX4 n q6 u7 ++ wX4 n q8 u9) (q := 81) dX2_init_80 rfl rfl rfl (by unfold vp_in; decide) rfl ?_
  refine vn_iinc (q := 84) (j := 0) (v := 2) (lv2 := [(1, .int 2), (0, .ref a)]) dX2_init_81 rfl rfl rfl (Nat.le_of_ble_eq_true rfl) rfl ?_
  refine vn_goto (t := 62) dX2_init_84 (by decide) ?_
  refine vn_iload (q := 63) (j := 0) dX2_init_62 rfl rfl rfl ?_
  refine vn_bipush (q := 65) (v := 6) dX2_init_63 rfl rfl ?_
  refine vn_gtF (t := 87) (q := 68) dX2_init_65 (by decide) rfl (by decide) ?_
  refine vn_aload (q := 69) (j := 1) dX2_init_68 rfl rfl rfl ?_
  refine vn_get (k := 0) (q0 := 0) (q := 72) dX2_init_69 rfl in_X2 rfl rfl (by decide) (lw_gm 244 (by decide +kernel) rfl) rfl ?_
  refine vn_iload (q := 73) (j := 0) dX2_init_72 rfl rfl rfl ?_
  refine vn_new (ci := 3) (fs := [.int 0, .int 0, .int 0, .null]) tyX4 (q := 76) dX2_init_73 rfl in_X4 tyX4_ok (lw_gm 221 (by decide +kernel) rfl) (lw_gm 223 (by decide +kernel) rfl) (lw_gm 68 (by decide +kernel) rfl) rfl df_X4 (Nat.le_of_ble_eq_true rfl) (Nat.le_of_ble_eq_true rfl) (fun q10 => ?_)
  refine vn_dup (q := 77) dX2_init_76 rfl ?_
  refine vn_callN (as := []) (a := q10) (st := [.ref q10, .int 2, .ref q1]) (nn := 0) (q := 80) dX2_init_77 rfl (n_X4 n) (lw_gm 226 rfl rfl) rfl (lw_gm 68 (by decide +kernel) rfl) (fun s h => h.2.2.2.2.2.2.1) (lw_gm 225 (by decide +kernel) rfl) rfl ⟨by decide, by decide, by decide +kernel⟩ rfl ⟨Nat.le_of_ble_eq_true rfl, Nat.le_of_ble_eq_true rfl⟩ (Nat.le_of_ble_eq_true rfl) ⟨Nat.le_of_ble_eq_true rfl, Nat.le_of_ble_eq_true rfl⟩ (fun u11 => ?_)
  refine vn_aaM (q0 := 1) (qk := 10) (ws2 := [(a, .inr (2, [.ref q1, .ref q2, .ref q3, .int 0, .int 0, .ref q4, .ref q5, .int 0]))] ++ [(q1, .inl (ng_M n, 7, .inr (.inr (.inr (.inr (va_up (va_up (va_up (fun _ => none) 0 (some q6)) 1 (some q8)) 2 (some q10)))))))] ++ [(q2, .inl (ng_I n, 6, .inl (fun _ => 0)))] ++ [(q3, .inl (ng_I n, 6, .inl (fun _ => 0)))] ++ [(q4, .inl (ng_I n, 6, .inl (fun _ => 0)))] ++ [(q5, .inl (ng_I n, 6, .inl (fun _ => 0)))] ++ wX4 n q6 u7 ++ wX4 n q8 u9 ++ wX4 n q10 u11) (q := 81) dX2_init_80 rfl rfl rfl (by unfold vp_in; decide) rfl ?_
  refine vn_iinc (q := 84) (j := 0) (v := 3) (lv2 := [(1, .int 3), (0, .ref a)]) dX2_init_81 rfl rfl rfl (Nat.le_of_ble_eq_true rfl) rfl ?_
  refine vn_goto (t := 62) dX2_init_84 (by decide) ?_
  refine vn_iload (q := 63) (j := 0) dX2_init_62 rfl rfl rfl ?_
  refine vn_bipush (q := 65) (v := 6) dX2_init_63 rfl rfl ?_
  refine vn_gtF (t := 87) (q := 68) dX2_init_65 (by decide) rfl (by decide) ?_
  refine vn_aload (q := 69) (j := 1) dX2_init_68 rfl rfl rfl ?_
  refine vn_get (k := 0) (q0 := 0) (q := 72) dX2_init_69 rfl in_X2 rfl rfl (by decide) (lw_gm 244 (by decide +kernel) rfl) rfl ?_
  refine vn_iload (q := 73) (j := 0) dX2_init_72 rfl rfl rfl ?_
  refine vn_new (ci := 3) (fs := [.int 0, .int 0, .int 0, .null]) tyX4 (q := 76) dX2_init_73 rfl in_X4 tyX4_ok (lw_gm 221 (by decide +kernel) rfl) (lw_gm 223 (by decide +kernel) rfl) (lw_gm 68 (by decide +kernel) rfl) rfl df_X4 (Nat.le_of_ble_eq_true rfl) (Nat.le_of_ble_eq_true rfl) (fun q12 => ?_)
  refine vn_dup (q := 77) dX2_init_76 rfl ?_
  refine vn_callN (as := []) (a := q12) (st := [.ref q12, .int 3, .ref q1]) (nn := 0) (q := 80) dX2_init_77 rfl (n_X4 n) (lw_gm 226 rfl rfl) rfl (lw_gm 68 (by decide +kernel) rfl) (fun s h => h.2.2.2.2.2.2.1) (lw_gm 225 (by decide +kernel) rfl) rfl ⟨by decide, by decide, by decide +kernel⟩ rfl ⟨Nat.le_of_ble_eq_true rfl, Nat.le_of_ble_eq_true rfl⟩ (Nat.le_of_ble_eq_true rfl) ⟨Nat.le_of_ble_eq_true rfl, Nat.le_of_ble_eq_true rfl⟩ (fun u13 => ?_)
  refine vn_aaM (q0 := 1) (qk := 12) (ws2 := [(a, .inr (2, [.ref q1, .ref q2, .ref q3, .int 0, .int 0, .ref q4, .ref q5, .int 0]))] ++ [(q1, .inl (ng_M n, 7, .inr (.inr (.inr (.inr (va_up (va_up (va_up (va_up (fun _ => none) 0 (some q6)) 1 (some q8)) 2 (some q10)) 3 (some q12)))))))] ++ [(q2, .inl (ng_I n, 6, .inl (fun _ => 0)))] ++ [(q3, .inl (ng_I n, 6, .inl (fun _ => 0)))] ++ [(q4, .inl (ng_I n, 6, .inl (fun _ => 0)))] ++ [(q5, .inl (ng_I n, 6, .inl (fun _ => 0)))] ++ wX4 n q6 u7 ++ wX4 n q8 u9 ++ wX4 n q10 u11 ++ wX4 n q12 u13) (q := 81) dX2_init_80 rfl rfl rfl (by unfold vp_in; decide) rfl ?_
  refine vn_iinc (q := 84) (j := 0) (v := 4) (lv2 := [(1, .int 4), (0, .ref a)]) dX2_init_81 rfl rfl rfl (Nat.le_of_ble_eq_true rfl) rfl ?_
  refine vn_goto (t := 62) dX2_init_84 (by decide) ?_
  refine vn_iload (q := 63) (j := 0) dX2_init_62 rfl rfl rfl ?_
  refine vn_bipush (q := 65) (v := 6) dX2_init_63 rfl rfl ?_
  refine vn_gtF (t := 87) (q := 68) dX2_init_65 (by decide) rfl (by decide) ?_
  refine vn_aload (q := 69) (j := 1) dX2_init_68 rfl rfl rfl ?_
  refine vn_get (k := 0) (q0 := 0) (q := 72) dX2_init_69 rfl in_X2 rfl rfl (by decide) (lw_gm 244 (by decide +kernel) rfl) rfl ?_
  refine vn_iload (q := 73) (j := 0) dX2_init_72 rfl rfl rfl ?_
  refine vn_new (ci := 3) (fs := [.int 0, .int 0, .int 0, .null]) tyX4 (q := 76) dX2_init_73 rfl in_X4 tyX4_ok (lw_gm 221 (by decide +kernel) rfl) (lw_gm 223 (by decide +kernel) rfl) (lw_gm 68 (by decide +kernel) rfl) rfl df_X4 (Nat.le_of_ble_eq_true rfl) (Nat.le_of_ble_eq_true rfl) (fun q14 => ?_)
  refine vn_dup (q := 77) dX2_init_76 rfl ?_
  refine vn_callN (as := []) (a := q14) (st := [.ref q14, .int 4, .ref q1]) (nn := 0) (q := 80) dX2_init_77 rfl (n_X4 n) (lw_gm 226 rfl rfl) rfl (lw_gm 68 (by decide +kernel) rfl) (fun s h => h.2.2.2.2.2.2.1) (lw_gm 225 (by decide +kernel) rfl) rfl ⟨by decide, by decide, by decide +kernel⟩ rfl ⟨Nat.le_of_ble_eq_true rfl, Nat.le_of_ble_eq_true rfl⟩ (Nat.le_of_ble_eq_true rfl) ⟨Nat.le_of_ble_eq_true rfl, Nat.le_of_ble_eq_true rfl⟩ (fun u15 => ?_)
  refine vn_aaM (q0 := 1) (qk := 14) (ws2 := [(a, .inr (2, [.ref q1, .ref q2, .ref q3, .int 0, .int 0, .ref q4, .ref q5, .int 0]))] ++ [(q1, .inl (ng_M n, 7, .inr (.inr (.inr (.inr (va_up (va_up (va_up (va_up (va_up (fun _ => none) 0 (some q6)) 1 (some q8)) 2 (some q10)) 3 (some q12)) 4 (some q14)))))))] ++ [(q2, .inl (ng_I n, 6, .inl (fun _ => 0)))] ++ [(q3, .inl (ng_I n, 6, .inl (fun _ => 0)))] ++ [(q4, .inl (ng_I n, 6, .inl (fun _ => 0)))] ++ [(q5, .inl (ng_I n, 6, .inl (fun _ => 0)))] ++ wX4 n q6 u7 ++ wX4 n q8 u9 ++ wX4 n q10 u11 ++ wX4 n q12 u13 ++ wX4 n q14 u15) (q := 81) dX2_init_80 rfl rfl rfl (by unfold vp_in; decide) rfl ?_
  refine vn_iinc (q := 84) (j := 0) (v := 5) (lv2 := [(1, .int 5), (0, .ref a)]) dX2_init_81 rfl rfl rfl (Nat.le_of_ble_eq_true rfl) rfl ?_
  refine vn_goto (t := 62) dX2_init_84 (by decide) ?_
  refine vn_iload (q := 63) (j := 0) dX2_init_62 rfl rfl rfl ?_
  refine vn_bipush (q := 65) (v := 6) dX2_init_63 rfl rfl ?_
  refine vn_gtF (t := 87) (q := 68) dX2_init_65 (by decide) rfl (by decide) ?_
  refine vn_aload (q := 69) (j := 1) dX2_init_68 rfl rfl rfl ?_
  refine vn_get (k := 0) (q0 := 0) (q := 72) dX2_init_69 rfl in_X2 rfl rfl (by decide) (lw_gm 244 (by decide +kernel) rfl) rfl ?_
  refine vn_iload (q := 73) (j := 0) dX2_init_72 rfl rfl rfl ?_
  refine vn_new (ci := 3) (fs := [.int 0, .int 0, .int 0, .null]) tyX4 (q := 76) dX2_init_73 rfl in_X4 tyX4_ok (lw_gm 221 (by decide +kernel) rfl) (lw_gm 223 (by decide +kernel) rfl) (lw_gm 68 (by decide +kernel) rfl) rfl df_X4 (Nat.le_of_ble_eq_true rfl) (Nat.le_of_ble_eq_true rfl) (fun q16 => ?_)
  refine vn_dup (q := 77) dX2_init_76 rfl ?_
  refine vn_callN (as := []) (a := q16) (st := [.ref q16, .int 5, .ref q1]) (nn := 0) (q := 80) dX2_init_77 rfl (n_X4 n) (lw_gm 226 rfl rfl) rfl (lw_gm 68 (by decide +kernel) rfl) (fun s h => h.2.2.2.2.2.2.1) (lw_gm 225 (by decide +kernel) rfl) rfl ⟨by decide, by decide, by decide +kernel⟩ rfl ⟨Nat.le_of_ble_eq_true rfl, Nat.le_of_ble_eq_true rfl⟩ (Nat.le_of_ble_eq_true rfl) ⟨Nat.le_of_ble_eq_true rfl, Nat.le_of_ble_eq_true rfl⟩ (fun u17 => ?_)
  refine vn_aaM (q0 := 1) (qk := 16) (ws2 := [(a, .inr (2, [.ref q1, .ref q2, .ref q3, .int 0, .int 0, .ref q4, .ref q5, .int 0]))] ++ [(q1, .inl (ng_M n, 7, .inr (.inr (.inr (.inr (va_up (va_up (va_up (va_up (va_up (va_up (fun _ => none) 0 (some q6)) 1 (some q8)) 2 (some q10)) 3 (some q12)) 4 (some q14)) 5 (some q16)))))))] ++ [(q2, .inl (ng_I n, 6, .inl (fun _ => 0)))] ++ [(q3, .inl (ng_I n, 6, .inl (fun _ => 0)))] ++ [(q4, .inl (ng_I n, 6, .inl (fun _ => 0)))] ++ [(q5, .inl (ng_I n, 6, .inl (fun _ => 0)))] ++ wX4 n q6 u7 ++ wX4 n q8 u9 ++ wX4 n q10 u11 ++ wX4 n q12 u13 ++ wX4 n q14 u15 ++ wX4 n q16 u17) (q := 81) dX2_init_80 rfl rfl rfl (by unfold vp_in; decide) rfl ?_
  refine vn_iinc (q := 84) (j := 0) (v := 6) (lv2 := [(1, .int 6), (0, .ref a)]) dX2_init_81 rfl rfl rfl (Nat.le_of_ble_eq_true rfl) rfl ?_
  refine vn_goto (t := 62) dX2_init_84 (by decide) ?_
  refine vn_iload (q := 63) (j := 0) dX2_init_62 rfl rfl rfl ?_
  refine vn_bipush (q := 65) (v := 6) dX2_init_63 rfl rfl ?_
  refine vn_gtF (t := 87) (q := 68) dX2_init_65 (by decide) rfl (by decide) ?_
  refine vn_aload (q := 69) (j := 1) dX2_init_68 rfl rfl rfl ?_
  refine vn_get (k := 0) (q0 := 0) (q := 72) dX2_init_69 rfl in_X2 rfl rfl (by decide) (lw_gm 244 (by decide +kernel) rfl) rfl ?_
  refine vn_iload (q := 73) (j := 0) dX2_init_72 rfl rfl rfl ?_
  refine vn_new (ci := 3) (fs := [.int 0, .int 0, .int 0, .null]) tyX4 (q := 76) dX2_init_73 rfl in_X4 tyX4_ok (lw_gm 221 (by decide +kernel) rfl) (lw_gm 223 (by decide +kernel) rfl) (lw_gm 68 (by decide +kernel) rfl) rfl df_X4 (Nat.le_of_ble_eq_true rfl) (Nat.le_of_ble_eq_true rfl) (fun q18 => ?_)
  refine vn_dup (q := 77) dX2_init_76 rfl ?_
  refine vn_callN (as := []) (a := q18) (st := [.ref q18, .int 6, .ref q1]) (nn := 0) (q := 80) dX2_init_77 rfl (n_X4 n) (lw_gm 226 rfl rfl) rfl (lw_gm 68 (by decide +kernel) rfl) (fun s h => h.2.2.2.2.2.2.1) (lw_gm 225 (by decide +kernel) rfl) rfl ⟨by decide, by decide, by decide +kernel⟩ rfl ⟨Nat.le_of_ble_eq_true rfl, Nat.le_of_ble_eq_true rfl⟩ (Nat.le_of_ble_eq_true rfl) ⟨Nat.le_of_ble_eq_true rfl, Nat.le_of_ble_eq_true rfl⟩ (fun u19 => ?_)
  refine vn_aaM (q0 := 1) (qk := 18) (ws2 := [(a, .inr (2, [.ref q1, .ref q2, .ref q3, .int 0, .int 0, .ref q4, .ref q5, .int 0]))] ++ [(q1, .inl (ng_M n, 7, .inr (.inr (.inr (.inr (va_up (va_up (va_up (va_up (va_up (va_up (va_up (fun _ => none) 0 (some q6)) 1 (some q8)) 2 (some q10)) 3 (some q12)) 4 (some q14)) 5 (some q16)) 6 (some q18)))))))] ++ [(q2, .inl (ng_I n, 6, .inl (fun _ => 0)))] ++ [(q3, .inl (ng_I n, 6, .inl (fun _ => 0)))] ++ [(q4, .inl (ng_I n, 6, .inl (fun _ => 0)))] ++ [(q5, .inl (ng_I n, 6, .inl (fun _ => 0)))] ++ wX4 n q6 u7 ++ wX4 n q8 u9 ++ wX4 n q10 u11 ++ wX4 n q12 u13 ++ wX4 n q14 u15 ++ wX4 n q16 u17 ++ wX4 n q18 u19) (q := 81) dX2_init_80 rfl rfl rfl (by unfold vp_in; decide) rfl ?_
  refine vn_iinc (q := 84) (j := 0) (v := 7) (lv2 := [(1, .int 7), (0, .ref a)]) dX2_init_81 rfl rfl rfl (Nat.le_of_ble_eq_true rfl) rfl ?_
  refine vn_goto (t := 62) dX2_init_84 (by decide) ?_
  refine vn_iload (q := 63) (j := 0) dX2_init_62 rfl rfl rfl ?_
  refine vn_bipush (q := 65) (v := 6) dX2_init_63 rfl rfl ?_
  refine vn_gtT (t := 87) dX2_init_65 (by decide) (by decide) ?_
  refine vn_end ⟨dX2_init_87, rfl, Nat.le_of_ble_eq_true rfl, Nat.le_of_ble_eq_true rfl, fun i => ([a, q1, q2, q3, q4, q5, q6, (u7 1), q8, (u9 1), q10, (u11 1), q12, (u13 1), q14, (u15 1), q16, (u17 1), q18, (u19 1)] : List Nat).getD i 0, rfl⟩
