section PN1_
variable {g : SG_} {d : Nat} {h : SH_} {Post : Option SV_ → SH_ → Prop}
theorem c_found {f : Int} (hf : 0 ≤ f ∧ f ≤ 1000) (kk : Post (some (sv_i (-1000010 - f))) (hs_ h 0 8 f)) : Ctr_ g d mX8_found [sv_r 4 7 0, sv_i f] h Post := by
  refine V_mk (by decide +kernel) (Or.inr (Or.inl ⟨rfl, rfl⟩)) (Nat.le_of_ble_eq_true rfl) (by simp [sv_c]) ?_
  show V_ _ _ _ 0 [_, _] [] _ _
  refine vr_aload_n (q := 1) dX8_found_0 rfl rfl ?_
  refine vr_iload_n (q := 2) dX8_found_1 rfl rfl ?_
  refine vr_put (ji := 8) (q := 5) dX8_found_2 rfl pX8_58 rfl rfl ?_
  refine vr_ldcw (x := -1000010) (q := 8) dX8_found_5 rfl ⟨by decide, by decide⟩ qX8_301 ?_
  refine vr_iload_n (q := 9) dX8_found_8 rfl rfl ?_
  refine vr_isubN (q := 10) dX8_found_9 rfl ⟨by omega, by omega⟩ ?_
  refine vr_iret dX8_found_10 rfl ?_
  first | exact kk | (exfalso; omega) | (repeat (first | exact kk | rw [if_pos (by omega)] at kk | rw [if_neg (by omega)] at kk))
theorem c_unfound {v : Int} (kk : Post (some (sv_i v)) (hs_ h 0 8 0)) : Ctr_ g d mX8_unfound [sv_r 4 7 0, sv_i v] h Post := by
  refine V_mk (by decide +kernel) (Or.inr (Or.inl ⟨rfl, rfl⟩)) (Nat.le_of_ble_eq_true rfl) (by simp [sv_c]) ?_
  show V_ _ _ _ 0 [_, _] [] _ _
  refine vr_aload_n (q := 1) dX8_unfound_0 rfl rfl ?_
  refine vr_iconst (q := 2) dX8_unfound_1 rfl ⟨by decide, by decide⟩ ?_
  refine vr_put (ji := 8) (q := 5) dX8_unfound_2 rfl pX8_58 rfl rfl ?_
  refine vr_iload_n (q := 6) dX8_unfound_5 rfl rfl ?_
  refine vr_iret dX8_unfound_6 rfl ?_
  first | exact kk | (exfalso; omega) | (repeat (first | exact kk | rw [if_pos (by omega)] at kk | rw [if_neg (by omega)] at kk))
theorem x_row {r l n : Int} (k1 : ¬ ((0 ≤ r ∧ r < 8) ∧ (0 ≤ l ∧ l ≤ 2) ∧ n ≤ 40) → Post (some (sv_i (-1000001))) h) (k2 : ((0 ≤ r ∧ r < 8) ∧ (0 ≤ l ∧ l ≤ 2) ∧ n ≤ 40) → n < 0 → Post (some (sv_i (-1000010 - 4))) (hs_ h 0 8 4)) (k3 : ((0 ≤ r ∧ r < 8) ∧ (0 ≤ l ∧ l ≤ 2) ∧ n ≤ 40) → 0 ≤ n → Post (some (sv_i n)) (hs_ (zf_ (hs_ (hs_ h 2 r l) 3 r n) 4 (r * 40) n) 0 8 0)) : Ctr_ g (d + 2) mX8_row [sv_r 4 7 0, sv_i r, sv_i l, sv_i n] h Post := by
  refine V_mk (by decide +kernel) (Or.inr (Or.inl ⟨rfl, rfl⟩)) (Nat.le_of_ble_eq_true rfl) (by simp [sv_c]) ?_
  show V_ _ _ _ 0 [_, _, _, _] [] _ _
  refine vr_iload_n (q := 1) dX8_row_0 rfl rfl ?_
  refine vr_is1 (q := 4) dX8_row_1 rfl vX8_62 (Nat.le_of_ble_eq_true rfl) ?_
  refine c_isRow (fun c1 => ?_) (fun c1 => ?_)
  · refine vr_if_eq (t := 20) (q := 7) dX8_row_4 (by decide) rfl (fun c9 => absurd c9 (by omega)) (fun _ => ?_)
    refine vr_iload_n (q := 8) dX8_row_7 rfl rfl ?_
    refine vr_is1 (q := 11) dX8_row_8 rfl vX8_66 (Nat.le_of_ble_eq_true rfl) ?_
    refine c_isLane (fun c8 => ?_) (fun c8 => ?_)
    · refine vr_if_eq (t := 20) (q := 14) dX8_row_11 (by decide) rfl (fun c9 => absurd c9 (by omega)) (fun _ => ?_)
      refine vr_iload_n (q := 15) dX8_row_14 rfl rfl ?_
      refine vr_bipush (q := 17) dX8_row_15 rfl ⟨by decide, by decide⟩ (by decide) ?_
      refine vr_ic_le (t := 23) (q := 20) dX8_row_17 (by decide) rfl (fun c17 => ?_) (fun c17 => ?_)
      · refine vr_iload_n (q := 24) dX8_row_23 rfl rfl ?_
        refine vr_if_ge (t := 33) (q := 27) dX8_row_24 (by decide) rfl (fun c24 => ?_) (fun c24 => ?_)
        · refine vr_aload_n (q := 34) dX8_row_33 rfl rfl ?_
          refine vr_getA (q := 37) dX8_row_34 rfl fX8_10 rfl ⟨by decide, by decide, rfl⟩ ?_
          refine vr_iload_n (q := 38) dX8_row_37 rfl rfl ?_
          refine vr_iload_n (q := 39) dX8_row_38 rfl rfl ?_
          refine vr_iload_n (q := 40) dX8_row_39 rfl rfl ?_
          refine vr_iv3 (q := 43) dX8_row_40 rfl vX8_74 (Nat.le_of_ble_eq_true rfl) ?_
          refine c_make ⟨by omega, by omega⟩ ⟨by omega, by omega⟩ ?_
          refine vr_aload_n (q := 44) dX8_row_43 rfl rfl ?_
          refine vr_iload_n (q := 45) dX8_row_44 rfl rfl ?_
          refine vr_iv1 (q := 48) dX8_row_45 rfl vX8_78 (Nat.le_of_ble_eq_true rfl) ?_
          refine c_unfound ?_
          refine vr_iret dX8_row_48 rfl ?_
          first | exact k1 (by omega) | exact k2 (by omega) (by omega) | exact k3 (by omega) (by omega)
        · refine vr_aload_n (q := 28) dX8_row_27 rfl rfl ?_
          refine vr_iconst (q := 29) dX8_row_28 rfl ⟨by decide, by decide⟩ ?_
          refine vr_iv1 (q := 32) dX8_row_29 rfl vX8_70 (Nat.le_of_ble_eq_true rfl) ?_
          refine c_found ⟨by decide, by decide⟩ ?_
          refine vr_iret dX8_row_32 rfl ?_
          first | exact k1 (by omega) | exact k2 (by omega) (by omega) | exact k3 (by omega) (by omega)
      · refine vr_ldc (x := -1000001) (q := 22) dX8_row_20 rfl ⟨by decide, by decide⟩ qX8_69 ?_
        refine vr_iret dX8_row_22 rfl ?_
        first | exact k1 (by omega) | exact k2 (by omega) (by omega) | exact k3 (by omega) (by omega)
    · refine vr_if_eq (t := 20) (q := 14) dX8_row_11 (by decide) rfl (fun _ => ?_) (fun c9 => absurd c9 (by omega))
      refine vr_ldc (x := -1000001) (q := 22) dX8_row_20 rfl ⟨by decide, by decide⟩ qX8_69 ?_
      refine vr_iret dX8_row_22 rfl ?_
      first | exact k1 (by omega) | exact k2 (by omega) (by omega) | exact k3 (by omega) (by omega)
  · refine vr_if_eq (t := 20) (q := 7) dX8_row_4 (by decide) rfl (fun _ => ?_) (fun c9 => absurd c9 (by omega))
    refine vr_ldc (x := -1000001) (q := 22) dX8_row_20 rfl ⟨by decide, by decide⟩ qX8_69 ?_
    refine vr_iret dX8_row_22 rfl ?_
    first | exact k1 (by omega) | exact k2 (by omega) (by omega) | exact k3 (by omega) (by omega)
theorem x_set {r i v : Int} (ho : ∀ r, 0 ≤ r → r < 8 → 0 ≤ h 3 r ∧ h 3 r ≤ 40) (k1 : ¬ (0 ≤ r ∧ r < 8) → Post (some (sv_i (-1000001))) h) (k2 : (0 ≤ r ∧ r < 8) → h 2 r = -1 → Post (some (sv_i (-1000010 - 1))) (hs_ h 0 8 1)) (k3 : (0 ≤ r ∧ r < 8) → ¬ h 2 r = -1 → ¬ (0 ≤ i ∧ i < h 3 r) → Post (some (sv_i (-1000010 - 2))) (hs_ h 0 8 2)) (k4 : (0 ≤ r ∧ r < 8) → ¬ h 2 r = -1 → (0 ≤ i ∧ i < h 3 r) → Post (some (sv_i (ct_ (h 2 r) v))) (hs_ (hs_ h 4 (r * 40 + i) (ct_ (h 2 r) v)) 0 8 0)) : Ctr_ g (d + 2) mX8_set [sv_r 4 7 0, sv_i r, sv_i i, sv_i v] h Post := by
  refine V_mk (by decide +kernel) (Or.inr (Or.inl ⟨rfl, rfl⟩)) (Nat.le_of_ble_eq_true rfl) (by simp [sv_c]) ?_
  show V_ _ _ _ 0 [_, _, _, _] [] _ _
  refine vr_iload_n (q := 1) dX8_set_0 rfl rfl ?_
  refine vr_is1 (q := 4) dX8_set_1 rfl vX8_62 (Nat.le_of_ble_eq_true rfl) ?_
  refine c_isRow (fun c1 => ?_) (fun c1 => ?_)
  · refine vr_if_ne (t := 10) (q := 7) dX8_set_4 (by decide) rfl (fun _ => ?_) (fun c9 => absurd c9 (by omega))
    refine vr_aload_n (q := 11) dX8_set_10 rfl rfl ?_
    refine vr_getA (q := 14) dX8_set_11 rfl fX8_10 rfl ⟨by decide, by decide, rfl⟩ ?_
    refine vr_iload_n (q := 15) dX8_set_14 rfl rfl ?_
    refine vr_iv1 (q := 18) dX8_set_15 rfl vX8_81 (Nat.le_of_ble_eq_true rfl) ?_
    refine c_isMissing ⟨by omega, by omega⟩ (fun c15 => ?_) (fun c15 => ?_)
    · refine vr_if_eq (t := 27) (q := 21) dX8_set_18 (by decide) rfl (fun c9 => absurd c9 (by omega)) (fun _ => ?_)
      refine vr_aload_n (q := 22) dX8_set_21 rfl rfl ?_
      refine vr_iconst (q := 23) dX8_set_22 rfl ⟨by decide, by decide⟩ ?_
      refine vr_iv1 (q := 26) dX8_set_23 rfl vX8_70 (Nat.le_of_ble_eq_true rfl) ?_
      refine c_found ⟨by decide, by decide⟩ ?_
      refine vr_iret dX8_set_26 rfl ?_
      first | exact k1 (by omega) | exact k2 (by omega) (by omega) | exact k3 (by omega) (by omega) (by omega) | exact k4 (by omega) (by omega) (by omega)
    · refine vr_if_eq (t := 27) (q := 21) dX8_set_18 (by decide) rfl (fun _ => ?_) (fun c9 => absurd c9 (by omega))
      refine vr_aload_n (q := 28) dX8_set_27 rfl rfl ?_
      refine vr_getA (q := 31) dX8_set_28 rfl fX8_10 rfl ⟨by decide, by decide, rfl⟩ ?_
      refine vr_iload_n (q := 32) dX8_set_31 rfl rfl ?_
      refine vr_iload_n (q := 33) dX8_set_32 rfl rfl ?_
      refine vr_iconst (q := 34) dX8_set_33 rfl ⟨by decide, by decide⟩ ?_
      refine vr_iv3 (q := 37) dX8_set_34 rfl vX8_84 (Nat.le_of_ble_eq_true rfl) ?_
      have hr := ho r (by omega) (by omega)
      refine c_hasPlaces ⟨by omega, by omega⟩ hr (by omega) (fun c34 => ?_) (fun c34 => ?_)
      · refine vr_if_ne (t := 46) (q := 40) dX8_set_37 (by decide) rfl (fun _ => ?_) (fun c9 => absurd c9 (by omega))
        refine vr_aload_n (q := 47) dX8_set_46 rfl rfl ?_
        refine vr_aload_n (q := 48) dX8_set_47 rfl rfl ?_
        refine vr_getA (q := 51) dX8_set_48 rfl fX8_10 rfl ⟨by decide, by decide, rfl⟩ ?_
        refine vr_iload_n (q := 52) dX8_set_51 rfl rfl ?_
        refine vr_iload_n (q := 53) dX8_set_52 rfl rfl ?_
        refine vr_iload_n (q := 54) dX8_set_53 rfl rfl ?_
        refine vr_iv3 (q := 57) dX8_set_54 rfl vX8_88 (Nat.le_of_ble_eq_true rfl) ?_
        refine c_put ⟨by omega, by omega⟩ ⟨by omega, by omega⟩ ?_
        refine vr_iv1 (q := 60) dX8_set_57 rfl vX8_78 (Nat.le_of_ble_eq_true rfl) ?_
        refine c_unfound ?_
        refine vr_iret dX8_set_60 rfl ?_
        first | exact k1 (by omega) | exact k2 (by omega) (by omega) | exact k3 (by omega) (by omega) (by omega) | exact k4 (by omega) (by omega) (by omega)
      · refine vr_if_ne (t := 46) (q := 40) dX8_set_37 (by decide) rfl (fun c9 => absurd c9 (by omega)) (fun _ => ?_)
        refine vr_aload_n (q := 41) dX8_set_40 rfl rfl ?_
        refine vr_iconst (q := 42) dX8_set_41 rfl ⟨by decide, by decide⟩ ?_
        refine vr_iv1 (q := 45) dX8_set_42 rfl vX8_70 (Nat.le_of_ble_eq_true rfl) ?_
        refine c_found ⟨by decide, by decide⟩ ?_
        refine vr_iret dX8_set_45 rfl ?_
        first | exact k1 (by omega) | exact k2 (by omega) (by omega) | exact k3 (by omega) (by omega) (by omega) | exact k4 (by omega) (by omega) (by omega)
  · refine vr_if_ne (t := 10) (q := 7) dX8_set_4 (by decide) rfl (fun c9 => absurd c9 (by omega)) (fun _ => ?_)
    refine vr_ldc (x := -1000001) (q := 9) dX8_set_7 rfl ⟨by decide, by decide⟩ qX8_69 ?_
    refine vr_iret dX8_set_9 rfl ?_
    first | exact k1 (by omega) | exact k2 (by omega) (by omega) | exact k3 (by omega) (by omega) (by omega) | exact k4 (by omega) (by omega) (by omega)
theorem x_copy {a i b j n : Int} (hn : n < 2147483648) (ho : ∀ r, 0 ≤ r → r < 8 → 0 ≤ h 3 r ∧ h 3 r ≤ 40) (k1 : ¬ ((0 ≤ a ∧ a < 8) ∧ (0 ≤ b ∧ b < 8)) → Post (some (sv_i (-1000001))) h) (k2 : ((0 ≤ a ∧ a < 8) ∧ (0 ≤ b ∧ b < 8)) → (h 2 a = -1 ∨ h 2 b = -1) → Post (some (sv_i (-1000010 - 1))) (hs_ h 0 8 1)) (k3 : ((0 ≤ a ∧ a < 8) ∧ (0 ≤ b ∧ b < 8)) → ¬ (h 2 a = -1 ∨ h 2 b = -1) → ¬ h 2 a = h 2 b → Post (some (sv_i (-1000010 - 5))) (hs_ h 0 8 5)) (k4 : ((0 ≤ a ∧ a < 8) ∧ (0 ≤ b ∧ b < 8)) → ¬ (h 2 a = -1 ∨ h 2 b = -1) → h 2 a = h 2 b → ¬ (0 ≤ i ∧ 0 ≤ j ∧ 0 ≤ n ∧ i + n ≤ h 3 a ∧ j + n ≤ h 3 b) → Post (some (sv_i (-1000010 - 2))) (hs_ h 0 8 2)) (k5 : ((0 ≤ a ∧ a < 8) ∧ (0 ≤ b ∧ b < 8)) → ¬ (h 2 a = -1 ∨ h 2 b = -1) → h 2 a = h 2 b → (0 ≤ i ∧ 0 ≤ j ∧ 0 ≤ n ∧ i + n ≤ h 3 a ∧ j + n ≤ h 3 b) → Post (some (sv_i n)) (hs_ (hc_ h 4 (a * 40 + i) 4 (b * 40 + j) n) 0 8 0)) : Ctr_ g (d + 2) mX8_copy [sv_r 4 7 0, sv_i a, sv_i i, sv_i b, sv_i j, sv_i n] h Post := by
  refine V_mk (by decide +kernel) (Or.inr (Or.inl ⟨rfl, rfl⟩)) (Nat.le_of_ble_eq_true rfl) (by simp [sv_c]) ?_
  show V_ _ _ _ 0 [_, _, _, _, _, _] [] _ _
  refine vr_iload_n (q := 1) dX8_copy_0 rfl rfl ?_
  refine vr_is1 (q := 4) dX8_copy_1 rfl vX8_62 (Nat.le_of_ble_eq_true rfl) ?_
  refine c_isRow (fun c1 => ?_) (fun c1 => ?_)
  · refine vr_if_eq (t := 14) (q := 7) dX8_copy_4 (by decide) rfl (fun c9 => absurd c9 (by omega)) (fun _ => ?_)
    refine vr_iload_n (q := 8) dX8_copy_7 rfl rfl ?_
    refine vr_is1 (q := 11) dX8_copy_8 rfl vX8_62 (Nat.le_of_ble_eq_true rfl) ?_
    refine c_isRow (fun c8 => ?_) (fun c8 => ?_)
    · refine vr_if_ne (t := 17) (q := 14) dX8_copy_11 (by decide) rfl (fun _ => ?_) (fun c9 => absurd c9 (by omega))
      refine vr_aload_n (q := 18) dX8_copy_17 rfl rfl ?_
      refine vr_getA (q := 21) dX8_copy_18 rfl fX8_10 rfl ⟨by decide, by decide, rfl⟩ ?_
      refine vr_iload_n (q := 22) dX8_copy_21 rfl rfl ?_
      refine vr_iv1 (q := 25) dX8_copy_22 rfl vX8_81 (Nat.le_of_ble_eq_true rfl) ?_
      refine c_isMissing ⟨by omega, by omega⟩ (fun c22 => ?_) (fun c22 => ?_)
      · refine vr_if_ne (t := 39) (q := 28) dX8_copy_25 (by decide) rfl (fun _ => ?_) (fun c9 => absurd c9 (by omega))
        refine vr_aload_n (q := 40) dX8_copy_39 rfl rfl ?_
        refine vr_iconst (q := 41) dX8_copy_40 rfl ⟨by decide, by decide⟩ ?_
        refine vr_iv1 (q := 44) dX8_copy_41 rfl vX8_70 (Nat.le_of_ble_eq_true rfl) ?_
        refine c_found ⟨by decide, by decide⟩ ?_
        refine vr_iret dX8_copy_44 rfl ?_
        first | exact k1 (by omega) | exact k2 (by omega) (by omega) | exact k3 (by omega) (by omega) (by omega) | exact k4 (by omega) (by omega) (by omega) (by omega) | exact k5 (by omega) (by omega) (by omega) (by omega)
      · refine vr_if_ne (t := 39) (q := 28) dX8_copy_25 (by decide) rfl (fun c9 => absurd c9 (by omega)) (fun _ => ?_)
        refine vr_aload_n (q := 29) dX8_copy_28 rfl rfl ?_
        refine vr_getA (q := 32) dX8_copy_29 rfl fX8_10 rfl ⟨by decide, by decide, rfl⟩ ?_
        refine vr_iload_n (q := 33) dX8_copy_32 rfl rfl ?_
        refine vr_iv1 (q := 36) dX8_copy_33 rfl vX8_81 (Nat.le_of_ble_eq_true rfl) ?_
        refine c_isMissing ⟨by omega, by omega⟩ (fun c33 => ?_) (fun c33 => ?_)
        · refine vr_if_eq (t := 45) (q := 39) dX8_copy_36 (by decide) rfl (fun c9 => absurd c9 (by omega)) (fun _ => ?_)
          refine vr_aload_n (q := 40) dX8_copy_39 rfl rfl ?_
          refine vr_iconst (q := 41) dX8_copy_40 rfl ⟨by decide, by decide⟩ ?_
          refine vr_iv1 (q := 44) dX8_copy_41 rfl vX8_70 (Nat.le_of_ble_eq_true rfl) ?_
          refine c_found ⟨by decide, by decide⟩ ?_
          refine vr_iret dX8_copy_44 rfl ?_
          first | exact k1 (by omega) | exact k2 (by omega) (by omega) | exact k3 (by omega) (by omega) (by omega) | exact k4 (by omega) (by omega) (by omega) (by omega) | exact k5 (by omega) (by omega) (by omega) (by omega)
        · refine vr_if_eq (t := 45) (q := 39) dX8_copy_36 (by decide) rfl (fun _ => ?_) (fun c9 => absurd c9 (by omega))
          refine vr_aload_n (q := 46) dX8_copy_45 rfl rfl ?_
          refine vr_getA (q := 49) dX8_copy_46 rfl fX8_10 rfl ⟨by decide, by decide, rfl⟩ ?_
          refine vr_iload_n (q := 50) dX8_copy_49 rfl rfl ?_
          refine vr_iv1 (q := 53) dX8_copy_50 rfl vX8_92 (Nat.le_of_ble_eq_true rfl) ?_
          refine c_laneOf ⟨by omega, by omega⟩ ?_
          refine vr_aload_n (q := 54) dX8_copy_53 rfl rfl ?_
          refine vr_getA (q := 57) dX8_copy_54 rfl fX8_10 rfl ⟨by decide, by decide, rfl⟩ ?_
          refine vr_iload_n (q := 58) dX8_copy_57 rfl rfl ?_
          refine vr_iv1 (q := 61) dX8_copy_58 rfl vX8_92 (Nat.le_of_ble_eq_true rfl) ?_
          refine c_laneOf ⟨by omega, by omega⟩ ?_
          refine vr_ic_eq (t := 70) (q := 64) dX8_copy_61 (by decide) rfl (fun c61 => ?_) (fun c61 => ?_)
          · refine vr_aload_n (q := 71) dX8_copy_70 rfl rfl ?_
            refine vr_getA (q := 74) dX8_copy_71 rfl fX8_10 rfl ⟨by decide, by decide, rfl⟩ ?_
            refine vr_iload_n (q := 75) dX8_copy_74 rfl rfl ?_
            refine vr_iload_n (q := 76) dX8_copy_75 rfl rfl ?_
            refine vr_iload (q := 78) dX8_copy_76 rfl rfl ?_
            refine vr_iv3 (q := 81) dX8_copy_78 rfl vX8_84 (Nat.le_of_ble_eq_true rfl) ?_
            have ha := ho a (by omega) (by omega)
            have hb := ho b (by omega) (by omega)
            refine c_hasPlaces ⟨by omega, by omega⟩ (by assumption) (by omega) (fun c78 => ?_) (fun c78 => ?_)
            · refine vr_if_eq (t := 99) (q := 84) dX8_copy_81 (by decide) rfl (fun c9 => absurd c9 (by omega)) (fun _ => ?_)
              refine vr_aload_n (q := 85) dX8_copy_84 rfl rfl ?_
              refine vr_getA (q := 88) dX8_copy_85 rfl fX8_10 rfl ⟨by decide, by decide, rfl⟩ ?_
              refine vr_iload_n (q := 89) dX8_copy_88 rfl rfl ?_
              refine vr_iload (q := 91) dX8_copy_89 rfl rfl ?_
              refine vr_iload (q := 93) dX8_copy_91 rfl rfl ?_
              refine vr_iv3 (q := 96) dX8_copy_93 rfl vX8_84 (Nat.le_of_ble_eq_true rfl) ?_
              have ha := ho a (by omega) (by omega)
              have hb := ho b (by omega) (by omega)
              refine c_hasPlaces ⟨by omega, by omega⟩ (by assumption) (by omega) (fun c93 => ?_) (fun c93 => ?_)
              · refine vr_if_ne (t := 105) (q := 99) dX8_copy_96 (by decide) rfl (fun _ => ?_) (fun c9 => absurd c9 (by omega))
                refine vr_aload_n (q := 106) dX8_copy_105 rfl rfl ?_
                refine vr_getA (q := 109) dX8_copy_106 rfl fX8_10 rfl ⟨by decide, by decide, rfl⟩ ?_
                refine vr_iload_n (q := 110) dX8_copy_109 rfl rfl ?_
                refine vr_iload_n (q := 111) dX8_copy_110 rfl rfl ?_
                refine vr_iload_n (q := 112) dX8_copy_111 rfl rfl ?_
                refine vr_iload (q := 114) dX8_copy_112 rfl rfl ?_
                refine vr_iload (q := 116) dX8_copy_114 rfl rfl ?_
                refine vr_iv5 (q := 119) dX8_copy_116 rfl vX8_95 (Nat.le_of_ble_eq_true rfl) ?_
                refine c_move ⟨by omega, by omega⟩ ⟨by omega, by omega⟩ ⟨by omega, by omega, by omega, by omega, by omega⟩ ?_
                refine vr_aload_n (q := 120) dX8_copy_119 rfl rfl ?_
                refine vr_iload (q := 122) dX8_copy_120 rfl rfl ?_
                refine vr_iv1 (q := 125) dX8_copy_122 rfl vX8_78 (Nat.le_of_ble_eq_true rfl) ?_
                refine c_unfound ?_
                refine vr_iret dX8_copy_125 rfl ?_
                first | exact k1 (by omega) | exact k2 (by omega) (by omega) | exact k3 (by omega) (by omega) (by omega) | exact k4 (by omega) (by omega) (by omega) (by omega) | exact k5 (by omega) (by omega) (by omega) (by omega)
              · refine vr_if_ne (t := 105) (q := 99) dX8_copy_96 (by decide) rfl (fun c9 => absurd c9 (by omega)) (fun _ => ?_)
                refine vr_aload_n (q := 100) dX8_copy_99 rfl rfl ?_
                refine vr_iconst (q := 101) dX8_copy_100 rfl ⟨by decide, by decide⟩ ?_
                refine vr_iv1 (q := 104) dX8_copy_101 rfl vX8_70 (Nat.le_of_ble_eq_true rfl) ?_
                refine c_found ⟨by decide, by decide⟩ ?_
                refine vr_iret dX8_copy_104 rfl ?_
                first | exact k1 (by omega) | exact k2 (by omega) (by omega) | exact k3 (by omega) (by omega) (by omega) | exact k4 (by omega) (by omega) (by omega) (by omega) | exact k5 (by omega) (by omega) (by omega) (by omega)
            · refine vr_if_eq (t := 99) (q := 84) dX8_copy_81 (by decide) rfl (fun _ => ?_) (fun c9 => absurd c9 (by omega))
              refine vr_aload_n (q := 100) dX8_copy_99 rfl rfl ?_
              refine vr_iconst (q := 101) dX8_copy_100 rfl ⟨by decide, by decide⟩ ?_
              refine vr_iv1 (q := 104) dX8_copy_101 rfl vX8_70 (Nat.le_of_ble_eq_true rfl) ?_
              refine c_found ⟨by decide, by decide⟩ ?_
              refine vr_iret dX8_copy_104 rfl ?_
              first | exact k1 (by omega) | exact k2 (by omega) (by omega) | exact k3 (by omega) (by omega) (by omega) | exact k4 (by omega) (by omega) (by omega) (by omega) | exact k5 (by omega) (by omega) (by omega) (by omega)
          · refine vr_aload_n (q := 65) dX8_copy_64 rfl rfl ?_
            refine vr_iconst (q := 66) dX8_copy_65 rfl ⟨by decide, by decide⟩ ?_
            refine vr_iv1 (q := 69) dX8_copy_66 rfl vX8_70 (Nat.le_of_ble_eq_true rfl) ?_
            refine c_found ⟨by decide, by decide⟩ ?_
            refine vr_iret dX8_copy_69 rfl ?_
            first | exact k1 (by omega) | exact k2 (by omega) (by omega) | exact k3 (by omega) (by omega) (by omega) | exact k4 (by omega) (by omega) (by omega) (by omega) | exact k5 (by omega) (by omega) (by omega) (by omega)
    · refine vr_if_ne (t := 17) (q := 14) dX8_copy_11 (by decide) rfl (fun c9 => absurd c9 (by omega)) (fun _ => ?_)
      refine vr_ldc (x := -1000001) (q := 16) dX8_copy_14 rfl ⟨by decide, by decide⟩ qX8_69 ?_
      refine vr_iret dX8_copy_16 rfl ?_
      first | exact k1 (by omega) | exact k2 (by omega) (by omega) | exact k3 (by omega) (by omega) (by omega) | exact k4 (by omega) (by omega) (by omega) (by omega) | exact k5 (by omega) (by omega) (by omega) (by omega)
  · refine vr_if_eq (t := 14) (q := 7) dX8_copy_4 (by decide) rfl (fun _ => ?_) (fun c9 => absurd c9 (by omega))
    refine vr_ldc (x := -1000001) (q := 16) dX8_copy_14 rfl ⟨by decide, by decide⟩ qX8_69 ?_
    refine vr_iret dX8_copy_16 rfl ?_
    first | exact k1 (by omega) | exact k2 (by omega) (by omega) | exact k3 (by omega) (by omega) (by omega) | exact k4 (by omega) (by omega) (by omega) (by omega) | exact k5 (by omega) (by omega) (by omega) (by omega)
theorem x_drop {r : Int} (k1 : ¬ (0 ≤ r ∧ r < 8) → Post (some (sv_i (-1000001))) h) (k2 : (0 ≤ r ∧ r < 8) → h 2 r = -1 → Post (some (sv_i (-1000010 - 1))) (hs_ h 0 8 1)) (k3 : (0 ≤ r ∧ r < 8) → ¬ h 2 r = -1 → Post (some (sv_i (h 3 r))) (hs_ (hs_ (hs_ h 2 r (-1)) 3 r 0) 0 8 0)) : Ctr_ g (d + 1) mX8_drop [sv_r 4 7 0, sv_i r] h Post := by
  refine V_mk (by decide +kernel) (Or.inr (Or.inl ⟨rfl, rfl⟩)) (Nat.le_of_ble_eq_true rfl) (by simp [sv_c]) ?_
  show V_ _ _ _ 0 [_, _] [] _ _
  refine vr_iload_n (q := 1) dX8_drop_0 rfl rfl ?_
  refine vr_is1 (q := 4) dX8_drop_1 rfl vX8_62 (Nat.le_of_ble_eq_true rfl) ?_
  refine c_isRow (fun c1 => ?_) (fun c1 => ?_)
  · refine vr_if_ne (t := 10) (q := 7) dX8_drop_4 (by decide) rfl (fun _ => ?_) (fun c9 => absurd c9 (by omega))
    refine vr_aload_n (q := 11) dX8_drop_10 rfl rfl ?_
    refine vr_getA (q := 14) dX8_drop_11 rfl fX8_10 rfl ⟨by decide, by decide, rfl⟩ ?_
    refine vr_iload_n (q := 15) dX8_drop_14 rfl rfl ?_
    refine vr_iv1 (q := 18) dX8_drop_15 rfl vX8_81 (Nat.le_of_ble_eq_true rfl) ?_
    refine c_isMissing ⟨by omega, by omega⟩ (fun c15 => ?_) (fun c15 => ?_)
    · refine vr_if_eq (t := 27) (q := 21) dX8_drop_18 (by decide) rfl (fun c9 => absurd c9 (by omega)) (fun _ => ?_)
      refine vr_aload_n (q := 22) dX8_drop_21 rfl rfl ?_
      refine vr_iconst (q := 23) dX8_drop_22 rfl ⟨by decide, by decide⟩ ?_
      refine vr_iv1 (q := 26) dX8_drop_23 rfl vX8_70 (Nat.le_of_ble_eq_true rfl) ?_
      refine c_found ⟨by decide, by decide⟩ ?_
      refine vr_iret dX8_drop_26 rfl ?_
      first | exact k1 (by omega) | exact k2 (by omega) (by omega) | exact k3 (by omega) (by omega)
    · refine vr_if_eq (t := 27) (q := 21) dX8_drop_18 (by decide) rfl (fun _ => ?_) (fun c9 => absurd c9 (by omega))
      refine vr_aload_n (q := 28) dX8_drop_27 rfl rfl ?_
      refine vr_aload_n (q := 29) dX8_drop_28 rfl rfl ?_
      refine vr_getA (q := 32) dX8_drop_29 rfl fX8_10 rfl ⟨by decide, by decide, rfl⟩ ?_
      refine vr_iload_n (q := 33) dX8_drop_32 rfl rfl ?_
      refine vr_iv1 (q := 36) dX8_drop_33 rfl vX8_99 (Nat.le_of_ble_eq_true rfl) ?_
      refine c_remove ⟨by omega, by omega⟩ ?_
      refine vr_iv1 (q := 39) dX8_drop_36 rfl vX8_78 (Nat.le_of_ble_eq_true rfl) ?_
      refine c_unfound ?_
      refine vr_iret dX8_drop_39 rfl ?_
      first | exact k1 (by omega) | exact k2 (by omega) (by omega) | exact k3 (by omega) (by omega)
  · refine vr_if_ne (t := 10) (q := 7) dX8_drop_4 (by decide) rfl (fun c9 => absurd c9 (by omega)) (fun _ => ?_)
    refine vr_ldc (x := -1000001) (q := 9) dX8_drop_7 rfl ⟨by decide, by decide⟩ qX8_69 ?_
    refine vr_iret dX8_drop_9 rfl ?_
    first | exact k1 (by omega) | exact k2 (by omega) (by omega) | exact k3 (by omega) (by omega)
theorem x_feed {x : Int} (hn : 0 ≤ h 5 1 ∧ h 5 1 ≤ 120) (k1 : ¬ (0 ≤ x ∧ x ≤ 255) → Post (some (sv_i (-1000001))) h) (k2 : (0 ≤ x ∧ x ≤ 255) → 120 ≤ h 5 1 → Post (some (sv_i (-1000003))) h) (k3 : (0 ≤ x ∧ x ≤ 255) → ¬ 120 ≤ h 5 1 → Post (some (sv_i (h 5 1 + 1))) (hs_ (hs_ h 6 (h 5 1) x) 5 1 (h 5 1 + 1))) : Ctr_ g (d + 1) mX8_feed [sv_r 4 7 0, sv_i x] h Post := by
  refine V_mk (by decide +kernel) (Or.inr (Or.inl ⟨rfl, rfl⟩)) (Nat.le_of_ble_eq_true rfl) (by simp [sv_c]) ?_
  show V_ _ _ _ 0 [_, _] [] _ _
  refine vr_iload_n (q := 1) dX8_feed_0 rfl rfl ?_
  refine vr_if_lt (t := 11) (q := 4) dX8_feed_1 (by decide) rfl (fun c1 => ?_) (fun c1 => ?_)
  · refine vr_ldc (x := -1000001) (q := 13) dX8_feed_11 rfl ⟨by decide, by decide⟩ qX8_69 ?_
    refine vr_iret dX8_feed_13 rfl ?_
    first | exact k1 (by omega) | exact k2 (by omega) (by omega) | exact k3 (by omega) (by omega)
  · refine vr_iload_n (q := 5) dX8_feed_4 rfl rfl ?_
    refine vr_sipush (q := 8) dX8_feed_5 rfl ⟨by decide, by decide⟩ (by decide) ?_
    refine vr_ic_le (t := 14) (q := 11) dX8_feed_8 (by decide) rfl (fun c8 => ?_) (fun c8 => ?_)
    · refine vr_aload_n (q := 15) dX8_feed_14 rfl rfl ?_
      refine vr_getA (q := 18) dX8_feed_15 rfl fX8_19 rfl ⟨by decide, by decide, rfl⟩ ?_
      refine vr_iv0 (q := 21) dX8_feed_18 rfl vX8_102 (Nat.le_of_ble_eq_true rfl) ?_
      refine c_isFull (fun c18 => ?_) (fun c18 => ?_)
      · refine vr_if_eq (t := 27) (q := 24) dX8_feed_21 (by decide) rfl (fun c9 => absurd c9 (by omega)) (fun _ => ?_)
        refine vr_ldc (x := -1000003) (q := 26) dX8_feed_24 rfl ⟨by decide, by decide⟩ qX8_106 ?_
        refine vr_iret dX8_feed_26 rfl ?_
        first | exact k1 (by omega) | exact k2 (by omega) (by omega) | exact k3 (by omega) (by omega)
      · refine vr_if_eq (t := 27) (q := 24) dX8_feed_21 (by decide) rfl (fun _ => ?_) (fun c9 => absurd c9 (by omega))
        refine vr_aload_n (q := 28) dX8_feed_27 rfl rfl ?_
        refine vr_getA (q := 31) dX8_feed_28 rfl fX8_19 rfl ⟨by decide, by decide, rfl⟩ ?_
        refine vr_iload_n (q := 32) dX8_feed_31 rfl rfl ?_
        refine vr_iv1 (q := 35) dX8_feed_32 rfl vX8_107 (Nat.le_of_ble_eq_true rfl) ?_
        refine c_append ⟨by omega, by omega⟩ ?_
        refine vr_iret dX8_feed_35 rfl ?_
        first | exact k1 (by omega) | exact k2 (by omega) (by omega) | exact k3 (by omega) (by omega)
    · refine vr_ldc (x := -1000001) (q := 13) dX8_feed_11 rfl ⟨by decide, by decide⟩ qX8_69 ?_
      refine vr_iret dX8_feed_13 rfl ?_
      first | exact k1 (by omega) | exact k2 (by omega) (by omega) | exact k3 (by omega) (by omega)
theorem x_fault (kk : Post (some (sv_i (h 5 3))) h) : Ctr_ g (d + 1) mX8_fault [sv_r 4 7 0] h Post := by
  refine V_mk (by decide +kernel) (Or.inr (Or.inl ⟨rfl, rfl⟩)) (Nat.le_of_ble_eq_true rfl) (by simp [sv_c]) ?_
  show V_ _ _ _ 0 [_] [] _ _
  refine vr_aload_n (q := 1) dX8_fault_0 rfl rfl ?_
  refine vr_getA (q := 4) dX8_fault_1 rfl fX8_19 rfl ⟨by decide, by decide, rfl⟩ ?_
  refine vr_iv0 (q := 7) dX8_fault_4 rfl vX8_129 (Nat.le_of_ble_eq_true rfl) ?_
  refine c_latestFault ?_
  refine vr_iret dX8_fault_7 rfl ?_
  first | exact kk | (exfalso; omega) | (repeat (first | exact kk | rw [if_pos (by omega)] at kk | rw [if_neg (by omega)] at kk))
theorem x_undo (hn : 0 ≤ h 40 5 ∧ h 40 5 < 24) (hk : 0 ≤ h 40 6 ∧ h 40 6 ≤ 24) (hs : ¬ h 40 6 = 0 → 0 ≤ h 41 (ul_n h) ∧ h 41 (ul_n h) < 4) (k1 : h 40 6 = 0 → Post (some (sv_i (-1000002))) h) (k2 : ¬ h 40 6 = 0 → Post (some (sv_i (ul_ h 40 6))) (ul_ h)) : Ctr_ g (d + 1) mX8_undo [sv_r 4 7 0] h Post := by
  refine V_mk (by decide +kernel) (Or.inr (Or.inl ⟨rfl, rfl⟩)) (Nat.le_of_ble_eq_true rfl) (by simp [sv_c]) ?_
  show V_ _ _ _ 0 [_] [] _ _
  refine vr_aload_n (q := 1) dX8_undo_0 rfl rfl ?_
  refine vr_getA (q := 4) dX8_undo_1 rfl fX8_40 rfl ⟨by decide, by decide, rfl⟩ ?_
  refine vr_iv0 (q := 7) dX8_undo_4 rfl vX8_183 (Nat.le_of_ble_eq_true rfl) ?_
  refine c_kept ?_
  refine vr_if_ne (t := 13) (q := 10) dX8_undo_7 (by decide) rfl (fun c7 => ?_) (fun c7 => ?_)
  · refine vr_aload_n (q := 14) dX8_undo_13 rfl rfl ?_
    refine vr_getA (q := 17) dX8_undo_14 rfl fX8_40 rfl ⟨by decide, by decide, rfl⟩ ?_
    refine vr_aload_n (q := 18) dX8_undo_17 rfl rfl ?_
    refine vr_getA (q := 21) dX8_undo_18 rfl fX8_26 rfl ⟨by decide, by decide, rfl⟩ ?_
    refine vr_iv1 (q := 24) dX8_undo_21 rfl vX8_186 (Nat.le_of_ble_eq_true rfl) ?_
    refine c_undoLatest hn hk (hs (by assumption)) ?_
    refine vr_aload_n (q := 25) dX8_undo_24 rfl rfl ?_
    refine vr_getA (q := 28) dX8_undo_25 rfl fX8_40 rfl ⟨by decide, by decide, rfl⟩ ?_
    refine vr_iv0 (q := 31) dX8_undo_28 rfl vX8_183 (Nat.le_of_ble_eq_true rfl) ?_
    refine c_kept ?_
    refine vr_iret dX8_undo_31 rfl ?_
    first | exact k1 (by assumption) | exact k2 (by assumption)
  · refine vr_ldc (x := -1000002) (q := 12) dX8_undo_10 rfl ⟨by decide, by decide⟩ qX8_142 ?_
    refine vr_iret dX8_undo_12 rfl ?_
    first | exact k1 (by assumption) | exact k2 (by assumption)
theorem x_lie {l w : Int} (hn : 0 ≤ h 7 2 ∧ h 7 2 ≤ 6) (h3 : 0 ≤ h 7 3 ∧ h 7 3 ≤ 4) (k1 : ¬ (0 ≤ l ∧ l < h 7 2) → Post (some (sv_i (-1000001))) h) (k2 : (0 ≤ l ∧ l < h 7 2) → ¬ (0 ≤ w ∧ w ≤ 3) → Post (some (sv_i (-1000001))) h) (k3 : (0 ≤ l ∧ l < h 7 2) → (0 ≤ w ∧ w ≤ 3) → Post (some (sv_i (if w = 0 then h 9 l else if w = 1 then h 10 l else if w = 2 then ws_ (h 13) l (h 7 3).toNat else nn_ h l))) h) : Ctr_ g (d + 1) mX8_lie [sv_r 4 7 0, sv_i l, sv_i w] h Post := by
  refine V_mk (by decide +kernel) (Or.inr (Or.inl ⟨rfl, rfl⟩)) (Nat.le_of_ble_eq_true rfl) (by simp [sv_c]) ?_
  show V_ _ _ _ 0 [_, _, _] [] _ _
  refine vr_aload_n (q := 1) dX8_lie_0 rfl rfl ?_
  refine vr_getA (q := 4) dX8_lie_1 rfl fX8_26 rfl ⟨by decide, by decide, rfl⟩ ?_
  refine vr_iload_n (q := 5) dX8_lie_4 rfl rfl ?_
  -- at X8.lie 5: .invokevirtual 135
  refine vr_iv1 (q := 8) dX8_lie_5 rfl vX8_135 (Nat.le_of_ble_eq_true rfl) ?_
  refine c_hasLie (fun c5 => ?_) (fun c5 => ?_)
  · refine vr_if_ne (t := 14) (q := 11) dX8_lie_8 (by decide) rfl (fun _ => ?_) (fun c9 => absurd c9 (by omega))
    refine vr_iload_n (q := 15) dX8_lie_14 rfl rfl ?_
    -- at X8.lie 15: .tableswitch 81 0 3 #[29, 39, 49, 65]
    by_cases cw : 0 ≤ w ∧ w ≤ 3
    · have k4 := k3 c5 cw
      rcases (by omega : w = 0 ∨ w = 1 ∨ w = 2 ∨ w = 3) with rfl | rfl | rfl | rfl
      · refine vr_tsI (q := 44) dX8_lie_15 (by decide) (by decide) rfl (by decide) ?_
        refine vr_aload_n (q := 45) dX8_lie_44 rfl rfl ?_
        refine vr_getA (q := 48) dX8_lie_45 rfl fX8_26 rfl ⟨by decide, by decide, rfl⟩ ?_
        refine vr_getR (q := 51) dX8_lie_48 rfl fX8_189 rfl y_X7_5 (by first | (simp only [Int.reduceAdd]; rfl) | rfl) ?_
        refine vr_iload_n (q := 52) dX8_lie_51 rfl rfl ?_
        refine vr_iald (q := 53) dX8_lie_52 rfl ⟨by omega, by omega⟩ ?_
        refine vr_iret dX8_lie_53 rfl ?_
        exact k4
      · refine vr_tsI (q := 54) dX8_lie_15 (by decide) (by decide) rfl (by decide) ?_
        refine vr_aload_n (q := 55) dX8_lie_54 rfl rfl ?_
        refine vr_getA (q := 58) dX8_lie_55 rfl fX8_26 rfl ⟨by decide, by decide, rfl⟩ ?_
        refine vr_getR (q := 61) dX8_lie_58 rfl fX8_192 rfl y_X7_6 (by first | (simp only [Int.reduceAdd]; rfl) | rfl) ?_
        refine vr_iload_n (q := 62) dX8_lie_61 rfl rfl ?_
        refine vr_iald (q := 63) dX8_lie_62 rfl ⟨by omega, by omega⟩ ?_
        refine vr_iret dX8_lie_63 rfl ?_
        exact k4
      · refine vr_tsI (q := 64) dX8_lie_15 (by decide) (by decide) rfl (by decide) ?_
        refine vr_aload_n (q := 65) dX8_lie_64 rfl rfl ?_
        refine vr_getA (q := 68) dX8_lie_65 rfl fX8_26 rfl ⟨by decide, by decide, rfl⟩ ?_
        refine vr_aload_n (q := 69) dX8_lie_68 rfl rfl ?_
        refine vr_getA (q := 72) dX8_lie_69 rfl fX8_26 rfl ⟨by decide, by decide, rfl⟩ ?_
        refine vr_getR (q := 75) dX8_lie_72 rfl fX8_174 rfl y_X7_9 (by first | (simp only [Int.reduceAdd]; rfl) | rfl) ?_
        refine vr_iload_n (q := 76) dX8_lie_75 rfl rfl ?_
        refine vr_iv2 (q := 79) dX8_lie_76 rfl vX8_195 (Nat.le_of_ble_eq_true rfl) ?_
        refine c_strangersWith h3 ?_
        refine vr_iret dX8_lie_79 rfl ?_
        exact k4
      · refine vr_tsI (q := 80) dX8_lie_15 (by decide) (by decide) rfl (by decide) ?_
        refine vr_aload_n (q := 81) dX8_lie_80 rfl rfl ?_
        refine vr_getA (q := 84) dX8_lie_81 rfl fX8_26 rfl ⟨by decide, by decide, rfl⟩ ?_
        refine vr_aload_n (q := 85) dX8_lie_84 rfl rfl ?_
        refine vr_getA (q := 88) dX8_lie_85 rfl fX8_26 rfl ⟨by decide, by decide, rfl⟩ ?_
        refine vr_getR (q := 91) dX8_lie_88 rfl fX8_199 rfl y_X7_10 (by first | (simp only [Int.reduceAdd]; rfl) | rfl) ?_
        refine vr_iload_n (q := 92) dX8_lie_91 rfl rfl ?_
        refine vr_iv2 (q := 95) dX8_lie_92 rfl vX8_195 (Nat.le_of_ble_eq_true rfl) ?_
        refine c_strangersWith h3 ?_
        refine vr_iret dX8_lie_95 rfl ?_
        exact k4
    · refine vr_tsO (q := 96) dX8_lie_15 (by omega) (by decide) ?_
      refine vr_ldc (x := -1000001) (q := 98) dX8_lie_96 rfl ⟨by decide, by decide⟩ qX8_69 ?_
      refine vr_iret dX8_lie_98 rfl ?_
      exact k2 c5 cw
  · refine vr_if_ne (t := 14) (q := 11) dX8_lie_8 (by decide) rfl (fun c9 => absurd c9 (by omega)) (fun _ => ?_)
    refine vr_ldc (x := -1000001) (q := 13) dX8_lie_11 rfl ⟨by decide, by decide⟩ qX8_69 ?_
    refine vr_iret dX8_lie_13 rfl ?_
    exact k1 c5
theorem x_stranger {s w : Int} (h3 : 0 ≤ h 7 3 ∧ h 7 3 ≤ 4) (k1 : ¬ ((0 ≤ s ∧ s < h 7 3) ∧ (0 ≤ w ∧ w ≤ 3)) → Post (some (sv_i (-1000001))) h) (k3 : (0 ≤ s ∧ s < h 7 3) → (0 ≤ w ∧ w ≤ 3) → Post (some (sv_i (if w = 0 then h 11 s else if w = 1 then h 12 s else if w = 2 then h 13 s else h 14 s))) h) : Ctr_ g (d + 1) mX8_stranger [sv_r 4 7 0, sv_i s, sv_i w] h Post := by
  refine V_mk (by decide +kernel) (Or.inr (Or.inl ⟨rfl, rfl⟩)) (Nat.le_of_ble_eq_true rfl) (by simp [sv_c]) ?_
  show V_ _ _ _ 0 [_, _, _] [] _ _
  refine vr_aload_n (q := 1) dX8_stranger_0 rfl rfl ?_
  refine vr_getA (q := 4) dX8_stranger_1 rfl fX8_26 rfl ⟨by decide, by decide, rfl⟩ ?_
  refine vr_iload_n (q := 5) dX8_stranger_4 rfl rfl ?_
  -- at X8.stranger 5: .invokevirtual 132
  refine vr_iv1 (q := 8) dX8_stranger_5 rfl vX8_132 (Nat.le_of_ble_eq_true rfl) ?_
  refine c_hasStranger (fun c5 => ?_) (fun c5 => ?_)
  · refine vr_if_ne (t := 14) (q := 11) dX8_stranger_8 (by decide) rfl (fun _ => ?_) (fun c9 => absurd c9 (by omega))
    refine vr_iload_n (q := 15) dX8_stranger_14 rfl rfl ?_
    -- at X8.stranger 15: .tableswitch 69 0 3 #[29, 39, 49, 59]
    by_cases cw : 0 ≤ w ∧ w ≤ 3
    · have k4 := k3 c5 cw
      rcases (by omega : w = 0 ∨ w = 1 ∨ w = 2 ∨ w = 3) with rfl | rfl | rfl | rfl
      · refine vr_tsI (q := 44) dX8_stranger_15 (by decide) (by decide) rfl (by decide) ?_
        refine vr_aload_n (q := 45) dX8_stranger_44 rfl rfl ?_
        refine vr_getA (q := 48) dX8_stranger_45 rfl fX8_26 rfl ⟨by decide, by decide, rfl⟩ ?_
        refine vr_getR (q := 51) dX8_stranger_48 rfl fX8_202 rfl y_X7_7 (by first | (simp only [Int.reduceAdd]; rfl) | rfl) ?_
        refine vr_iload_n (q := 52) dX8_stranger_51 rfl rfl ?_
        refine vr_iald (q := 53) dX8_stranger_52 rfl ⟨by omega, by omega⟩ ?_
        refine vr_iret dX8_stranger_53 rfl ?_
        exact k4
      · refine vr_tsI (q := 54) dX8_stranger_15 (by decide) (by decide) rfl (by decide) ?_
        refine vr_aload_n (q := 55) dX8_stranger_54 rfl rfl ?_
        refine vr_getA (q := 58) dX8_stranger_55 rfl fX8_26 rfl ⟨by decide, by decide, rfl⟩ ?_
        refine vr_getR (q := 61) dX8_stranger_58 rfl fX8_205 rfl y_X7_8 (by first | (simp only [Int.reduceAdd]; rfl) | rfl) ?_
        refine vr_iload_n (q := 62) dX8_stranger_61 rfl rfl ?_
        refine vr_iald (q := 63) dX8_stranger_62 rfl ⟨by omega, by omega⟩ ?_
        refine vr_iret dX8_stranger_63 rfl ?_
        exact k4
      · refine vr_tsI (q := 64) dX8_stranger_15 (by decide) (by decide) rfl (by decide) ?_
        refine vr_aload_n (q := 65) dX8_stranger_64 rfl rfl ?_
        refine vr_getA (q := 68) dX8_stranger_65 rfl fX8_26 rfl ⟨by decide, by decide, rfl⟩ ?_
        refine vr_getR (q := 71) dX8_stranger_68 rfl fX8_174 rfl y_X7_9 (by first | (simp only [Int.reduceAdd]; rfl) | rfl) ?_
        refine vr_iload_n (q := 72) dX8_stranger_71 rfl rfl ?_
        refine vr_iald (q := 73) dX8_stranger_72 rfl ⟨by omega, by omega⟩ ?_
        refine vr_iret dX8_stranger_73 rfl ?_
        exact k4
      · refine vr_tsI (q := 74) dX8_stranger_15 (by decide) (by decide) rfl (by decide) ?_
        refine vr_aload_n (q := 75) dX8_stranger_74 rfl rfl ?_
        refine vr_getA (q := 78) dX8_stranger_75 rfl fX8_26 rfl ⟨by decide, by decide, rfl⟩ ?_
        refine vr_getR (q := 81) dX8_stranger_78 rfl fX8_199 rfl y_X7_10 (by first | (simp only [Int.reduceAdd]; rfl) | rfl) ?_
        refine vr_iload_n (q := 82) dX8_stranger_81 rfl rfl ?_
        refine vr_iald (q := 83) dX8_stranger_82 rfl ⟨by omega, by omega⟩ ?_
        refine vr_iret dX8_stranger_83 rfl ?_
        exact k4
    · refine vr_tsO (q := 84) dX8_stranger_15 (by omega) (by decide) ?_
      refine vr_ldc (x := -1000001) (q := 86) dX8_stranger_84 rfl ⟨by decide, by decide⟩ qX8_69 ?_
      refine vr_iret dX8_stranger_86 rfl ?_
      exact k1 (fun z => cw z.2)
  · refine vr_if_ne (t := 14) (q := 11) dX8_stranger_8 (by decide) rfl (fun c9 => absurd c9 (by omega)) (fun _ => ?_)
    refine vr_ldc (x := -1000001) (q := 13) dX8_stranger_11 rfl ⟨by decide, by decide⟩ qX8_69 ?_
    refine vr_iret dX8_stranger_13 rfl ?_
    exact k1 (fun z => c5 z.1)
theorem x_kind {l : Int} (hn : 0 ≤ h 7 2 ∧ h 7 2 ≤ 6) (kk : Post (some (sv_i (if 0 ≤ l ∧ l < h 7 2 then h 8 l else -1000001))) h) : Ctr_ g (d + 1) mX8_kind [sv_r 4 7 0, sv_i l] h Post := by
  refine V_mk (by decide +kernel) (Or.inr (Or.inl ⟨rfl, rfl⟩)) (Nat.le_of_ble_eq_true rfl) (by simp [sv_c]) ?_
  show V_ _ _ _ 0 [_, _] [] _ _
  refine vr_aload_n (q := 1) dX8_kind_0 rfl rfl ?_
  refine vr_getA (q := 4) dX8_kind_1 rfl fX8_26 rfl ⟨by decide, by decide, rfl⟩ ?_
  refine vr_iload_n (q := 5) dX8_kind_4 rfl rfl ?_
  refine vr_iv1 (q := 8) dX8_kind_5 rfl vX8_135 (Nat.le_of_ble_eq_true rfl) ?_
  refine c_hasLie (fun c5 => ?_) (fun c5 => ?_)
  · refine vr_if_eq (t := 23) (q := 11) dX8_kind_8 (by decide) rfl (fun c9 => absurd c9 (by omega)) (fun _ => ?_)
    refine vr_aload_n (q := 12) dX8_kind_11 rfl rfl ?_
    refine vr_getA (q := 15) dX8_kind_12 rfl fX8_26 rfl ⟨by decide, by decide, rfl⟩ ?_
    refine vr_getR (q := 18) dX8_kind_15 rfl fX8_272 rfl y_X7_4 (by first | (simp only [Int.reduceAdd]; rfl) | rfl) ?_
    refine vr_iload_n (q := 19) dX8_kind_18 rfl rfl ?_
    refine vr_iald (q := 20) dX8_kind_19 rfl ⟨by omega, by omega⟩ ?_
    refine vr_goto (q := 25) dX8_kind_20 (by decide) ?_
    refine vr_iret dX8_kind_25 rfl ?_
    first | exact kk | (exfalso; omega) | (repeat (first | exact kk | rw [if_pos (by omega)] at kk | rw [if_neg (by omega)] at kk))
  · refine vr_if_eq (t := 23) (q := 11) dX8_kind_8 (by decide) rfl (fun _ => ?_) (fun c9 => absurd c9 (by omega))
    refine vr_ldc (x := -1000001) (q := 25) dX8_kind_23 rfl ⟨by decide, by decide⟩ qX8_69 ?_
    refine vr_iret dX8_kind_25 rfl ?_
    first | exact kk | (exfalso; omega) | (repeat (first | exact kk | rw [if_pos (by omega)] at kk | rw [if_neg (by omega)] at kk))
theorem x_trace {i : Int} (ht : 0 ≤ h 66 1 ∧ h 66 1 ≤ 16) (kk : Post (some (sv_i (if 0 ≤ i ∧ i < h 66 1 then h 67 i else -1000000))) h) : Ctr_ g (d + 1) mX8_trace [sv_r 4 7 0, sv_i i] h Post := by
  refine V_mk (by decide +kernel) (Or.inr (Or.inl ⟨rfl, rfl⟩)) (Nat.le_of_ble_eq_true rfl) (by simp [sv_c]) ?_
  show V_ _ _ _ 0 [_, _] [] _ _
  refine vr_aload_n (q := 1) dX8_trace_0 rfl rfl ?_
  refine vr_getA (q := 4) dX8_trace_1 rfl fX8_54 rfl ⟨by decide, by decide, rfl⟩ ?_
  refine vr_iload_n (q := 5) dX8_trace_4 rfl rfl ?_
  refine vr_iv1 (q := 8) dX8_trace_5 rfl vX8_286 (Nat.le_of_ble_eq_true rfl) ?_
  refine c_traceAt ht ?_
  refine vr_iret dX8_trace_8 rfl ?_
  first | exact kk | (exfalso; omega) | (repeat (first | exact kk | rw [if_pos (by omega)] at kk | rw [if_neg (by omega)] at kk))
theorem x_status (kk : Post (some (sv_i (h 0 8))) h) : Ctr_ g d mX8_status [sv_r 4 7 0] h Post := by
  refine V_mk (by decide +kernel) (Or.inr (Or.inl ⟨rfl, rfl⟩)) (Nat.le_of_ble_eq_true rfl) (by simp [sv_c]) ?_
  show V_ _ _ _ 0 [_] [] _ _
  refine vr_aload_n (q := 1) dX8_status_0 rfl rfl ?_
  refine vr_getI (ji := 8) (q := 4) dX8_status_1 rfl fX8_58 rfl rfl ?_
  refine vr_iret dX8_status_4 rfl ?_
  first | exact kk | (exfalso; omega) | (repeat (first | exact kk | rw [if_pos (by omega)] at kk | rw [if_neg (by omega)] at kk))
theorem x_as {l k : Int} (hX : sx_ g) (hn : 0 ≤ h 7 2 ∧ h 7 2 ≤ 6) (hk : ∀ l, 0 ≤ l → l < h 7 2 → 1 ≤ h 8 l ∧ h 8 l ≤ 5) (k1 : ¬ ((0 ≤ l ∧ l < h 7 2) ∧ (0 ≤ k ∧ k < 6)) → Post (some (sv_i (-1000001))) h) (k2 : ((0 ≤ l ∧ l < h 7 2) ∧ (0 ≤ k ∧ k < 6)) → ¬ is_ (h 8 l) k → Post (some (sv_i (-1000010 - 3))) (hs_ h 0 8 3)) (k3 : ((0 ≤ l ∧ l < h 7 2) ∧ (0 ≤ k ∧ k < 6)) → is_ (h 8 l) k → Post (some (sv_i l)) (hs_ h 0 8 0)) : Ctr_ g (d + 3) mX8_as [sv_r 4 7 0, sv_i l, sv_i k] h Post := by
  refine V_mk (by decide +kernel) (Or.inr (Or.inl ⟨rfl, rfl⟩)) (Nat.le_of_ble_eq_true rfl) (by simp [sv_c]) ?_
  show V_ _ _ _ 0 [_, _, _] [] _ _
  refine vr_aload_n (q := 1) dX8_as_0 rfl rfl ?_
  refine vr_getA (q := 4) dX8_as_1 rfl fX8_26 rfl ⟨by decide, by decide, rfl⟩ ?_
  refine vr_iload_n (q := 5) dX8_as_4 rfl rfl ?_
  refine vr_iv1 (q := 8) dX8_as_5 rfl vX8_135 (Nat.le_of_ble_eq_true rfl) ?_
  refine c_hasLie (fun c5 => ?_) (fun c5 => ?_)
  · refine vr_if_eq (t := 18) (q := 11) dX8_as_8 (by decide) rfl (fun c9 => absurd c9 (by omega)) (fun _ => ?_)
    refine vr_iload_n (q := 12) dX8_as_11 rfl rfl ?_
    refine vr_is1 (q := 15) dX8_as_12 rfl vX8_275 (Nat.le_of_ble_eq_true rfl) ?_
    refine c_isKind (fun c12 => ?_) (fun c12 => ?_)
    · refine vr_if_ne (t := 21) (q := 18) dX8_as_15 (by decide) rfl (fun _ => ?_) (fun c9 => absurd c9 (by omega))
      refine vr_aload_n (q := 22) dX8_as_21 rfl rfl ?_
      refine vr_getA (q := 25) dX8_as_22 rfl fX8_26 rfl ⟨by decide, by decide, rfl⟩ ?_
      refine vr_getR (q := 28) dX8_as_25 rfl fX8_272 rfl y_X7_4 (by first | (simp only [Int.reduceAdd]; rfl) | rfl) ?_
      refine vr_iload_n (q := 29) dX8_as_28 rfl rfl ?_
      refine vr_iald (q := 30) dX8_as_29 rfl ⟨by omega, by omega⟩ ?_
      refine vr_iload_n (q := 31) dX8_as_30 rfl rfl ?_
      refine vr_is2 (q := 34) dX8_as_31 rfl vX8_280 (Nat.le_of_ble_eq_true rfl) ?_
      refine c_isOne hX (hk l (by omega) (by omega)) ⟨by omega, by omega⟩ (fun c31 => ?_) (fun c31 => ?_)
      · refine vr_if_ne (t := 43) (q := 37) dX8_as_34 (by decide) rfl (fun _ => ?_) (fun c9 => absurd c9 (by omega))
        refine vr_aload_n (q := 44) dX8_as_43 rfl rfl ?_
        refine vr_iload_n (q := 45) dX8_as_44 rfl rfl ?_
        refine vr_iv1 (q := 48) dX8_as_45 rfl vX8_78 (Nat.le_of_ble_eq_true rfl) ?_
        refine c_unfound ?_
        refine vr_iret dX8_as_48 rfl ?_
        first | exact k1 (by omega) | exact k2 (by omega) (by assumption) | exact k3 (by omega) (by assumption)
      · refine vr_if_ne (t := 43) (q := 37) dX8_as_34 (by decide) rfl (fun c9 => absurd c9 (by omega)) (fun _ => ?_)
        refine vr_aload_n (q := 38) dX8_as_37 rfl rfl ?_
        refine vr_iconst (q := 39) dX8_as_38 rfl ⟨by decide, by decide⟩ ?_
        refine vr_iv1 (q := 42) dX8_as_39 rfl vX8_70 (Nat.le_of_ble_eq_true rfl) ?_
        refine c_found ⟨by decide, by decide⟩ ?_
        refine vr_iret dX8_as_42 rfl ?_
        first | exact k1 (by omega) | exact k2 (by omega) (by assumption) | exact k3 (by omega) (by assumption)
    · refine vr_if_ne (t := 21) (q := 18) dX8_as_15 (by decide) rfl (fun c9 => absurd c9 (by omega)) (fun _ => ?_)
      refine vr_ldc (x := -1000001) (q := 20) dX8_as_18 rfl ⟨by decide, by decide⟩ qX8_69 ?_
      refine vr_iret dX8_as_20 rfl ?_
      first | exact k1 (by omega) | exact k2 (by omega) (by assumption) | exact k3 (by omega) (by assumption)
  · refine vr_if_eq (t := 18) (q := 11) dX8_as_8 (by decide) rfl (fun _ => ?_) (fun c9 => absurd c9 (by omega))
    refine vr_ldc (x := -1000001) (q := 20) dX8_as_18 rfl ⟨by decide, by decide⟩ qX8_69 ?_
    refine vr_iret dX8_as_20 rfl ?_
    first | exact k1 (by omega) | exact k2 (by omega) (by assumption) | exact k3 (by omega) (by assumption)
theorem x_ask {l w : Int} (hX : sx_ g) (o : to_ h) (ht : 0 ≤ h 66 1 ∧ h 66 1 ≤ 16) (k1 : ¬ ((0 ≤ l ∧ l < h 7 2) ∧ (0 ≤ w ∧ w ≤ 1)) → Post (some (sv_i (-1000001))) h) (k2 : ((0 ≤ l ∧ l < h 7 2) ∧ (0 ≤ w ∧ w ≤ 1)) → Post (some (sv_i (if w = 0 then vs_ (hs_ h 66 1 0) l else vm_ (hs_ h 66 1 0) l))) (if w = 0 then zs_ (hs_ h 66 1 0) l else zm_ (hs_ h 66 1 0) l)) : Ctr_ g (d + 9) mX8_ask [sv_r 4 7 0, sv_i l, sv_i w] h Post := by
  have o1 := o.1
  refine V_mk (by decide +kernel) (Or.inr (Or.inl ⟨rfl, rfl⟩)) (Nat.le_of_ble_eq_true rfl) (by simp [sv_c]) ?_
  show V_ _ _ _ 0 [_, _, _] [] _ _
  refine vr_aload_n (q := 1) dX8_ask_0 rfl rfl ?_
  refine vr_getA (q := 4) dX8_ask_1 rfl fX8_26 rfl ⟨by decide, by decide, rfl⟩ ?_
  refine vr_iload_n (q := 5) dX8_ask_4 rfl rfl ?_
  refine vr_iv1 (q := 8) dX8_ask_5 rfl vX8_135 (Nat.le_of_ble_eq_true rfl) ?_
  refine c_hasLie (fun c5 => ?_) (fun c5 => ?_)
  · refine vr_if_eq (t := 20) (q := 11) dX8_ask_8 (by decide) rfl (fun c9 => absurd c9 (by omega)) (fun _ => ?_)
    refine vr_iload_n (q := 12) dX8_ask_11 rfl rfl ?_
    refine vr_if_lt (t := 20) (q := 15) dX8_ask_12 (by decide) rfl (fun c12 => ?_) (fun c12 => ?_)
    · refine vr_ldc (x := -1000001) (q := 22) dX8_ask_20 rfl ⟨by decide, by decide⟩ qX8_69 ?_
      refine vr_iret dX8_ask_22 rfl ?_
      first | exact k1 (by omega) | exact k2 ⟨⟨by omega, by omega⟩, by omega, by omega⟩
    · refine vr_iload_n (q := 16) dX8_ask_15 rfl rfl ?_
      refine vr_iconst (q := 17) dX8_ask_16 rfl ⟨by decide, by decide⟩ ?_
      refine vr_ic_le (t := 23) (q := 20) dX8_ask_17 (by decide) rfl (fun c17 => ?_) (fun c17 => ?_)
      · refine vr_aload_n (q := 24) dX8_ask_23 rfl rfl ?_
        refine vr_getA (q := 27) dX8_ask_24 rfl fX8_54 rfl ⟨by decide, by decide, rfl⟩ ?_
        refine vr_aload_n (q := 28) dX8_ask_27 rfl rfl ?_
        refine vr_getA (q := 31) dX8_ask_28 rfl fX8_26 rfl ⟨by decide, by decide, rfl⟩ ?_
        refine vr_iload_n (q := 32) dX8_ask_31 rfl rfl ?_
        refine vr_iload_n (q := 33) dX8_ask_32 rfl rfl ?_
        refine vr_iv3 (q := 36) dX8_ask_33 rfl vX8_283 (Nat.le_of_ble_eq_true rfl) ?_
        have hlo := o.2.2.2.1 l (by omega) (by omega)
        refine c_answer hX ⟨⟨by omega, by omega⟩, hlo.2.1, o.2.1, ht⟩ hlo.1 ?_
        refine vr_iret dX8_ask_36 rfl ?_
        first | exact k1 (by omega) | exact k2 ⟨⟨by omega, by omega⟩, by omega, by omega⟩
      · refine vr_ldc (x := -1000001) (q := 22) dX8_ask_20 rfl ⟨by decide, by decide⟩ qX8_69 ?_
        refine vr_iret dX8_ask_22 rfl ?_
        first | exact k1 (by omega) | exact k2 ⟨⟨by omega, by omega⟩, by omega, by omega⟩
  · refine vr_if_eq (t := 20) (q := 11) dX8_ask_8 (by decide) rfl (fun _ => ?_) (fun c9 => absurd c9 (by omega))
    refine vr_ldc (x := -1000001) (q := 22) dX8_ask_20 rfl ⟨by decide, by decide⟩ qX8_69 ?_
    refine vr_iret dX8_ask_22 rfl ?_
    first | exact k1 (by omega) | exact k2 ⟨⟨by omega, by omega⟩, by omega, by omega⟩
end PN1_
