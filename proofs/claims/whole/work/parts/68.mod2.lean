section PM2_
variable {g : SG_} {d : Nat} {h : SH_} {Post : Option SV_ → SH_ → Prop}
theorem lm_row {r lane n : Int} {h0 : SH_} (hr : 0 ≤ r ∧ r < 8) (kk : Post (some (sv_i n)) (hs_ (zf_ h0 71 (40 * r) 40) 68 4 0)) : ∀ (m i : Nat), i + m = 40 → V_ g (d + 2) mX9_row 52 [some (sv_r 4 8 68), some (sv_i r), some (sv_i lane), some (sv_i n), some (sv_i i)] [] (zf_ h0 71 (40 * r) i) Post := by
  intro m
  induction m with
  | zero =>
    intro i hi
    rw [show i = 40 by omega]
    refine vr_iload (q := 54) dX9_row_52 rfl rfl ?_
    refine vr_bipush (q := 56) dX9_row_54 rfl ⟨by decide, by decide⟩ (by decide) ?_
    -- at X9.row 56: .if_icmp .ge 22
    refine vr_ic_ge (t := 78) (q := 59) dX9_row_56 (by decide) rfl (fun _ => ?_) (fun c9 => absurd c9 (by omega))
    refine vr_aload_n (q := 79) dX9_row_78 rfl rfl ?_
    refine vr_iload_n (q := 80) dX9_row_79 rfl rfl ?_
    refine vr_iv1 (q := 83) dX9_row_80 rfl vX9_72 (Nat.le_of_ble_eq_true rfl) ?_
    refine m_well ?_
    refine vr_iret dX9_row_83 rfl ?_
    first | exact kk | (exfalso; omega) | (repeat (first | exact kk | rw [if_pos (by omega)] at kk | rw [if_neg (by omega)] at kk))
  | succ m ih =>
    intro i hi
    have k2 := ih (i + 1) (by omega)
    rw [show ((i + 1 : Nat) : Int) = (i : Int) + 1 by omega, ← zf_s _ _ _ (by omega)] at k2
    refine vr_iload (q := 54) dX9_row_52 rfl rfl ?_
    refine vr_bipush (q := 56) dX9_row_54 rfl ⟨by decide, by decide⟩ (by decide) ?_
    -- at X9.row 56: .if_icmp .ge 22
    refine vr_ic_ge (t := 78) (q := 59) dX9_row_56 (by decide) rfl (fun c9 => absurd c9 (by omega)) (fun _ => ?_)
    refine vr_aload_n (q := 60) dX9_row_59 rfl rfl ?_
    refine vr_getR (q := 63) dX9_row_60 rfl fX9_16 rfl y_X9_2 (by first | (simp only [Int.reduceAdd]; rfl) | rfl) ?_
    refine vr_bipush (q := 65) dX9_row_63 rfl ⟨by decide, by decide⟩ (by decide) ?_
    refine vr_iload_n (q := 66) dX9_row_65 rfl rfl ?_
    refine vr_imulN (q := 67) dX9_row_66 rfl ⟨by omega, by omega⟩ ?_
    refine vr_iload (q := 69) dX9_row_67 rfl rfl ?_
    refine vr_iaddN (q := 70) dX9_row_69 rfl ⟨by omega, by omega⟩ ?_
    refine vr_iconst (q := 71) dX9_row_70 rfl ⟨by decide, by decide⟩ ?_
    refine vr_iast (q := 72) dX9_row_71 rfl ⟨by omega, by omega⟩ ?_
    refine vr_iinc (q := 75) dX9_row_72 rfl rfl ⟨by omega, by omega⟩ (Nat.le_of_ble_eq_true rfl) rfl rfl ?_
    refine vr_goto (q := 52) dX9_row_75 (by decide) ?_
    -- at X9.row 52: .iload 4
    exact k2
theorem mx_row {r lane n : Int} (k1 : ¬ ((0 ≤ r ∧ r < 8) ∧ (0 ≤ lane ∧ lane ≤ 2) ∧ n ≤ 40) → Post (some (sv_i (-1000001))) h) (k2 : ((0 ≤ r ∧ r < 8) ∧ (0 ≤ lane ∧ lane ≤ 2) ∧ n ≤ 40) → n < 0 → Post (some (sv_i (-1000010 - 4))) (hs_ h 68 4 4)) (k3 : ((0 ≤ r ∧ r < 8) ∧ (0 ≤ lane ∧ lane ≤ 2) ∧ n ≤ 40) → ¬ n < 0 → Post (some (sv_i n)) (hs_ (zf_ (hs_ (hs_ h 69 r lane) 70 r n) 71 (40 * r) 40) 68 4 0)) : Ctr_ g (d + 2) mX9_row [sv_r 4 8 68, sv_i r, sv_i lane, sv_i n] h Post := by
  have r49 : ((0 ≤ r ∧ r < 8) ∧ (0 ≤ lane ∧ lane ≤ 2) ∧ n ≤ 40) → ¬ n < 0 → V_ g (d + 2) mX9_row 49 [some (sv_r 4 8 68), some (sv_i r), some (sv_i lane), some (sv_i n), none] [] (hs_ (hs_ h 69 r lane) 70 r n) Post := by
    intro c1 c2
    have kk := lm_row (g := g) (d := d) (lane := lane) c1.1 (k3 c1 c2) 40 0 rfl
    rw [show ((0 : Nat) : Int) = 0 from rfl, zf_0] at kk
    refine vr_iconst (q := 50) dX9_row_49 rfl ⟨by decide, by decide⟩ ?_
    refine vr_istore (q := 52) dX9_row_50 rfl (Nat.le_of_ble_eq_true rfl) rfl rfl ?_
    -- at X9.row 52: .iload 4
    exact kk
  refine V_mk (by decide +kernel) (Or.inr (Or.inl ⟨rfl, rfl⟩)) (Nat.le_of_ble_eq_true rfl) (by simp [sv_c]) ?_
  show V_ _ _ _ 0 [_, _, _, _, _] [] _ _
  refine vr_iload_n (q := 1) dX9_row_0 rfl rfl ?_
  refine vr_is1 (q := 4) dX9_row_1 rfl vX9_63 (Nat.le_of_ble_eq_true rfl) ?_
  refine m_isRow (fun c1 => ?_) (fun c1 => ?_)
  · refine vr_if_eq (t := 22) (q := 7) dX9_row_4 (by decide) rfl (fun c9 => absurd c9 (by omega)) (fun _ => ?_)
    refine vr_iload_n (q := 8) dX9_row_7 rfl rfl ?_
    refine vr_iconst (q := 9) dX9_row_8 rfl ⟨by decide, by decide⟩ ?_
    refine vr_iconst (q := 10) dX9_row_9 rfl ⟨by decide, by decide⟩ ?_
    refine vr_is3 (q := 13) dX9_row_10 rfl vX9_59 (Nat.le_of_ble_eq_true rfl) ?_
    refine m_in (fun c10 => ?_) (fun c10 => ?_)
    · refine vr_if_eq (t := 22) (q := 16) dX9_row_13 (by decide) rfl (fun c9 => absurd c9 (by omega)) (fun _ => ?_)
      refine vr_iload_n (q := 17) dX9_row_16 rfl rfl ?_
      refine vr_bipush (q := 19) dX9_row_17 rfl ⟨by decide, by decide⟩ (by decide) ?_
      refine vr_ic_le (t := 25) (q := 22) dX9_row_19 (by decide) rfl (fun c19 => ?_) (fun c19 => ?_)
      · refine vr_iload_n (q := 26) dX9_row_25 rfl rfl ?_
        refine vr_if_ge (t := 35) (q := 29) dX9_row_26 (by decide) rfl (fun c26 => ?_) (fun c26 => ?_)
        · refine vr_aload_n (q := 36) dX9_row_35 rfl rfl ?_
          refine vr_getR (q := 39) dX9_row_36 rfl fX9_7 rfl y_X9_0 (by first | (simp only [Int.reduceAdd]; rfl) | rfl) ?_
          refine vr_iload_n (q := 40) dX9_row_39 rfl rfl ?_
          refine vr_iload_n (q := 41) dX9_row_40 rfl rfl ?_
          refine vr_iast (q := 42) dX9_row_41 rfl ⟨by omega, by omega⟩ ?_
          refine vr_aload_n (q := 43) dX9_row_42 rfl rfl ?_
          refine vr_getR (q := 46) dX9_row_43 rfl fX9_13 rfl y_X9_1 (by first | (simp only [Int.reduceAdd]; rfl) | rfl) ?_
          refine vr_iload_n (q := 47) dX9_row_46 rfl rfl ?_
          refine vr_iload_n (q := 48) dX9_row_47 rfl rfl ?_
          refine vr_iast (q := 49) dX9_row_48 rfl ⟨by omega, by omega⟩ ?_
          exact r49 (by omega) (by omega)
        · refine vr_aload_n (q := 30) dX9_row_29 rfl rfl ?_
          refine vr_iconst (q := 31) dX9_row_30 rfl ⟨by decide, by decide⟩ ?_
          refine vr_iv1 (q := 34) dX9_row_31 rfl vX9_68 (Nat.le_of_ble_eq_true rfl) ?_
          refine m_found ⟨by decide, by decide⟩ ?_
          refine vr_iret dX9_row_34 rfl ?_
          first | exact k1 (by omega) | exact k2 (by omega) (by omega)
      · refine vr_ldc (x := -1000001) (q := 24) dX9_row_22 rfl ⟨by decide, by decide⟩ qX9_67 ?_
        refine vr_iret dX9_row_24 rfl ?_
        first | exact k1 (by omega) | exact k2 (by omega) (by omega)
    · refine vr_if_eq (t := 22) (q := 16) dX9_row_13 (by decide) rfl (fun _ => ?_) (fun c9 => absurd c9 (by omega))
      refine vr_ldc (x := -1000001) (q := 24) dX9_row_22 rfl ⟨by decide, by decide⟩ qX9_67 ?_
      refine vr_iret dX9_row_24 rfl ?_
      first | exact k1 (by omega) | exact k2 (by omega) (by omega)
  · refine vr_if_eq (t := 22) (q := 7) dX9_row_4 (by decide) rfl (fun _ => ?_) (fun c9 => absurd c9 (by omega))
    refine vr_ldc (x := -1000001) (q := 24) dX9_row_22 rfl ⟨by decide, by decide⟩ qX9_67 ?_
    refine vr_iret dX9_row_24 rfl ?_
    first | exact k1 (by omega) | exact k2 (by omega) (by omega)
theorem mx_set {r i v : Int} (hl : ∀ r, 0 ≤ r → r < 8 → 0 ≤ h 70 r ∧ h 70 r ≤ 40) (k1 : ¬ (0 ≤ r ∧ r < 8) → Post (some (sv_i (-1000001))) h) (k2 : (0 ≤ r ∧ r < 8) → h 69 r = -1000000 → Post (some (sv_i (-1000010 - 1))) (hs_ h 68 4 1)) (k3 : (0 ≤ r ∧ r < 8) → ¬ h 69 r = -1000000 → ¬ (0 ≤ i ∧ i < h 70 r) → Post (some (sv_i (-1000010 - 2))) (hs_ h 68 4 2)) (k4 : (0 ≤ r ∧ r < 8) → ¬ h 69 r = -1000000 → (0 ≤ i ∧ i < h 70 r) → Post (some (sv_i (cu_ (h 69 r) v))) (hs_ (hs_ h 71 (40 * r + i) (cu_ (h 69 r) v)) 68 4 0)) : Ctr_ g (d + 2) mX9_set [sv_r 4 8 68, sv_i r, sv_i i, sv_i v] h Post := by
  have hl2 := hl r
  refine V_mk (by decide +kernel) (Or.inr (Or.inl ⟨rfl, rfl⟩)) (Nat.le_of_ble_eq_true rfl) (by simp [sv_c]) ?_
  show V_ _ _ _ 0 [_, _, _, _] [] _ _
  refine vr_iload_n (q := 1) dX9_set_0 rfl rfl ?_
  refine vr_is1 (q := 4) dX9_set_1 rfl vX9_63 (Nat.le_of_ble_eq_true rfl) ?_
  refine m_isRow (fun c1 => ?_) (fun c1 => ?_)
  · refine vr_if_ne (t := 10) (q := 7) dX9_set_4 (by decide) rfl (fun _ => ?_) (fun c9 => absurd c9 (by omega))
    refine vr_aload_n (q := 11) dX9_set_10 rfl rfl ?_
    refine vr_iload_n (q := 12) dX9_set_11 rfl rfl ?_
    refine vr_iv1 (q := 15) dX9_set_12 rfl vX9_75 (Nat.le_of_ble_eq_true rfl) ?_
    refine m_isMissing ⟨by omega, by omega⟩ (fun c12 => ?_) (fun c12 => ?_)
    · refine vr_if_eq (t := 24) (q := 18) dX9_set_15 (by decide) rfl (fun c9 => absurd c9 (by omega)) (fun _ => ?_)
      refine vr_aload_n (q := 19) dX9_set_18 rfl rfl ?_
      refine vr_iconst (q := 20) dX9_set_19 rfl ⟨by decide, by decide⟩ ?_
      refine vr_iv1 (q := 23) dX9_set_20 rfl vX9_68 (Nat.le_of_ble_eq_true rfl) ?_
      refine m_found ⟨by decide, by decide⟩ ?_
      refine vr_iret dX9_set_23 rfl ?_
      first | exact k1 (by omega) | exact k2 (by omega) (by omega) | exact k3 (by omega) (by omega) (by omega) | exact k4 (by omega) (by omega) (by omega)
    · refine vr_if_eq (t := 24) (q := 18) dX9_set_15 (by decide) rfl (fun _ => ?_) (fun c9 => absurd c9 (by omega))
      refine vr_iload_n (q := 25) dX9_set_24 rfl rfl ?_
      refine vr_iconst (q := 26) dX9_set_25 rfl ⟨by decide, by decide⟩ ?_
      refine vr_aload_n (q := 27) dX9_set_26 rfl rfl ?_
      refine vr_getR (q := 30) dX9_set_27 rfl fX9_13 rfl y_X9_1 (by first | (simp only [Int.reduceAdd]; rfl) | rfl) ?_
      refine vr_iload_n (q := 31) dX9_set_30 rfl rfl ?_
      refine vr_iald (q := 32) dX9_set_31 rfl ⟨by omega, by omega⟩ ?_
      refine vr_iconst (q := 33) dX9_set_32 rfl ⟨by decide, by decide⟩ ?_
      refine vr_isubN (q := 34) dX9_set_33 rfl ⟨by omega, by omega⟩ ?_
      refine vr_is3 (q := 37) dX9_set_34 rfl vX9_59 (Nat.le_of_ble_eq_true rfl) ?_
      refine m_in (fun c34 => ?_) (fun c34 => ?_)
      · refine vr_if_ne (t := 46) (q := 40) dX9_set_37 (by decide) rfl (fun _ => ?_) (fun c9 => absurd c9 (by omega))
        refine vr_aload_n (q := 47) dX9_set_46 rfl rfl ?_
        refine vr_getR (q := 50) dX9_set_47 rfl fX9_16 rfl y_X9_2 (by first | (simp only [Int.reduceAdd]; rfl) | rfl) ?_
        refine vr_bipush (q := 52) dX9_set_50 rfl ⟨by decide, by decide⟩ (by decide) ?_
        refine vr_iload_n (q := 53) dX9_set_52 rfl rfl ?_
        refine vr_imulN (q := 54) dX9_set_53 rfl ⟨by omega, by omega⟩ ?_
        refine vr_iload_n (q := 55) dX9_set_54 rfl rfl ?_
        refine vr_iaddN (q := 56) dX9_set_55 rfl ⟨by omega, by omega⟩ ?_
        refine vr_aload_n (q := 57) dX9_set_56 rfl rfl ?_
        refine vr_getR (q := 60) dX9_set_57 rfl fX9_7 rfl y_X9_0 (by first | (simp only [Int.reduceAdd]; rfl) | rfl) ?_
        refine vr_iload_n (q := 61) dX9_set_60 rfl rfl ?_
        refine vr_iald (q := 62) dX9_set_61 rfl ⟨by omega, by omega⟩ ?_
        refine vr_iload_n (q := 63) dX9_set_62 rfl rfl ?_
        refine vr_is2 (q := 66) dX9_set_63 rfl vX9_78 (Nat.le_of_ble_eq_true rfl) ?_
        refine m_cut ?_
        refine vr_iast (q := 67) dX9_set_66 rfl ⟨by omega, by omega⟩ ?_
        refine vr_aload_n (q := 68) dX9_set_67 rfl rfl ?_
        refine vr_aload_n (q := 69) dX9_set_68 rfl rfl ?_
        refine vr_getR (q := 72) dX9_set_69 rfl fX9_16 rfl y_X9_2 (by first | (simp only [Int.reduceAdd]; rfl) | rfl) ?_
        refine vr_bipush (q := 74) dX9_set_72 rfl ⟨by decide, by decide⟩ (by decide) ?_
        refine vr_iload_n (q := 75) dX9_set_74 rfl rfl ?_
        refine vr_imulN (q := 76) dX9_set_75 rfl ⟨by omega, by omega⟩ ?_
        refine vr_iload_n (q := 77) dX9_set_76 rfl rfl ?_
        refine vr_iaddN (q := 78) dX9_set_77 rfl ⟨by omega, by omega⟩ ?_
        refine vr_ialdV (q := 79) dX9_set_78 rfl ⟨by omega, by omega⟩ (hs_e _ _ _ _) ?_
        refine vr_iv1 (q := 82) dX9_set_79 rfl vX9_72 (Nat.le_of_ble_eq_true rfl) ?_
        refine m_well ?_
        refine vr_iret dX9_set_82 rfl ?_
        first | exact k1 (by omega) | exact k2 (by omega) (by omega) | exact k3 (by omega) (by omega) (by omega) | exact k4 (by omega) (by omega) (by omega)
      · refine vr_if_ne (t := 46) (q := 40) dX9_set_37 (by decide) rfl (fun c9 => absurd c9 (by omega)) (fun _ => ?_)
        refine vr_aload_n (q := 41) dX9_set_40 rfl rfl ?_
        refine vr_iconst (q := 42) dX9_set_41 rfl ⟨by decide, by decide⟩ ?_
        refine vr_iv1 (q := 45) dX9_set_42 rfl vX9_68 (Nat.le_of_ble_eq_true rfl) ?_
        refine m_found ⟨by decide, by decide⟩ ?_
        refine vr_iret dX9_set_45 rfl ?_
        first | exact k1 (by omega) | exact k2 (by omega) (by omega) | exact k3 (by omega) (by omega) (by omega) | exact k4 (by omega) (by omega) (by omega)
  · refine vr_if_ne (t := 10) (q := 7) dX9_set_4 (by decide) rfl (fun c9 => absurd c9 (by omega)) (fun _ => ?_)
    refine vr_ldc (x := -1000001) (q := 9) dX9_set_7 rfl ⟨by decide, by decide⟩ qX9_67 ?_
    refine vr_iret dX9_set_9 rfl ?_
    first | exact k1 (by omega) | exact k2 (by omega) (by omega) | exact k3 (by omega) (by omega) (by omega) | exact k4 (by omega) (by omega) (by omega)
theorem mx_drop {r : Int} (k1 : ¬ (0 ≤ r ∧ r < 8) → Post (some (sv_i (-1000001))) h) (k2 : (0 ≤ r ∧ r < 8) → h 69 r = -1000000 → Post (some (sv_i (-1000010 - 1))) (hs_ h 68 4 1)) (k3 : (0 ≤ r ∧ r < 8) → ¬ h 69 r = -1000000 → Post (some (sv_i (h 70 r))) (hs_ (hs_ h 69 r (-1000000)) 68 4 0)) : Ctr_ g (d + 2) mX9_drop [sv_r 4 8 68, sv_i r] h Post := by
  refine V_mk (by decide +kernel) (Or.inr (Or.inl ⟨rfl, rfl⟩)) (Nat.le_of_ble_eq_true rfl) (by simp [sv_c]) ?_
  show V_ _ _ _ 0 [_, _] [] _ _
  refine vr_iload_n (q := 1) dX9_drop_0 rfl rfl ?_
  refine vr_is1 (q := 4) dX9_drop_1 rfl vX9_63 (Nat.le_of_ble_eq_true rfl) ?_
  refine m_isRow (fun c1 => ?_) (fun c1 => ?_)
  · refine vr_if_ne (t := 10) (q := 7) dX9_drop_4 (by decide) rfl (fun _ => ?_) (fun c9 => absurd c9 (by omega))
    refine vr_aload_n (q := 11) dX9_drop_10 rfl rfl ?_
    refine vr_iload_n (q := 12) dX9_drop_11 rfl rfl ?_
    refine vr_iv1 (q := 15) dX9_drop_12 rfl vX9_75 (Nat.le_of_ble_eq_true rfl) ?_
    refine m_isMissing ⟨by omega, by omega⟩ (fun c12 => ?_) (fun c12 => ?_)
    · refine vr_if_eq (t := 24) (q := 18) dX9_drop_15 (by decide) rfl (fun c9 => absurd c9 (by omega)) (fun _ => ?_)
      refine vr_aload_n (q := 19) dX9_drop_18 rfl rfl ?_
      refine vr_iconst (q := 20) dX9_drop_19 rfl ⟨by decide, by decide⟩ ?_
      refine vr_iv1 (q := 23) dX9_drop_20 rfl vX9_68 (Nat.le_of_ble_eq_true rfl) ?_
      refine m_found ⟨by decide, by decide⟩ ?_
      refine vr_iret dX9_drop_23 rfl ?_
      first | exact k1 (by omega) | exact k2 (by omega) (by omega) | exact k3 (by omega) (by omega)
    · refine vr_if_eq (t := 24) (q := 18) dX9_drop_15 (by decide) rfl (fun _ => ?_) (fun c9 => absurd c9 (by omega))
      refine vr_aload_n (q := 25) dX9_drop_24 rfl rfl ?_
      refine vr_getR (q := 28) dX9_drop_25 rfl fX9_7 rfl y_X9_0 (by first | (simp only [Int.reduceAdd]; rfl) | rfl) ?_
      refine vr_iload_n (q := 29) dX9_drop_28 rfl rfl ?_
      refine vr_ldc (x := -1000000) (q := 31) dX9_drop_29 rfl ⟨by decide, by decide⟩ qX9_53 ?_
      refine vr_iast (q := 32) dX9_drop_31 rfl ⟨by omega, by omega⟩ ?_
      refine vr_aload_n (q := 33) dX9_drop_32 rfl rfl ?_
      refine vr_aload_n (q := 34) dX9_drop_33 rfl rfl ?_
      refine vr_getR (q := 37) dX9_drop_34 rfl fX9_13 rfl y_X9_1 (by first | (simp only [Int.reduceAdd]; rfl) | rfl) ?_
      refine vr_iload_n (q := 38) dX9_drop_37 rfl rfl ?_
      refine vr_ialdV (q := 39) dX9_drop_38 rfl ⟨by omega, by omega⟩ (by rw [hs_k (by decide)]) ?_
      refine vr_iv1 (q := 42) dX9_drop_39 rfl vX9_72 (Nat.le_of_ble_eq_true rfl) ?_
      refine m_well ?_
      refine vr_iret dX9_drop_42 rfl ?_
      first | exact k1 (by omega) | exact k2 (by omega) (by omega) | exact k3 (by omega) (by omega)
  · refine vr_if_ne (t := 10) (q := 7) dX9_drop_4 (by decide) rfl (fun c9 => absurd c9 (by omega)) (fun _ => ?_)
    refine vr_ldc (x := -1000001) (q := 9) dX9_drop_7 rfl ⟨by decide, by decide⟩ qX9_67 ?_
    refine vr_iret dX9_drop_9 rfl ?_
    first | exact k1 (by omega) | exact k2 (by omega) (by omega) | exact k3 (by omega) (by omega)
theorem mx_feed {b : Int} (ht : 0 ≤ h 68 6 ∧ h 68 6 ≤ 120) (k1 : ¬ (0 ≤ b ∧ b ≤ 255) → Post (some (sv_i (-1000001))) h) (k2 : (0 ≤ b ∧ b ≤ 255) → h 68 6 = 120 → Post (some (sv_i (-1000003))) h) (k3 : (0 ≤ b ∧ b ≤ 255) → ¬ h 68 6 = 120 → Post (some (sv_i (h 68 6 + 1))) (hs_ (hs_ h 73 (h 68 6) b) 68 6 (h 68 6 + 1))) : Ctr_ g (d + 1) mX9_feed [sv_r 4 8 68, sv_i b] h Post := by
  refine V_mk (by decide +kernel) (Or.inr (Or.inl ⟨rfl, rfl⟩)) (Nat.le_of_ble_eq_true rfl) (by simp [sv_c]) ?_
  show V_ _ _ _ 0 [_, _] [] _ _
  refine vr_iload_n (q := 1) dX9_feed_0 rfl rfl ?_
  refine vr_iconst (q := 2) dX9_feed_1 rfl ⟨by decide, by decide⟩ ?_
  refine vr_sipush (q := 5) dX9_feed_2 rfl ⟨by decide, by decide⟩ (by decide) ?_
  refine vr_is3 (q := 8) dX9_feed_5 rfl vX9_59 (Nat.le_of_ble_eq_true rfl) ?_
  refine m_in (fun c5 => ?_) (fun c5 => ?_)
  · refine vr_if_ne (t := 14) (q := 11) dX9_feed_8 (by decide) rfl (fun _ => ?_) (fun c9 => absurd c9 (by omega))
    refine vr_aload_n (q := 15) dX9_feed_14 rfl rfl ?_
    refine vr_getI (ji := 6) (q := 18) dX9_feed_15 rfl fX9_85 rfl rfl ?_
    refine vr_bipush (q := 20) dX9_feed_18 rfl ⟨by decide, by decide⟩ (by decide) ?_
    refine vr_ic_ne (t := 26) (q := 23) dX9_feed_20 (by decide) rfl (fun c20 => ?_) (fun c20 => ?_)
    · refine vr_aload_n (q := 27) dX9_feed_26 rfl rfl ?_
      refine vr_getR (q := 30) dX9_feed_27 rfl fX9_22 rfl y_X9_5 (by first | (simp only [Int.reduceAdd]; rfl) | rfl) ?_
      refine vr_aload_n (q := 31) dX9_feed_30 rfl rfl ?_
      refine vr_getI (ji := 6) (q := 34) dX9_feed_31 rfl fX9_85 rfl rfl ?_
      refine vr_iload_n (q := 35) dX9_feed_34 rfl rfl ?_
      refine vr_iast (q := 36) dX9_feed_35 rfl ⟨by omega, by omega⟩ ?_
      refine vr_aload_n (q := 37) dX9_feed_36 rfl rfl ?_
      refine vr_dup (q := 38) dX9_feed_37 rfl rfl ?_
      refine vr_getV (ji := 6) (q := 41) dX9_feed_38 rfl fX9_85 rfl rfl (show _ = h 68 6 by rw [hs_k (by decide)]) ?_
      refine vr_iconst (q := 42) dX9_feed_41 rfl ⟨by decide, by decide⟩ ?_
      refine vr_iaddN (q := 43) dX9_feed_42 rfl ⟨by omega, by omega⟩ ?_
      refine vr_put (ji := 6) (q := 46) dX9_feed_43 rfl pX9_85 rfl rfl ?_
      refine vr_aload_n (q := 47) dX9_feed_46 rfl rfl ?_
      refine vr_getV (ji := 6) (q := 50) dX9_feed_47 rfl fX9_85 rfl rfl (hs_e _ _ _ _) ?_
      refine vr_iret dX9_feed_50 rfl ?_
      first | exact k1 (by omega) | exact k2 (by omega) (by omega) | exact k3 (by omega) (by omega)
    · refine vr_ldc (x := -1000003) (q := 25) dX9_feed_23 rfl ⟨by decide, by decide⟩ qX9_88 ?_
      refine vr_iret dX9_feed_25 rfl ?_
      first | exact k1 (by omega) | exact k2 (by omega) (by omega) | exact k3 (by omega) (by omega)
  · refine vr_if_ne (t := 14) (q := 11) dX9_feed_8 (by decide) rfl (fun c9 => absurd c9 (by omega)) (fun _ => ?_)
    refine vr_ldc (x := -1000001) (q := 13) dX9_feed_11 rfl ⟨by decide, by decide⟩ qX9_67 ?_
    refine vr_iret dX9_feed_13 rfl ?_
    first | exact k1 (by omega) | exact k2 (by omega) (by omega) | exact k3 (by omega) (by omega)
theorem mx_fault (kk : Post (some (sv_i (h 68 7))) h) : Ctr_ g d mX9_fault [sv_r 4 8 68] h Post := by
  refine V_mk (by decide +kernel) (Or.inr (Or.inl ⟨rfl, rfl⟩)) (Nat.le_of_ble_eq_true rfl) (by simp [sv_c]) ?_
  show V_ _ _ _ 0 [_] [] _ _
  refine vr_aload_n (q := 1) dX9_fault_0 rfl rfl ?_
  refine vr_getI (ji := 7) (q := 4) dX9_fault_1 rfl fX9_111 rfl rfl ?_
  refine vr_iret dX9_fault_4 rfl ?_
  first | exact kk | (exfalso; omega) | (repeat (first | exact kk | rw [if_pos (by omega)] at kk | rw [if_neg (by omega)] at kk))
theorem mx_status (kk : Post (some (sv_i (h 68 4))) h) : Ctr_ g d mX9_status [sv_r 4 8 68] h Post := by
  refine V_mk (by decide +kernel) (Or.inr (Or.inl ⟨rfl, rfl⟩)) (Nat.le_of_ble_eq_true rfl) (by simp [sv_c]) ?_
  show V_ _ _ _ 0 [_] [] _ _
  refine vr_aload_n (q := 1) dX9_status_0 rfl rfl ?_
  refine vr_getI (ji := 4) (q := 4) dX9_status_1 rfl fX9_54 rfl rfl ?_
  refine vr_iret dX9_status_4 rfl ?_
  first | exact kk | (exfalso; omega) | (repeat (first | exact kk | rw [if_pos (by omega)] at kk | rw [if_neg (by omega)] at kk))
theorem m_isTown (kt : 0 < h 74 0 → Post (some (sv_i 1)) h) (kf : ¬ 0 < h 74 0 → Post (some (sv_i 0)) h) : Ctr_ g d mX9_isTown [sv_r 4 8 68] h Post := by
  refine V_mk (by decide +kernel) (Or.inr (Or.inr (Or.inl ⟨rfl, rfl⟩))) (Nat.le_of_ble_eq_true rfl) (by simp [sv_c]) ?_
  show V_ _ _ _ 0 [_] [] _ _
  refine vr_aload_n (q := 1) dX9_isTown_0 rfl rfl ?_
  refine vr_getR (q := 4) dX9_isTown_1 rfl fX9_25 rfl y_X9_13 (by first | (simp only [Int.reduceAdd]; rfl) | rfl) ?_
  refine vr_iconst (q := 5) dX9_isTown_4 rfl ⟨by decide, by decide⟩ ?_
  refine vr_iald (q := 6) dX9_isTown_5 rfl ⟨by omega, by omega⟩ ?_
  refine vr_if_le (t := 13) (q := 9) dX9_isTown_6 (by decide) rfl (fun c6 => ?_) (fun c6 => ?_)
  · refine vr_iconst (q := 14) dX9_isTown_13 rfl ⟨by decide, by decide⟩ ?_
    refine vr_zret dX9_isTown_14 rfl ?_ ?_
    · first | exact Or.inl rfl | exact Or.inr rfl | assumption
    · first | exact kt (by omega) | exact kf (by omega)
  · refine vr_iconst (q := 10) dX9_isTown_9 rfl ⟨by decide, by decide⟩ ?_
    refine vr_goto (q := 14) dX9_isTown_10 (by decide) ?_
    refine vr_zret dX9_isTown_14 rfl ?_ ?_
    · first | exact Or.inl rfl | exact Or.inr rfl | assumption
    · first | exact kt (by omega) | exact kf (by omega)
theorem m_isLie {l : Int} (hl : 0 ≤ h 74 2 ∧ h 74 2 ≤ 6) (kt : (0 ≤ l ∧ l < h 74 2) → Post (some (sv_i 1)) h) (kf : ¬ (0 ≤ l ∧ l < h 74 2) → Post (some (sv_i 0)) h) : Ctr_ g (d + 1) mX9_isLie [sv_r 4 8 68, sv_i l] h Post := by
  refine V_mk (by decide +kernel) (Or.inr (Or.inr (Or.inl ⟨rfl, rfl⟩))) (Nat.le_of_ble_eq_true rfl) (by simp [sv_c]) ?_
  show V_ _ _ _ 0 [_, _] [] _ _
  refine vr_iload_n (q := 1) dX9_isLie_0 rfl rfl ?_
  refine vr_iconst (q := 2) dX9_isLie_1 rfl ⟨by decide, by decide⟩ ?_
  refine vr_aload_n (q := 3) dX9_isLie_2 rfl rfl ?_
  refine vr_getR (q := 6) dX9_isLie_3 rfl fX9_25 rfl y_X9_13 (by first | (simp only [Int.reduceAdd]; rfl) | rfl) ?_
  refine vr_iconst (q := 7) dX9_isLie_6 rfl ⟨by decide, by decide⟩ ?_
  refine vr_iald (q := 8) dX9_isLie_7 rfl ⟨by omega, by omega⟩ ?_
  refine vr_iconst (q := 9) dX9_isLie_8 rfl ⟨by decide, by decide⟩ ?_
  refine vr_isubN (q := 10) dX9_isLie_9 rfl ⟨by omega, by omega⟩ ?_
  refine vr_is3 (q := 13) dX9_isLie_10 rfl vX9_59 (Nat.le_of_ble_eq_true rfl) ?_
  refine m_in (fun c10 => ?_) (fun c10 => ?_)
  · refine vr_zret dX9_isLie_13 rfl ?_ ?_
    · first | exact Or.inl rfl | exact Or.inr rfl | assumption
    · first | exact kt (by omega) | exact kf (by omega)
  · refine vr_zret dX9_isLie_13 rfl ?_ ?_
    · first | exact Or.inl rfl | exact Or.inr rfl | assumption
    · first | exact kt (by omega) | exact kf (by omega)
theorem m_isStranger {s : Int} (hs : 0 ≤ h 74 3 ∧ h 74 3 ≤ 4) (kt : (0 ≤ s ∧ s < h 74 3) → Post (some (sv_i 1)) h) (kf : ¬ (0 ≤ s ∧ s < h 74 3) → Post (some (sv_i 0)) h) : Ctr_ g (d + 1) mX9_isStranger [sv_r 4 8 68, sv_i s] h Post := by
  refine V_mk (by decide +kernel) (Or.inr (Or.inr (Or.inl ⟨rfl, rfl⟩))) (Nat.le_of_ble_eq_true rfl) (by simp [sv_c]) ?_
  show V_ _ _ _ 0 [_, _] [] _ _
  refine vr_iload_n (q := 1) dX9_isStranger_0 rfl rfl ?_
  refine vr_iconst (q := 2) dX9_isStranger_1 rfl ⟨by decide, by decide⟩ ?_
  refine vr_aload_n (q := 3) dX9_isStranger_2 rfl rfl ?_
  refine vr_getR (q := 6) dX9_isStranger_3 rfl fX9_25 rfl y_X9_13 (by first | (simp only [Int.reduceAdd]; rfl) | rfl) ?_
  refine vr_iconst (q := 7) dX9_isStranger_6 rfl ⟨by decide, by decide⟩ ?_
  refine vr_iald (q := 8) dX9_isStranger_7 rfl ⟨by omega, by omega⟩ ?_
  refine vr_iconst (q := 9) dX9_isStranger_8 rfl ⟨by decide, by decide⟩ ?_
  refine vr_isubN (q := 10) dX9_isStranger_9 rfl ⟨by omega, by omega⟩ ?_
  refine vr_is3 (q := 13) dX9_isStranger_10 rfl vX9_59 (Nat.le_of_ble_eq_true rfl) ?_
  refine m_in (fun c10 => ?_) (fun c10 => ?_)
  · refine vr_zret dX9_isStranger_13 rfl ?_ ?_
    · first | exact Or.inl rfl | exact Or.inr rfl | assumption
    · first | exact kt (by omega) | exact kf (by omega)
  · refine vr_zret dX9_isStranger_13 rfl ?_ ?_
    · first | exact Or.inl rfl | exact Or.inr rfl | assumption
    · first | exact kt (by omega) | exact kf (by omega)
theorem m_wasTold {s l : Int} (hs : 0 ≤ s ∧ s < 4) (kt : ¬ bt_ (h 74 (22 + 4 * s + 2)) l = 0 → Post (some (sv_i 1)) h) (kf : bt_ (h 74 (22 + 4 * s + 2)) l = 0 → Post (some (sv_i 0)) h) : Ctr_ g (d + 1) mX9_wasTold [sv_r 4 8 68, sv_i s, sv_i l] h Post := by
  refine V_mk (by decide +kernel) (Or.inr (Or.inr (Or.inl ⟨rfl, rfl⟩))) (Nat.le_of_ble_eq_true rfl) (by simp [sv_c]) ?_
  show V_ _ _ _ 0 [_, _, _] [] _ _
  refine vr_aload_n (q := 1) dX9_wasTold_0 rfl rfl ?_
  refine vr_getR (q := 4) dX9_wasTold_1 rfl fX9_25 rfl y_X9_13 (by first | (simp only [Int.reduceAdd]; rfl) | rfl) ?_
  refine vr_bipush (q := 6) dX9_wasTold_4 rfl ⟨by decide, by decide⟩ (by decide) ?_
  refine vr_iconst (q := 7) dX9_wasTold_6 rfl ⟨by decide, by decide⟩ ?_
  refine vr_iload_n (q := 8) dX9_wasTold_7 rfl rfl ?_
  refine vr_imulN (q := 9) dX9_wasTold_8 rfl ⟨by omega, by omega⟩ ?_
  refine vr_iaddN (q := 10) dX9_wasTold_9 rfl ⟨by omega, by omega⟩ ?_
  refine vr_iconst (q := 11) dX9_wasTold_10 rfl ⟨by decide, by decide⟩ ?_
  refine vr_iaddN (q := 12) dX9_wasTold_11 rfl ⟨by omega, by omega⟩ ?_
  refine vr_iald (q := 13) dX9_wasTold_12 rfl ⟨by omega, by omega⟩ ?_
  refine vr_iload_n (q := 14) dX9_wasTold_13 rfl rfl ?_
  refine vr_is2 (q := 17) dX9_wasTold_14 rfl vX9_156 (Nat.le_of_ble_eq_true rfl) ?_
  refine m_has (fun c14 => ?_) (fun c14 => ?_)
  · refine vr_zret dX9_wasTold_17 rfl ?_ ?_
    · first | exact Or.inl rfl | exact Or.inr rfl | assumption
    · first | exact kt c14 | exact kf c14
  · refine vr_zret dX9_wasTold_17 rfl ?_ ?_
    · first | exact Or.inl rfl | exact Or.inr rfl | assumption
    · first | exact kt c14 | exact kf c14
theorem lm_copy2 {a i b j n : Int} {h0 : SH_} (hb : 0 ≤ b ∧ b < 8) (hj : 0 ≤ j ∧ 0 ≤ n ∧ j + n ≤ 40) (kk : Post (some (sv_i n)) (hs_ (hc_ h0 72 0 71 (40 * b + j) n) 68 4 0)) : ∀ (m k : Nat), (k : Int) + m = n → V_ g (d + 2) mX9_copy 129 [some (sv_r 4 8 68), some (sv_i a), some (sv_i i), some (sv_i b), some (sv_i j), some (sv_i n), some (sv_i k)] [] (hc_ h0 72 0 71 (40 * b + j) k) Post := by
  intro m
  induction m with
  | zero =>
    intro k hk
    rw [show n = k by omega] at kk ⊢
    refine vr_iload (q := 131) dX9_copy_129 rfl rfl ?_
    refine vr_iload (q := 133) dX9_copy_131 rfl rfl ?_
    -- at X9.copy 133: .if_icmp .ge 31
    refine vr_ic_ge (t := 164) (q := 136) dX9_copy_133 (by decide) rfl (fun _ => ?_) (fun c9 => absurd c9 (by omega))
    refine vr_aload_n (q := 165) dX9_copy_164 rfl rfl ?_
    refine vr_iload (q := 167) dX9_copy_165 rfl rfl ?_
    refine vr_iv1 (q := 170) dX9_copy_167 rfl vX9_72 (Nat.le_of_ble_eq_true rfl) ?_
    refine m_well ?_
    refine vr_iret dX9_copy_170 rfl ?_
    first | exact kk | (exfalso; omega) | (repeat (first | exact kk | rw [if_pos (by omega)] at kk | rw [if_neg (by omega)] at kk))
  | succ m ih =>
    intro k hk
    have k2 := ih (k + 1) (by omega)
    rw [show ((k + 1 : Nat) : Int) = (k : Int) + 1 by omega, ← hc_s _ (by decide) (by omega)] at k2
    refine vr_iload (q := 131) dX9_copy_129 rfl rfl ?_
    refine vr_iload (q := 133) dX9_copy_131 rfl rfl ?_
    -- at X9.copy 133: .if_icmp .ge 31
    refine vr_ic_ge (t := 164) (q := 136) dX9_copy_133 (by decide) rfl (fun c9 => absurd c9 (by omega)) (fun _ => ?_)
    refine vr_aload_n (q := 137) dX9_copy_136 rfl rfl ?_
    refine vr_getR (q := 140) dX9_copy_137 rfl fX9_16 rfl y_X9_2 (by first | (simp only [Int.reduceAdd]; rfl) | rfl) ?_
    refine vr_bipush (q := 142) dX9_copy_140 rfl ⟨by decide, by decide⟩ (by decide) ?_
    refine vr_iload_n (q := 143) dX9_copy_142 rfl rfl ?_
    refine vr_imulN (q := 144) dX9_copy_143 rfl ⟨by omega, by omega⟩ ?_
    refine vr_iload (q := 146) dX9_copy_144 rfl rfl ?_
    refine vr_iaddN (q := 147) dX9_copy_146 rfl ⟨by omega, by omega⟩ ?_
    refine vr_iload (q := 149) dX9_copy_147 rfl rfl ?_
    refine vr_iaddN (q := 150) dX9_copy_149 rfl ⟨by omega, by omega⟩ ?_
    refine vr_aload_n (q := 151) dX9_copy_150 rfl rfl ?_
    refine vr_getR (q := 154) dX9_copy_151 rfl fX9_19 rfl y_X9_3 (by first | (simp only [Int.reduceAdd]; rfl) | rfl) ?_
    refine vr_iload (q := 156) dX9_copy_154 rfl rfl ?_
    refine vr_ialdV (q := 157) dX9_copy_156 rfl ⟨by omega, by omega⟩ (show _ = hc_ h0 72 0 71 (40 * b + j) k 72 (0 + k) by rw [Int.zero_add]) ?_
    refine vr_iast (q := 158) dX9_copy_157 rfl ⟨by omega, by omega⟩ ?_
    refine vr_iinc (q := 161) dX9_copy_158 rfl rfl ⟨by omega, by omega⟩ (Nat.le_of_ble_eq_true rfl) rfl rfl ?_
    refine vr_goto (q := 129) dX9_copy_161 (by decide) ?_
    -- at X9.copy 129: .iload 6
    exact k2
theorem lm_copy1 {a i b j n : Int} {h0 : SH_} (ha : 0 ≤ a ∧ a < 8) (hb : 0 ≤ b ∧ b < 8) (hi : 0 ≤ i ∧ 0 ≤ n ∧ i + n ≤ 40) (hj : 0 ≤ j ∧ 0 ≤ n ∧ j + n ≤ 40) (kk : Post (some (sv_i n)) (hs_ (hc_ (hc_ h0 71 (40 * a + i) 72 0 n) 72 0 71 (40 * b + j) n) 68 4 0)) : ∀ (m k : Nat), (k : Int) + m = n → V_ g (d + 2) mX9_copy 92 [some (sv_r 4 8 68), some (sv_i a), some (sv_i i), some (sv_i b), some (sv_i j), some (sv_i n), some (sv_i k)] [] (hc_ h0 71 (40 * a + i) 72 0 k) Post := by
  intro m
  induction m with
  | zero =>
    intro k hk
    have k2 := lm_copy2 (g := g) (d := d) (a := a) (i := i) hb hj kk n.toNat 0 (by omega)
    rw [show ((0 : Nat) : Int) = 0 from rfl, hc_0, show hc_ h0 71 (40 * a + i) 72 0 n = hc_ h0 71 (40 * a + i) 72 0 k by rw [show n = k by omega]] at k2
    refine vr_iload (q := 94) dX9_copy_92 rfl rfl ?_
    refine vr_iload (q := 96) dX9_copy_94 rfl rfl ?_
    -- at X9.copy 96: .if_icmp .ge 30
    refine vr_ic_ge (t := 126) (q := 99) dX9_copy_96 (by decide) rfl (fun _ => ?_) (fun c9 => absurd c9 (by omega))
    refine vr_iconst (q := 127) dX9_copy_126 rfl ⟨by decide, by decide⟩ ?_
    refine vr_istore (q := 129) dX9_copy_127 rfl (Nat.le_of_ble_eq_true rfl) rfl rfl ?_
    -- at X9.copy 129: .iload 6
    exact k2
  | succ m ih =>
    intro k hk
    have k2 := ih (k + 1) (by omega)
    rw [show ((k + 1 : Nat) : Int) = (k : Int) + 1 by omega, ← hc_s _ (by decide) (by omega), Int.zero_add] at k2
    refine vr_iload (q := 94) dX9_copy_92 rfl rfl ?_
    refine vr_iload (q := 96) dX9_copy_94 rfl rfl ?_
    -- at X9.copy 96: .if_icmp .ge 30
    refine vr_ic_ge (t := 126) (q := 99) dX9_copy_96 (by decide) rfl (fun c9 => absurd c9 (by omega)) (fun _ => ?_)
    refine vr_aload_n (q := 100) dX9_copy_99 rfl rfl ?_
    refine vr_getR (q := 103) dX9_copy_100 rfl fX9_19 rfl y_X9_3 (by first | (simp only [Int.reduceAdd]; rfl) | rfl) ?_
    refine vr_iload (q := 105) dX9_copy_103 rfl rfl ?_
    refine vr_aload_n (q := 106) dX9_copy_105 rfl rfl ?_
    refine vr_getR (q := 109) dX9_copy_106 rfl fX9_16 rfl y_X9_2 (by first | (simp only [Int.reduceAdd]; rfl) | rfl) ?_
    refine vr_bipush (q := 111) dX9_copy_109 rfl ⟨by decide, by decide⟩ (by decide) ?_
    refine vr_iload_n (q := 112) dX9_copy_111 rfl rfl ?_
    refine vr_imulN (q := 113) dX9_copy_112 rfl ⟨by omega, by omega⟩ ?_
    refine vr_iload_n (q := 114) dX9_copy_113 rfl rfl ?_
    refine vr_iaddN (q := 115) dX9_copy_114 rfl ⟨by omega, by omega⟩ ?_
    refine vr_iload (q := 117) dX9_copy_115 rfl rfl ?_
    refine vr_iaddN (q := 118) dX9_copy_117 rfl ⟨by omega, by omega⟩ ?_
    refine vr_iald (q := 119) dX9_copy_118 rfl ⟨by omega, by omega⟩ ?_
    refine vr_iast (q := 120) dX9_copy_119 rfl ⟨by omega, by omega⟩ ?_
    refine vr_iinc (q := 123) dX9_copy_120 rfl rfl ⟨by omega, by omega⟩ (Nat.le_of_ble_eq_true rfl) rfl rfl ?_
    refine vr_goto (q := 92) dX9_copy_123 (by decide) ?_
    -- at X9.copy 92: .iload 6
    exact k2
theorem mx_copy {a i b j n : Int} (hl : ∀ r, 0 ≤ r → r < 8 → 0 ≤ h 70 r ∧ h 70 r ≤ 40) (k1 : ¬ ((0 ≤ a ∧ a < 8) ∧ (0 ≤ b ∧ b < 8)) → Post (some (sv_i (-1000001))) h) (k2 : ((0 ≤ a ∧ a < 8) ∧ (0 ≤ b ∧ b < 8)) → (h 69 a = -1000000 ∨ h 69 b = -1000000) → Post (some (sv_i (-1000010 - 1))) (hs_ h 68 4 1)) (k3 : ((0 ≤ a ∧ a < 8) ∧ (0 ≤ b ∧ b < 8)) → ¬ (h 69 a = -1000000 ∨ h 69 b = -1000000) → ¬ h 69 a = h 69 b → Post (some (sv_i (-1000010 - 5))) (hs_ h 68 4 5)) (k4 : ((0 ≤ a ∧ a < 8) ∧ (0 ≤ b ∧ b < 8)) → ¬ (h 69 a = -1000000 ∨ h 69 b = -1000000) → h 69 a = h 69 b → ¬ ((0 ≤ i ∧ 0 ≤ n ∧ i ≤ h 70 a - n) ∧ (0 ≤ j ∧ 0 ≤ n ∧ j ≤ h 70 b - n)) → Post (some (sv_i (-1000010 - 2))) (hs_ h 68 4 2)) (k5 : ((0 ≤ a ∧ a < 8) ∧ (0 ≤ b ∧ b < 8)) → ¬ (h 69 a = -1000000 ∨ h 69 b = -1000000) → h 69 a = h 69 b → ((0 ≤ i ∧ 0 ≤ n ∧ i ≤ h 70 a - n) ∧ (0 ≤ j ∧ 0 ≤ n ∧ j ≤ h 70 b - n)) → Post (some (sv_i n)) (hs_ (hc_ (hc_ h 71 (40 * a + i) 72 0 n) 72 0 71 (40 * b + j) n) 68 4 0)) : Ctr_ g (d + 2) mX9_copy [sv_r 4 8 68, sv_i a, sv_i i, sv_i b, sv_i j, sv_i n] h Post := by
  have la := hl a
  have lb := hl b
  have r89 : ((0 ≤ a ∧ a < 8) ∧ (0 ≤ b ∧ b < 8)) → ¬ (h 69 a = -1000000 ∨ h 69 b = -1000000) → h 69 a = h 69 b → ((0 ≤ i ∧ 0 ≤ n ∧ i ≤ h 70 a - n) ∧ (0 ≤ j ∧ 0 ≤ n ∧ j ≤ h 70 b - n)) → V_ g (d + 2) mX9_copy 89 [some (sv_r 4 8 68), some (sv_i a), some (sv_i i), some (sv_i b), some (sv_i j), some (sv_i n), none] [] h Post := by
    intro c1 c2 c3 c4
    have kk := lm_copy1 (g := g) (d := d) c1.1 c1.2 ⟨by omega, by omega, by omega⟩ ⟨by omega, by omega, by omega⟩ (k5 c1 c2 c3 c4) n.toNat 0 (by omega)
    rw [show ((0 : Nat) : Int) = 0 from rfl, hc_0] at kk
    refine vr_iconst (q := 90) dX9_copy_89 rfl ⟨by decide, by decide⟩ ?_
    refine vr_istore (q := 92) dX9_copy_90 rfl (Nat.le_of_ble_eq_true rfl) rfl rfl ?_
    -- at X9.copy 92: .iload 6
    exact kk
  refine V_mk (by decide +kernel) (Or.inr (Or.inl ⟨rfl, rfl⟩)) (Nat.le_of_ble_eq_true rfl) (by simp [sv_c]) ?_
  show V_ _ _ _ 0 [_, _, _, _, _, _, _] [] _ _
  refine vr_iload_n (q := 1) dX9_copy_0 rfl rfl ?_
  refine vr_is1 (q := 4) dX9_copy_1 rfl vX9_63 (Nat.le_of_ble_eq_true rfl) ?_
  refine m_isRow (fun c1 => ?_) (fun c1 => ?_)
  · refine vr_if_eq (t := 14) (q := 7) dX9_copy_4 (by decide) rfl (fun c9 => absurd c9 (by omega)) (fun _ => ?_)
    refine vr_iload_n (q := 8) dX9_copy_7 rfl rfl ?_
    refine vr_is1 (q := 11) dX9_copy_8 rfl vX9_63 (Nat.le_of_ble_eq_true rfl) ?_
    refine m_isRow (fun c8 => ?_) (fun c8 => ?_)
    · refine vr_if_ne (t := 17) (q := 14) dX9_copy_11 (by decide) rfl (fun _ => ?_) (fun c9 => absurd c9 (by omega))
      refine vr_aload_n (q := 18) dX9_copy_17 rfl rfl ?_
      refine vr_iload_n (q := 19) dX9_copy_18 rfl rfl ?_
      refine vr_iv1 (q := 22) dX9_copy_19 rfl vX9_75 (Nat.le_of_ble_eq_true rfl) ?_
      refine m_isMissing ⟨by omega, by omega⟩ (fun c19 => ?_) (fun c19 => ?_)
      · refine vr_if_ne (t := 33) (q := 25) dX9_copy_22 (by decide) rfl (fun _ => ?_) (fun c9 => absurd c9 (by omega))
        refine vr_aload_n (q := 34) dX9_copy_33 rfl rfl ?_
        refine vr_iconst (q := 35) dX9_copy_34 rfl ⟨by decide, by decide⟩ ?_
        refine vr_iv1 (q := 38) dX9_copy_35 rfl vX9_68 (Nat.le_of_ble_eq_true rfl) ?_
        refine m_found ⟨by decide, by decide⟩ ?_
        refine vr_iret dX9_copy_38 rfl ?_
        first | exact k1 (by omega) | exact k2 (by omega) (by omega) | exact k3 (by omega) (by omega) (by omega) | exact k4 (by omega) (by omega) (by omega) (by omega)
      · refine vr_if_ne (t := 33) (q := 25) dX9_copy_22 (by decide) rfl (fun c9 => absurd c9 (by omega)) (fun _ => ?_)
        refine vr_aload_n (q := 26) dX9_copy_25 rfl rfl ?_
        refine vr_iload_n (q := 27) dX9_copy_26 rfl rfl ?_
        refine vr_iv1 (q := 30) dX9_copy_27 rfl vX9_75 (Nat.le_of_ble_eq_true rfl) ?_
        refine m_isMissing ⟨by omega, by omega⟩ (fun c27 => ?_) (fun c27 => ?_)
        · refine vr_if_eq (t := 39) (q := 33) dX9_copy_30 (by decide) rfl (fun c9 => absurd c9 (by omega)) (fun _ => ?_)
          refine vr_aload_n (q := 34) dX9_copy_33 rfl rfl ?_
          refine vr_iconst (q := 35) dX9_copy_34 rfl ⟨by decide, by decide⟩ ?_
          refine vr_iv1 (q := 38) dX9_copy_35 rfl vX9_68 (Nat.le_of_ble_eq_true rfl) ?_
          refine m_found ⟨by decide, by decide⟩ ?_
          refine vr_iret dX9_copy_38 rfl ?_
          first | exact k1 (by omega) | exact k2 (by omega) (by omega) | exact k3 (by omega) (by omega) (by omega) | exact k4 (by omega) (by omega) (by omega) (by omega)
        · refine vr_if_eq (t := 39) (q := 33) dX9_copy_30 (by decide) rfl (fun _ => ?_) (fun c9 => absurd c9 (by omega))
          refine vr_aload_n (q := 40) dX9_copy_39 rfl rfl ?_
          refine vr_getR (q := 43) dX9_copy_40 rfl fX9_7 rfl y_X9_0 (by first | (simp only [Int.reduceAdd]; rfl) | rfl) ?_
          refine vr_iload_n (q := 44) dX9_copy_43 rfl rfl ?_
          refine vr_iald (q := 45) dX9_copy_44 rfl ⟨by omega, by omega⟩ ?_
          refine vr_aload_n (q := 46) dX9_copy_45 rfl rfl ?_
          refine vr_getR (q := 49) dX9_copy_46 rfl fX9_7 rfl y_X9_0 (by first | (simp only [Int.reduceAdd]; rfl) | rfl) ?_
          refine vr_iload_n (q := 50) dX9_copy_49 rfl rfl ?_
          refine vr_iald (q := 51) dX9_copy_50 rfl ⟨by omega, by omega⟩ ?_
          refine vr_ic_eq (t := 60) (q := 54) dX9_copy_51 (by decide) rfl (fun c51 => ?_) (fun c51 => ?_)
          · refine vr_aload_n (q := 61) dX9_copy_60 rfl rfl ?_
            refine vr_iload_n (q := 62) dX9_copy_61 rfl rfl ?_
            refine vr_iload_n (q := 63) dX9_copy_62 rfl rfl ?_
            refine vr_iload (q := 65) dX9_copy_63 rfl rfl ?_
            refine vr_iv3 (q := 68) dX9_copy_65 rfl vX9_82 (Nat.le_of_ble_eq_true rfl) ?_
            refine m_isPart ⟨by omega, by omega⟩ (by omega) (fun c65 => ?_) (fun c65 => ?_)
            · refine vr_if_eq (t := 83) (q := 71) dX9_copy_68 (by decide) rfl (fun c9 => absurd c9 (by omega)) (fun _ => ?_)
              refine vr_aload_n (q := 72) dX9_copy_71 rfl rfl ?_
              refine vr_iload_n (q := 73) dX9_copy_72 rfl rfl ?_
              refine vr_iload (q := 75) dX9_copy_73 rfl rfl ?_
              refine vr_iload (q := 77) dX9_copy_75 rfl rfl ?_
              refine vr_iv3 (q := 80) dX9_copy_77 rfl vX9_82 (Nat.le_of_ble_eq_true rfl) ?_
              refine m_isPart ⟨by omega, by omega⟩ (by omega) (fun c77 => ?_) (fun c77 => ?_)
              · refine vr_if_ne (t := 89) (q := 83) dX9_copy_80 (by decide) rfl (fun _ => ?_) (fun c9 => absurd c9 (by omega))
                exact r89 (by omega) (by omega) (by omega) (by omega)
              · refine vr_if_ne (t := 89) (q := 83) dX9_copy_80 (by decide) rfl (fun c9 => absurd c9 (by omega)) (fun _ => ?_)
                refine vr_aload_n (q := 84) dX9_copy_83 rfl rfl ?_
                refine vr_iconst (q := 85) dX9_copy_84 rfl ⟨by decide, by decide⟩ ?_
                refine vr_iv1 (q := 88) dX9_copy_85 rfl vX9_68 (Nat.le_of_ble_eq_true rfl) ?_
                refine m_found ⟨by decide, by decide⟩ ?_
                refine vr_iret dX9_copy_88 rfl ?_
                first | exact k1 (by omega) | exact k2 (by omega) (by omega) | exact k3 (by omega) (by omega) (by omega) | exact k4 (by omega) (by omega) (by omega) (by omega)
            · refine vr_if_eq (t := 83) (q := 71) dX9_copy_68 (by decide) rfl (fun _ => ?_) (fun c9 => absurd c9 (by omega))
              refine vr_aload_n (q := 84) dX9_copy_83 rfl rfl ?_
              refine vr_iconst (q := 85) dX9_copy_84 rfl ⟨by decide, by decide⟩ ?_
              refine vr_iv1 (q := 88) dX9_copy_85 rfl vX9_68 (Nat.le_of_ble_eq_true rfl) ?_
              refine m_found ⟨by decide, by decide⟩ ?_
              refine vr_iret dX9_copy_88 rfl ?_
              first | exact k1 (by omega) | exact k2 (by omega) (by omega) | exact k3 (by omega) (by omega) (by omega) | exact k4 (by omega) (by omega) (by omega) (by omega)
          · refine vr_aload_n (q := 55) dX9_copy_54 rfl rfl ?_
            refine vr_iconst (q := 56) dX9_copy_55 rfl ⟨by decide, by decide⟩ ?_
            refine vr_iv1 (q := 59) dX9_copy_56 rfl vX9_68 (Nat.le_of_ble_eq_true rfl) ?_
            refine m_found ⟨by decide, by decide⟩ ?_
            refine vr_iret dX9_copy_59 rfl ?_
            first | exact k1 (by omega) | exact k2 (by omega) (by omega) | exact k3 (by omega) (by omega) (by omega) | exact k4 (by omega) (by omega) (by omega) (by omega)
    · refine vr_if_ne (t := 17) (q := 14) dX9_copy_11 (by decide) rfl (fun c9 => absurd c9 (by omega)) (fun _ => ?_)
      refine vr_ldc (x := -1000001) (q := 16) dX9_copy_14 rfl ⟨by decide, by decide⟩ qX9_67 ?_
      refine vr_iret dX9_copy_16 rfl ?_
      first | exact k1 (by omega) | exact k2 (by omega) (by omega) | exact k3 (by omega) (by omega) (by omega) | exact k4 (by omega) (by omega) (by omega) (by omega)
  · refine vr_if_eq (t := 14) (q := 7) dX9_copy_4 (by decide) rfl (fun _ => ?_) (fun c9 => absurd c9 (by omega))
    refine vr_ldc (x := -1000001) (q := 16) dX9_copy_14 rfl ⟨by decide, by decide⟩ qX9_67 ?_
    refine vr_iret dX9_copy_16 rfl ?_
    first | exact k1 (by omega) | exact k2 (by omega) (by omega) | exact k3 (by omega) (by omega) (by omega) | exact k4 (by omega) (by omega) (by omega) (by omega)
end PM2_
