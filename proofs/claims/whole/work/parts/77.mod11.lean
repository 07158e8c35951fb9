section PM11_
variable {g : SG_} {d : Nat} {h : SH_} {Post : Option SV_ → SH_ → Prop}
theorem mx_lie {l w : Int} (hn : 0 ≤ h 74 2 ∧ h 74 2 ≤ 6) (h3 : 0 ≤ h 74 3 ∧ h 74 3 ≤ 4) (k1 : ¬ (0 ≤ l ∧ l < h 74 2) → Post (some (sv_i (-1000001))) h) (k2 : (0 ≤ l ∧ l < h 74 2) → ¬ (0 ≤ w ∧ w ≤ 3) → Post (some (sv_i (-1000001))) h) (k3 : (0 ≤ l ∧ l < h 74 2) → (0 ≤ w ∧ w ≤ 3) → Post (some (sv_i (if w = 0 then h 74 (4 + 3 * l + 1) else if w = 1 then h 74 (4 + 3 * l + 2) else if w = 2 then ws_ (fun s => h 74 (22 + 4 * s + 2)) l (h 74 3).toNat else ws_ (fun s => h 74 (22 + 4 * s + 3)) l (h 74 3).toNat))) h) : Ctr_ g (d + 3) mX9_lie [sv_r 4 8 68, sv_i l, sv_i w] h Post := by
  refine V_mk (by decide +kernel) (Or.inr (Or.inl ⟨rfl, rfl⟩)) (Nat.le_of_ble_eq_true rfl) (by simp [sv_c]) ?_
  show V_ _ _ _ 0 [_, _, _] [] _ _
  refine vr_aload_n (q := 1) dX9_lie_0 rfl rfl ?_
  refine vr_iload_n (q := 2) dX9_lie_1 rfl rfl ?_
  -- at X9.lie 2: .invokevirtual 166
  refine vr_iv1 (q := 5) dX9_lie_2 rfl vX9_166 (Nat.le_of_ble_eq_true rfl) ?_
  refine m_isLie hn (fun c5 => ?_) (fun c5 => ?_)
  · refine vr_if_ne (t := 11) (q := 8) dX9_lie_5 (by decide) rfl (fun _ => ?_) (fun c9 => absurd c9 (by omega))
    refine vr_iload_n (q := 12) dX9_lie_11 rfl rfl ?_
    -- at X9.lie 12: .tableswitch 71 0 3 #[32, 45, 58, 65]
    by_cases cw : 0 ≤ w ∧ w ≤ 3
    · have k4 := k3 c5 cw
      rcases (by omega : w = 0 ∨ w = 1 ∨ w = 2 ∨ w = 3) with rfl | rfl | rfl | rfl
      · refine vr_tsI (q := 44) dX9_lie_12 (by decide) (by decide) rfl (by decide) ?_
        refine vr_aload_n (q := 45) dX9_lie_44 rfl rfl ?_
        refine vr_getR (q := 48) dX9_lie_45 rfl fX9_25 rfl y_X9_13 (by first | (simp only [Int.reduceAdd]; rfl) | rfl) ?_
        refine vr_iconst (q := 49) dX9_lie_48 rfl ⟨by decide, by decide⟩ ?_
        refine vr_iconst (q := 50) dX9_lie_49 rfl ⟨by decide, by decide⟩ ?_
        refine vr_iload_n (q := 51) dX9_lie_50 rfl rfl ?_
        refine vr_imulN (q := 52) dX9_lie_51 rfl ⟨by omega, by omega⟩ ?_
        refine vr_iaddN (q := 53) dX9_lie_52 rfl ⟨by omega, by omega⟩ ?_
        refine vr_iconst (q := 54) dX9_lie_53 rfl ⟨by decide, by decide⟩ ?_
        refine vr_iaddN (q := 55) dX9_lie_54 rfl ⟨by omega, by omega⟩ ?_
        refine vr_iald (q := 56) dX9_lie_55 rfl ⟨by omega, by omega⟩ ?_
        refine vr_iret dX9_lie_56 rfl ?_
        exact k4
      · refine vr_tsI (q := 57) dX9_lie_12 (by decide) (by decide) rfl (by decide) ?_
        refine vr_aload_n (q := 58) dX9_lie_57 rfl rfl ?_
        refine vr_getR (q := 61) dX9_lie_58 rfl fX9_25 rfl y_X9_13 (by first | (simp only [Int.reduceAdd]; rfl) | rfl) ?_
        refine vr_iconst (q := 62) dX9_lie_61 rfl ⟨by decide, by decide⟩ ?_
        refine vr_iconst (q := 63) dX9_lie_62 rfl ⟨by decide, by decide⟩ ?_
        refine vr_iload_n (q := 64) dX9_lie_63 rfl rfl ?_
        refine vr_imulN (q := 65) dX9_lie_64 rfl ⟨by omega, by omega⟩ ?_
        refine vr_iaddN (q := 66) dX9_lie_65 rfl ⟨by omega, by omega⟩ ?_
        refine vr_iconst (q := 67) dX9_lie_66 rfl ⟨by decide, by decide⟩ ?_
        refine vr_iaddN (q := 68) dX9_lie_67 rfl ⟨by omega, by omega⟩ ?_
        refine vr_iald (q := 69) dX9_lie_68 rfl ⟨by omega, by omega⟩ ?_
        refine vr_iret dX9_lie_69 rfl ?_
        exact k4
      · refine vr_tsI (q := 70) dX9_lie_12 (by decide) (by decide) rfl (by decide) ?_
        refine vr_aload_n (q := 71) dX9_lie_70 rfl rfl ?_
        refine vr_iload_n (q := 72) dX9_lie_71 rfl rfl ?_
        refine vr_iconst (q := 73) dX9_lie_72 rfl ⟨by decide, by decide⟩ ?_
        refine vr_iv2 (q := 76) dX9_lie_73 rfl vX9_187 (Nat.le_of_ble_eq_true rfl) ?_
        refine m_strangersWith ⟨by decide, by decide⟩ h3 ?_
        refine vr_iret dX9_lie_76 rfl ?_
        exact k4
      · refine vr_tsI (q := 77) dX9_lie_12 (by decide) (by decide) rfl (by decide) ?_
        refine vr_aload_n (q := 78) dX9_lie_77 rfl rfl ?_
        refine vr_iload_n (q := 79) dX9_lie_78 rfl rfl ?_
        refine vr_iv1 (q := 82) dX9_lie_79 rfl vX9_190 (Nat.le_of_ble_eq_true rfl) ?_
        refine m_noddedAt h3 ?_
        refine vr_iret dX9_lie_82 rfl ?_
        exact k4
    · refine vr_tsO (q := 83) dX9_lie_12 (by omega) (by decide) ?_
      refine vr_ldc (x := -1000001) (q := 85) dX9_lie_83 rfl ⟨by decide, by decide⟩ qX9_67 ?_
      refine vr_iret dX9_lie_85 rfl ?_
      exact k2 c5 cw
  · refine vr_if_ne (t := 11) (q := 8) dX9_lie_5 (by decide) rfl (fun c9 => absurd c9 (by omega)) (fun _ => ?_)
    refine vr_ldc (x := -1000001) (q := 10) dX9_lie_8 rfl ⟨by decide, by decide⟩ qX9_67 ?_
    refine vr_iret dX9_lie_10 rfl ?_
    exact k1 c5
end PM11_
