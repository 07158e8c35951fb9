section PM10_
variable {g : SG_} {d : Nat} {h : SH_} {Post : Option SV_ → SH_ → Prop}
theorem mx_forget {s l : Int} (o : mt_ h) (ha : 0 ≤ h 68 16 ∧ h 68 16 ≤ 24) (k1 : ¬ ((0 ≤ s ∧ s < h 74 3) ∧ (0 ≤ l ∧ l < h 74 2)) → Post (some (sv_i (-1000001))) h) (k2 : ((0 ≤ s ∧ s < h 74 3) ∧ (0 ≤ l ∧ l < h 74 2)) → bt_ (h 74 (22 + 4 * s + 2)) l = 0 → Post (some (sv_i (-1000002))) h) (k3 : ((0 ≤ s ∧ s < h 74 3) ∧ (0 ≤ l ∧ l < h 74 2)) → ¬ bt_ (h 74 (22 + 4 * s + 2)) l = 0 → Post (some (sv_i (pc_ (dl_ (h 74 (22 + 4 * s + 2)) l)))) (hs_ (hs_ (mnt_ h) 74 (22 + 4 * s + 2) (dl_ (h 74 (22 + 4 * s + 2)) l)) 74 (22 + 4 * s + 3) (dl_ (h 74 (22 + 4 * s + 3)) l))) : Ctr_ g (d + 2) mX9_forget [sv_r 4 8 68, sv_i s, sv_i l] h Post := by
  have o1 := o.1
  have o2 := o.2.1
  have e74 : mnt_ h 74 = h 74 := mnt_k (by decide) (by decide)
  have r31 : ((0 ≤ s ∧ s < h 74 3) ∧ (0 ≤ l ∧ l < h 74 2)) → ¬ bt_ (h 74 (22 + 4 * s + 2)) l = 0 → V_ g (d + 2) mX9_forget 31 [some (sv_r 4 8 68), some (sv_i s), some (sv_i l), none] [] h Post := by
    intro c c2
    have kk := k3 c c2
    have hd := dl_r (o.2.2.2.2 s c.1.1 c.1.2).2.2.1 (l := l) ⟨by omega, by omega⟩
    refine vr_aload_n (q := 32) dX9_forget_31 rfl rfl ?_
    -- at X9.forget 32: .invokevirtual 173
    refine vr_iv0 (q := 35) dX9_forget_32 rfl vX9_173 (Nat.le_of_ble_eq_true rfl) ?_
    refine m_notes ha ?_
    generalize mnt_ h = hN at e74 kk ⊢
    refine vr_bipush (q := 37) dX9_forget_35 rfl ⟨by decide, by decide⟩ (by decide) ?_
    refine vr_iconst (q := 38) dX9_forget_37 rfl ⟨by decide, by decide⟩ ?_
    refine vr_iload_n (q := 39) dX9_forget_38 rfl rfl ?_
    refine vr_imulN (q := 40) dX9_forget_39 rfl ⟨by omega, by omega⟩ ?_
    refine vr_iaddN (q := 41) dX9_forget_40 rfl ⟨by omega, by omega⟩ ?_
    refine vr_istore_n (q := 42) dX9_forget_41 rfl rfl (Nat.le_of_ble_eq_true rfl) rfl rfl ?_
    refine vr_aload_n (q := 43) dX9_forget_42 rfl rfl ?_
    refine vr_getR (q := 46) dX9_forget_43 rfl fX9_25 rfl y_X9_13 (by first | (simp only [Int.reduceAdd]; rfl) | rfl) ?_
    refine vr_iload_n (q := 47) dX9_forget_46 rfl rfl ?_
    refine vr_iconst (q := 48) dX9_forget_47 rfl ⟨by decide, by decide⟩ ?_
    refine vr_iaddN (q := 49) dX9_forget_48 rfl ⟨by omega, by omega⟩ ?_
    refine vr_dup2 (q := 50) dX9_forget_49 rfl rfl rfl ?_
    refine vr_ialdV (q := 51) dX9_forget_50 rfl ⟨by omega, by omega⟩ (congrFun e74 _) ?_
    refine vr_iconst (q := 52) dX9_forget_51 rfl ⟨by decide, by decide⟩ ?_
    refine vr_iload_n (q := 53) dX9_forget_52 rfl rfl ?_
    refine vr_ishl (q := 54) dX9_forget_53 rfl ?_
    refine vr_iconst (q := 55) dX9_forget_54 rfl ⟨by decide, by decide⟩ ?_
    refine vr_ixor (q := 56) dX9_forget_55 rfl ?_
    refine vr_iand (q := 57) dX9_forget_56 rfl ?_
    refine vr_iast (q := 58) dX9_forget_57 rfl ⟨by omega, by omega⟩ ?_
    refine vr_aload_n (q := 59) dX9_forget_58 rfl rfl ?_
    refine vr_getR (q := 62) dX9_forget_59 rfl fX9_25 rfl y_X9_13 (by first | (simp only [Int.reduceAdd]; rfl) | rfl) ?_
    refine vr_iload_n (q := 63) dX9_forget_62 rfl rfl ?_
    refine vr_iconst (q := 64) dX9_forget_63 rfl ⟨by decide, by decide⟩ ?_
    refine vr_iaddN (q := 65) dX9_forget_64 rfl ⟨by omega, by omega⟩ ?_
    refine vr_dup2 (q := 66) dX9_forget_65 rfl rfl rfl ?_
    refine vr_ialdV (q := 67) dX9_forget_66 rfl ⟨by omega, by omega⟩ (show _ = h 74 (22 + 4 * s + 3) by rw [hs_n (by omega), e74]) ?_
    refine vr_iconst (q := 68) dX9_forget_67 rfl ⟨by decide, by decide⟩ ?_
    refine vr_iload_n (q := 69) dX9_forget_68 rfl rfl ?_
    refine vr_ishl (q := 70) dX9_forget_69 rfl ?_
    refine vr_iconst (q := 71) dX9_forget_70 rfl ⟨by decide, by decide⟩ ?_
    refine vr_ixor (q := 72) dX9_forget_71 rfl ?_
    refine vr_iand (q := 73) dX9_forget_72 rfl ?_
    refine vr_iast (q := 74) dX9_forget_73 rfl ⟨by omega, by omega⟩ ?_
    refine vr_aload_n (q := 75) dX9_forget_74 rfl rfl ?_
    refine vr_getR (q := 78) dX9_forget_75 rfl fX9_25 rfl y_X9_13 (by first | (simp only [Int.reduceAdd]; rfl) | rfl) ?_
    refine vr_iload_n (q := 79) dX9_forget_78 rfl rfl ?_
    refine vr_iconst (q := 80) dX9_forget_79 rfl ⟨by decide, by decide⟩ ?_
    refine vr_iaddN (q := 81) dX9_forget_80 rfl ⟨by omega, by omega⟩ ?_
    refine vr_ialdV (q := 82) dX9_forget_81 rfl ⟨by omega, by omega⟩ (show _ = dl_ (h 74 (22 + 4 * s + 2)) l by rw [hs_n (by omega), hs_e]; rfl) ?_
    -- at X9.forget 82: .invokestatic 150
    refine vr_is1 (q := 85) dX9_forget_82 rfl vX9_150 (Nat.le_of_ble_eq_true rfl) ?_
    refine m_ones hd ?_
    refine vr_iret dX9_forget_85 rfl ?_
    exact kk
  refine V_mk (by decide +kernel) (Or.inr (Or.inl ⟨rfl, rfl⟩)) (Nat.le_of_ble_eq_true rfl) (by simp [sv_c]) ?_
  show V_ _ _ _ 0 [_, _, _, _] [] _ _
  refine vr_aload_n (q := 1) dX9_forget_0 rfl rfl ?_
  refine vr_iload_n (q := 2) dX9_forget_1 rfl rfl ?_
  refine vr_iv1 (q := 5) dX9_forget_2 rfl vX9_163 (Nat.le_of_ble_eq_true rfl) ?_
  refine m_isStranger o2 (fun c2 => ?_) (fun c2 => ?_)
  · refine vr_if_eq (t := 16) (q := 8) dX9_forget_5 (by decide) rfl (fun c9 => absurd c9 (by omega)) (fun _ => ?_)
    refine vr_aload_n (q := 9) dX9_forget_8 rfl rfl ?_
    refine vr_iload_n (q := 10) dX9_forget_9 rfl rfl ?_
    refine vr_iv1 (q := 13) dX9_forget_10 rfl vX9_166 (Nat.le_of_ble_eq_true rfl) ?_
    refine m_isLie o1 (fun c10 => ?_) (fun c10 => ?_)
    · refine vr_if_ne (t := 19) (q := 16) dX9_forget_13 (by decide) rfl (fun _ => ?_) (fun c9 => absurd c9 (by omega))
      refine vr_aload_n (q := 20) dX9_forget_19 rfl rfl ?_
      refine vr_iload_n (q := 21) dX9_forget_20 rfl rfl ?_
      refine vr_iload_n (q := 22) dX9_forget_21 rfl rfl ?_
      refine vr_iv2 (q := 25) dX9_forget_22 rfl vX9_169 (Nat.le_of_ble_eq_true rfl) ?_
      refine m_wasTold ⟨by omega, by omega⟩ (fun c22 => ?_) (fun c22 => ?_)
      · refine vr_if_ne (t := 31) (q := 28) dX9_forget_25 (by decide) rfl (fun _ => ?_) (fun c9 => absurd c9 (by omega))
        exact r31 (by omega) c22
      · refine vr_if_ne (t := 31) (q := 28) dX9_forget_25 (by decide) rfl (fun c9 => absurd c9 (by omega)) (fun _ => ?_)
        refine vr_ldc (x := -1000002) (q := 30) dX9_forget_28 rfl ⟨by decide, by decide⟩ qX9_172 ?_
        refine vr_iret dX9_forget_30 rfl ?_
        first | exact k1 (by omega) | exact k2 (by omega) c22
    · refine vr_if_ne (t := 19) (q := 16) dX9_forget_13 (by decide) rfl (fun c9 => absurd c9 (by omega)) (fun _ => ?_)
      refine vr_ldc (x := -1000001) (q := 18) dX9_forget_16 rfl ⟨by decide, by decide⟩ qX9_67 ?_
      refine vr_iret dX9_forget_18 rfl ?_
      first | exact k1 (by omega) | exact k2 (by omega) c22
  · refine vr_if_eq (t := 16) (q := 8) dX9_forget_5 (by decide) rfl (fun _ => ?_) (fun c9 => absurd c9 (by omega))
    refine vr_ldc (x := -1000001) (q := 18) dX9_forget_16 rfl ⟨by decide, by decide⟩ qX9_67 ?_
    refine vr_iret dX9_forget_18 rfl ?_
    first | exact k1 (by omega) | exact k2 (by omega) c22
end PM10_
