theorem mnt_k {h : SH_} {a : Int} (h1 : a ≠ 68) (h2 : a ≠ 76) : mnt_ h a = h a := by
  funext b
  unfold mnt_
  split
  · rw [hs_k h1]
    unfold hc_
    rw [if_neg (fun z => h2 z.1), hs_k h1]
    rw [if_neg (fun z => h2 z.1)]
  · rw [hs_k h1]
    unfold hc_
    rw [if_neg (fun z => h2 z.1)]
section PM9_
variable {g : SG_} {d : Nat} {h : SH_} {Post : Option SV_ → SH_ → Prop}
theorem mx_supper {s : Int} (o : mt_ h) (ha : 0 ≤ h 68 16 ∧ h 68 16 ≤ 24) (k1 : ¬ (0 ≤ s ∧ s < h 74 3) → Post (some (sv_i (-1000001))) h) (k2 : (0 ≤ s ∧ s < h 74 3) → Post (some (sv_i (if h 74 (22 + 4 * s) < 18 then h 74 (22 + 4 * s) + 2 else 20))) (hs_ (hs_ (mnt_ h) 74 (22 + 4 * s) (if h 74 (22 + 4 * s) < 18 then h 74 (22 + 4 * s) + 2 else 20)) 74 1 (sw_32 (h 74 1 - 1)))) : Ctr_ g (d + 2) mX9_supper [sv_r 4 8 68, sv_i s] h Post := by
  have o2 := o.2.1
  have e74 : mnt_ h 74 = h 74 := mnt_k (by decide) (by decide)
  have r11 : (0 ≤ s ∧ s < h 74 3) → V_ g (d + 2) mX9_supper 11 [some (sv_r 4 8 68), some (sv_i s), none] [] h Post := by
    intro c
    have kk := k2 c
    have hst := (o.2.2.2.2 s c.1 c.2).1
    refine vr_aload_n (q := 12) dX9_supper_11 rfl rfl ?_
    -- at X9.supper 12: .invokevirtual 173
    refine vr_iv0 (q := 15) dX9_supper_12 rfl vX9_173 (Nat.le_of_ble_eq_true rfl) ?_
    refine m_notes ha ?_
    generalize mnt_ h = hN at e74 kk ⊢
    have fin : ∀ v : Int, Post (some (sv_i v)) (hs_ (hs_ hN 74 (22 + 4 * s) v) 74 1 (sw_32 (h 74 1 - 1))) → V_ g (d + 2) mX9_supper 53 [some (sv_r 4 8 68), some (sv_i s), some (sv_i (22 + 4 * s + 0))] [sv_i v, sv_i (22 + 4 * s + 0), sv_r 0 38 74] hN Post := by
      intro v kk
      rw [show 22 + 4 * s = 22 + 4 * s + 0 by omega] at kk
      refine vr_iast (q := 54) dX9_supper_53 rfl ⟨by omega, by omega⟩ ?_
      refine vr_aload_n (q := 55) dX9_supper_54 rfl rfl ?_
      refine vr_getR (q := 58) dX9_supper_55 rfl fX9_25 rfl y_X9_13 (by first | (simp only [Int.reduceAdd]; rfl) | rfl) ?_
      refine vr_iconst (q := 59) dX9_supper_58 rfl ⟨by decide, by decide⟩ ?_
      refine vr_dup2 (q := 60) dX9_supper_59 rfl rfl rfl ?_
      refine vr_ialdV (q := 61) dX9_supper_60 rfl ⟨by omega, by omega⟩ (show _ = h 74 1 by rw [hs_n (by omega), e74]) ?_
      refine vr_iconst (q := 62) dX9_supper_61 rfl ⟨by decide, by decide⟩ ?_
      refine vr_isub (q := 63) dX9_supper_62 rfl ?_
      refine vr_iast (q := 64) dX9_supper_63 rfl ⟨by omega, by omega⟩ ?_
      refine vr_aload_n (q := 65) dX9_supper_64 rfl rfl ?_
      refine vr_getR (q := 68) dX9_supper_65 rfl fX9_25 rfl y_X9_13 (by first | (simp only [Int.reduceAdd]; rfl) | rfl) ?_
      refine vr_iload_n (q := 69) dX9_supper_68 rfl rfl ?_
      refine vr_ialdV (q := 70) dX9_supper_69 rfl ⟨by omega, by omega⟩ (show _ = v by rw [hs_n (by omega), hs_e]) ?_
      refine vr_iret dX9_supper_70 rfl ?_
      exact kk
    refine vr_bipush (q := 17) dX9_supper_15 rfl ⟨by decide, by decide⟩ (by decide) ?_
    refine vr_iconst (q := 18) dX9_supper_17 rfl ⟨by decide, by decide⟩ ?_
    refine vr_iload_n (q := 19) dX9_supper_18 rfl rfl ?_
    refine vr_imulN (q := 20) dX9_supper_19 rfl ⟨by omega, by omega⟩ ?_
    refine vr_iaddN (q := 21) dX9_supper_20 rfl ⟨by omega, by omega⟩ ?_
    refine vr_iconst (q := 22) dX9_supper_21 rfl ⟨by decide, by decide⟩ ?_
    refine vr_iaddN (q := 23) dX9_supper_22 rfl ⟨by omega, by omega⟩ ?_
    refine vr_istore_n (q := 24) dX9_supper_23 rfl rfl (Nat.le_of_ble_eq_true rfl) rfl rfl ?_
    refine vr_aload_n (q := 25) dX9_supper_24 rfl rfl ?_
    refine vr_getR (q := 28) dX9_supper_25 rfl fX9_25 rfl y_X9_13 (by first | (simp only [Int.reduceAdd]; rfl) | rfl) ?_
    refine vr_iload_n (q := 29) dX9_supper_28 rfl rfl ?_
    refine vr_aload_n (q := 30) dX9_supper_29 rfl rfl ?_
    refine vr_getR (q := 33) dX9_supper_30 rfl fX9_25 rfl y_X9_13 (by first | (simp only [Int.reduceAdd]; rfl) | rfl) ?_
    refine vr_iload_n (q := 34) dX9_supper_33 rfl rfl ?_
    refine vr_ialdV (q := 35) dX9_supper_34 rfl ⟨by omega, by omega⟩ (show _ = h 74 (22 + 4 * s) by rw [e74, Int.add_zero]) ?_
    refine vr_bipush (q := 37) dX9_supper_35 rfl ⟨by decide, by decide⟩ (by decide) ?_
    -- at X9.supper 37: .if_icmp .ge 14
    refine vr_ic_ge (t := 51) (q := 40) dX9_supper_37 (by decide) rfl (fun c1 => ?_) (fun c1 => ?_)
    · rw [if_neg (by omega)] at kk
      refine vr_bipush (q := 53) dX9_supper_51 rfl ⟨by decide, by decide⟩ (by decide) ?_
      -- at X9.supper 53: .iastore
      exact fin _ kk
    · rw [if_pos (by omega)] at kk
      refine vr_aload_n (q := 41) dX9_supper_40 rfl rfl ?_
      refine vr_getR (q := 44) dX9_supper_41 rfl fX9_25 rfl y_X9_13 (by first | (simp only [Int.reduceAdd]; rfl) | rfl) ?_
      refine vr_iload_n (q := 45) dX9_supper_44 rfl rfl ?_
      refine vr_ialdV (q := 46) dX9_supper_45 rfl ⟨by omega, by omega⟩ (show _ = h 74 (22 + 4 * s) by rw [e74, Int.add_zero]) ?_
      refine vr_iconst (q := 47) dX9_supper_46 rfl ⟨by decide, by decide⟩ ?_
      refine vr_iaddN (q := 48) dX9_supper_47 rfl ⟨by omega, by omega⟩ ?_
      refine vr_goto (q := 53) dX9_supper_48 (by decide) ?_
      -- at X9.supper 53: .iastore
      exact fin _ kk
  refine V_mk (by decide +kernel) (Or.inr (Or.inl ⟨rfl, rfl⟩)) (Nat.le_of_ble_eq_true rfl) (by simp [sv_c]) ?_
  show V_ _ _ _ 0 [_, _, _] [] _ _
  refine vr_aload_n (q := 1) dX9_supper_0 rfl rfl ?_
  refine vr_iload_n (q := 2) dX9_supper_1 rfl rfl ?_
  refine vr_iv1 (q := 5) dX9_supper_2 rfl vX9_163 (Nat.le_of_ble_eq_true rfl) ?_
  refine m_isStranger o2 (fun c2 => ?_) (fun c2 => ?_)
  · refine vr_if_ne (t := 11) (q := 8) dX9_supper_5 (by decide) rfl (fun _ => ?_) (fun c9 => absurd c9 (by omega))
    exact r11 (by omega)
  · refine vr_if_ne (t := 11) (q := 8) dX9_supper_5 (by decide) rfl (fun c9 => absurd c9 (by omega)) (fun _ => ?_)
    refine vr_ldc (x := -1000001) (q := 10) dX9_supper_8 rfl ⟨by decide, by decide⟩ qX9_67 ?_
    refine vr_iret dX9_supper_10 rfl ?_
    exact k1 (by omega)
end PM9_
