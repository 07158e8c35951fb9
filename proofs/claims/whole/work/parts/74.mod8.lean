section PM8_
variable {g : SG_} {d : Nat} {h : SH_} {Post : Option SV_ → SH_ → Prop}
theorem mx_image {k : Int} (k1 : ¬ (0 ≤ k ∧ k ≤ 1) → Post (some (sv_i (-1000001))) h) (k2 : (0 ≤ k ∧ k ≤ 1) → ¬ 0 < h 74 0 → Post (some (sv_i (-1000002))) h) (k3 : (0 ≤ k ∧ k ≤ 1) → 0 < h 74 0 → Post (some (sv_i 1)) (hs_ (hc_ h 74 0 77 (38 * k) 38) 78 k 1)) : Ctr_ g (d + 1) mX9_image [sv_r 4 8 68, sv_i k] h Post := by
  refine V_mk (by decide +kernel) (Or.inr (Or.inl ⟨rfl, rfl⟩)) (Nat.le_of_ble_eq_true rfl) (by simp [sv_c]) ?_
  show V_ _ _ _ 0 [_, _] [] _ _
  refine vr_iload_n (q := 1) dX9_image_0 rfl rfl ?_
  refine vr_iconst (q := 2) dX9_image_1 rfl ⟨by decide, by decide⟩ ?_
  refine vr_iconst (q := 3) dX9_image_2 rfl ⟨by decide, by decide⟩ ?_
  refine vr_is3 (q := 6) dX9_image_3 rfl vX9_59 (Nat.le_of_ble_eq_true rfl) ?_
  refine m_in (fun c3 => ?_) (fun c3 => ?_)
  · refine vr_if_ne (t := 12) (q := 9) dX9_image_6 (by decide) rfl (fun _ => ?_) (fun c9 => absurd c9 (by omega))
    refine vr_aload_n (q := 13) dX9_image_12 rfl rfl ?_
    refine vr_iv0 (q := 16) dX9_image_13 rfl vX9_222 (Nat.le_of_ble_eq_true rfl) ?_
    refine m_isTown (fun c13 => ?_) (fun c13 => ?_)
    · refine vr_if_ne (t := 22) (q := 19) dX9_image_16 (by decide) rfl (fun _ => ?_) (fun c9 => absurd c9 (by omega))
      refine vr_aload_n (q := 23) dX9_image_22 rfl rfl ?_
      refine vr_getR (q := 26) dX9_image_23 rfl fX9_25 rfl y_X9_13 (by first | (simp only [Int.reduceAdd]; rfl) | rfl) ?_
      refine vr_iconst (q := 27) dX9_image_26 rfl ⟨by decide, by decide⟩ ?_
      refine vr_aload_n (q := 28) dX9_image_27 rfl rfl ?_
      refine vr_getR (q := 31) dX9_image_28 rfl fX9_34 rfl y_X9_17 (by first | (simp only [Int.reduceAdd]; rfl) | rfl) ?_
      refine vr_bipush (q := 33) dX9_image_31 rfl ⟨by decide, by decide⟩ (by decide) ?_
      refine vr_iload_n (q := 34) dX9_image_33 rfl rfl ?_
      refine vr_imulN (q := 35) dX9_image_34 rfl ⟨by omega, by omega⟩ ?_
      refine vr_is4 (q := 38) dX9_image_35 rfl vX9_137 (Nat.le_of_ble_eq_true rfl) ?_
      refine m_copies (by decide) ⟨by decide, by decide, by decide⟩ ⟨by omega, by omega, by omega⟩ ?_
      refine vr_aload_n (q := 39) dX9_image_38 rfl rfl ?_
      refine vr_getR (q := 42) dX9_image_39 rfl fX9_37 rfl y_X9_18 (by first | (simp only [Int.reduceAdd]; rfl) | rfl) ?_
      refine vr_iload_n (q := 43) dX9_image_42 rfl rfl ?_
      refine vr_iconst (q := 44) dX9_image_43 rfl ⟨by decide, by decide⟩ ?_
      refine vr_bast (q := 45) dX9_image_44 rfl ⟨by omega, by omega⟩ (by omega) ?_
      refine vr_iconst (q := 46) dX9_image_45 rfl ⟨by decide, by decide⟩ ?_
      refine vr_iret dX9_image_46 rfl ?_
      first | exact k1 (by omega) | exact k2 (by omega) (by omega) | exact k3 (by omega) (by omega)
    · refine vr_if_ne (t := 22) (q := 19) dX9_image_16 (by decide) rfl (fun c9 => absurd c9 (by omega)) (fun _ => ?_)
      refine vr_ldc (x := -1000002) (q := 21) dX9_image_19 rfl ⟨by decide, by decide⟩ qX9_172 ?_
      refine vr_iret dX9_image_21 rfl ?_
      first | exact k1 (by omega) | exact k2 (by omega) (by omega) | exact k3 (by omega) (by omega)
  · refine vr_if_ne (t := 12) (q := 9) dX9_image_6 (by decide) rfl (fun c9 => absurd c9 (by omega)) (fun _ => ?_)
    refine vr_ldc (x := -1000001) (q := 11) dX9_image_9 rfl ⟨by decide, by decide⟩ qX9_67 ?_
    refine vr_iret dX9_image_11 rfl ?_
    first | exact k1 (by omega) | exact k2 (by omega) (by omega) | exact k3 (by omega) (by omega)
theorem mx_restore {k : Int} (k1 : ¬ (0 ≤ k ∧ k ≤ 1) → Post (some (sv_i (-1000001))) h) (k2 : (0 ≤ k ∧ k ≤ 1) → h 78 k = 0 → Post (some (sv_i (-1000002))) h) (k3 : (0 ≤ k ∧ k ≤ 1) → ¬ h 78 k = 0 → Post (some (sv_i 1)) (hs_ (hc_ h 77 (38 * k) 74 0 38) 68 16 0)) : Ctr_ g (d + 1) mX9_restore [sv_r 4 8 68, sv_i k] h Post := by
  refine V_mk (by decide +kernel) (Or.inr (Or.inl ⟨rfl, rfl⟩)) (Nat.le_of_ble_eq_true rfl) (by simp [sv_c]) ?_
  show V_ _ _ _ 0 [_, _] [] _ _
  refine vr_iload_n (q := 1) dX9_restore_0 rfl rfl ?_
  refine vr_iconst (q := 2) dX9_restore_1 rfl ⟨by decide, by decide⟩ ?_
  refine vr_iconst (q := 3) dX9_restore_2 rfl ⟨by decide, by decide⟩ ?_
  refine vr_is3 (q := 6) dX9_restore_3 rfl vX9_59 (Nat.le_of_ble_eq_true rfl) ?_
  refine m_in (fun c3 => ?_) (fun c3 => ?_)
  · refine vr_if_ne (t := 12) (q := 9) dX9_restore_6 (by decide) rfl (fun _ => ?_) (fun c9 => absurd c9 (by omega))
    refine vr_aload_n (q := 13) dX9_restore_12 rfl rfl ?_
    refine vr_getR (q := 16) dX9_restore_13 rfl fX9_37 rfl y_X9_18 (by first | (simp only [Int.reduceAdd]; rfl) | rfl) ?_
    refine vr_iload_n (q := 17) dX9_restore_16 rfl rfl ?_
    refine vr_bald (q := 18) dX9_restore_17 rfl ⟨by omega, by omega⟩ ?_
    refine vr_if_ne (t := 24) (q := 21) dX9_restore_18 (by decide) rfl (fun c18 => ?_) (fun c18 => ?_)
    · refine vr_aload_n (q := 25) dX9_restore_24 rfl rfl ?_
      refine vr_getR (q := 28) dX9_restore_25 rfl fX9_34 rfl y_X9_17 (by first | (simp only [Int.reduceAdd]; rfl) | rfl) ?_
      refine vr_bipush (q := 30) dX9_restore_28 rfl ⟨by decide, by decide⟩ (by decide) ?_
      refine vr_iload_n (q := 31) dX9_restore_30 rfl rfl ?_
      refine vr_imulN (q := 32) dX9_restore_31 rfl ⟨by omega, by omega⟩ ?_
      refine vr_aload_n (q := 33) dX9_restore_32 rfl rfl ?_
      refine vr_getR (q := 36) dX9_restore_33 rfl fX9_25 rfl y_X9_13 (by first | (simp only [Int.reduceAdd]; rfl) | rfl) ?_
      refine vr_iconst (q := 37) dX9_restore_36 rfl ⟨by decide, by decide⟩ ?_
      refine vr_is4 (q := 40) dX9_restore_37 rfl vX9_137 (Nat.le_of_ble_eq_true rfl) ?_
      refine m_copies (by decide) ⟨by omega, by omega, by omega⟩ ⟨by decide, by decide, by decide⟩ ?_
      refine vr_aload_n (q := 41) dX9_restore_40 rfl rfl ?_
      refine vr_iconst (q := 42) dX9_restore_41 rfl ⟨by decide, by decide⟩ ?_
      refine vr_put (ji := 16) (q := 45) dX9_restore_42 rfl pX9_141 rfl rfl ?_
      refine vr_iconst (q := 46) dX9_restore_45 rfl ⟨by decide, by decide⟩ ?_
      refine vr_iret dX9_restore_46 rfl ?_
      first | exact k1 (by omega) | exact k2 (by omega) (by omega) | exact k3 (by omega) (by omega)
    · refine vr_ldc (x := -1000002) (q := 23) dX9_restore_21 rfl ⟨by decide, by decide⟩ qX9_172 ?_
      refine vr_iret dX9_restore_23 rfl ?_
      first | exact k1 (by omega) | exact k2 (by omega) (by omega) | exact k3 (by omega) (by omega)
  · refine vr_if_ne (t := 12) (q := 9) dX9_restore_6 (by decide) rfl (fun c9 => absurd c9 (by omega)) (fun _ => ?_)
    refine vr_ldc (x := -1000001) (q := 11) dX9_restore_9 rfl ⟨by decide, by decide⟩ qX9_67 ?_
    refine vr_iret dX9_restore_11 rfl ?_
    first | exact k1 (by omega) | exact k2 (by omega) (by omega) | exact k3 (by omega) (by omega)
end PM8_
