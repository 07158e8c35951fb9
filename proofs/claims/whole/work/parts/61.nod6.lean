section PN6_
variable {g : SG_} {d : Nat} {h : SH_} {Post : Option SV_ → SH_ → Prop}
theorem x_doubted {s r i n w : Int} (o : to_ h) (ho : ∀ r, 0 ≤ r → r < 8 → 0 ≤ h 3 r ∧ h 3 r ≤ 40) (k1 : ¬ ((0 ≤ s ∧ s < h 7 3) ∧ ((0 ≤ r ∧ r < 8) ∧ (0 ≤ n ∧ n ≤ 6)) ∧ (0 ≤ w ∧ w ≤ 1)) → Post (some (sv_i (-1000001))) h) (k2 : ((0 ≤ s ∧ s < h 7 3) ∧ ((0 ≤ r ∧ r < 8) ∧ (0 ≤ n ∧ n ≤ 6)) ∧ (0 ≤ w ∧ w ≤ 1)) → h 2 r = -1 → Post (some (sv_i (-1000010 - 1))) (hs_ h 0 8 1)) (k3 : ((0 ≤ s ∧ s < h 7 3) ∧ ((0 ≤ r ∧ r < 8) ∧ (0 ≤ n ∧ n ≤ 6)) ∧ (0 ≤ w ∧ w ≤ 1)) → ¬ h 2 r = -1 → ¬ (0 ≤ i ∧ i + 2 * n ≤ h 3 r) → Post (some (sv_i (-1000010 - 2))) (hs_ h 0 8 2)) (k4 : ((0 ≤ s ∧ s < h 7 3) ∧ ((0 ≤ r ∧ r < 8) ∧ (0 ≤ n ∧ n ≤ 6)) ∧ (0 ≤ w ∧ w ≤ 1)) → ¬ h 2 r = -1 → (0 ≤ i ∧ i + 2 * n ≤ h 3 r) → ¬ (∀ t, 0 ≤ t → t < n → 0 ≤ h 4 (r * 40 + i + 2 * t) ∧ h 4 (r * 40 + i + 2 * t) < h 7 2) → ∀ h2, fk_ h h2 → Post (some (sv_i (-1000001))) h2) (k5 : ((0 ≤ s ∧ s < h 7 3) ∧ ((0 ≤ r ∧ r < 8) ∧ (0 ≤ n ∧ n ≤ 6)) ∧ (0 ≤ w ∧ w ≤ 1)) → ¬ h 2 r = -1 → (0 ≤ i ∧ i + 2 * n ≤ h 3 r) → (∀ t, 0 ≤ t → t < n → 0 ≤ h 4 (r * 40 + i + 2 * t) ∧ h 4 (r * 40 + i + 2 * t) < h 7 2) → ∀ h2, fk_ h h2 → Post (some (sv_i (if w = 0 then (dc_ (fun j => go_ h (r * 40 + i) n (h 11 s, j, (en_ h s).2.2)) 16 0 (0, -1000000)).1 else (dc_ (fun j => go_ h (r * 40 + i) n (h 11 s, j, (en_ h s).2.2)) 16 0 (0, -1000000)).2))) (hs_ h2 0 8 0)) : Ctr_ g (d + 6) mX8_doubted [sv_r 4 7 0, sv_i s, sv_i r, sv_i i, sv_i n, sv_i w] h Post := by
  have r42 : ∀ (v : Int) (h2 : SH_), v ≠ 0 → Post (some (sv_i v)) h2 → V_ g (d + 6) mX8_doubted 42 [some (sv_r 4 7 0), some (sv_i s), some (sv_i r), some (sv_i i), some (sv_i n), some (sv_i w), none, none, none, none] [sv_i v] h2 Post := by
    intro v h2 hv kk
    refine vr_istore (q := 44) dX8_doubted_42 rfl (Nat.le_of_ble_eq_true rfl) rfl rfl ?_
    refine vr_iload (q := 46) dX8_doubted_44 rfl rfl ?_
    -- at X8.doubted 46: .ifCond .eq 6
    refine vr_if_eq (t := 52) (q := 49) dX8_doubted_46 (by decide) rfl (fun c9 => absurd c9 (by omega)) (fun _ => ?_)
    refine vr_iload (q := 51) dX8_doubted_49 rfl rfl ?_
    refine vr_iret dX8_doubted_51 rfl ?_
    first | exact kk | (exfalso; omega) | (repeat (first | exact kk | rw [if_pos (by omega)] at kk | rw [if_neg (by omega)] at kk))
  have r34 : ((0 ≤ s ∧ s < h 7 3) ∧ ((0 ≤ r ∧ r < 8) ∧ (0 ≤ n ∧ n ≤ 6)) ∧ (0 ≤ w ∧ w ≤ 1)) → V_ g (d + 6) mX8_doubted 34 [some (sv_r 4 7 0), some (sv_i s), some (sv_i r), some (sv_i i), some (sv_i n), some (sv_i w), none, none, none, none] [] h Post := by
    intro c
    refine vr_aload_n (q := 35) dX8_doubted_34 rfl rfl ?_
    refine vr_iload_n (q := 36) dX8_doubted_35 rfl rfl ?_
    refine vr_iload_n (q := 37) dX8_doubted_36 rfl rfl ?_
    refine vr_iload (q := 39) dX8_doubted_37 rfl rfl ?_
    -- at X8.doubted 39: .invokevirtual 252
    refine vr_iv3 (q := 42) dX8_doubted_39 rfl vX8_252 (Nat.le_of_ble_eq_true rfl) ?_
    refine c_xTake o ho c.2.1.1 c.2.1.2 (fun a1 => ?_) (fun a1 a2 => ?_) (fun a1 a2 a3 h2 f2 => ?_) (fun a1 a2 a3 h2 t2 => ?_)
    · exact r42 _ _ (by decide) (k2 c a1)
    · exact r42 _ _ (by decide) (k3 c a1 a2)
    · exact r42 _ _ (by decide) (k4 c a1 a2 a3 h2 f2)
    · refine vr_istore (q := 44) dX8_doubted_42 rfl (Nat.le_of_ble_eq_true rfl) rfl rfl ?_
      refine vr_iload (q := 46) dX8_doubted_44 rfl rfl ?_
      -- at X8.doubted 46: .ifCond .eq 6
      refine vr_if_eq (t := 52) (q := 49) dX8_doubted_46 (by decide) rfl (fun _ => ?_) (fun c9 => absurd c9 (by omega))
      refine vr_iconst (q := 53) dX8_doubted_52 rfl ⟨by decide, by decide⟩ ?_
      refine vr_istore (q := 55) dX8_doubted_53 rfl (Nat.le_of_ble_eq_true rfl) rfl rfl ?_
      refine vr_ldc (x := -1000000) (q := 57) dX8_doubted_55 rfl ⟨by decide, by decide⟩ qX8_235 ?_
      refine vr_istore (q := 59) dX8_doubted_57 rfl (Nat.le_of_ble_eq_true rfl) rfl rfl ?_
      refine vr_iconst (q := 60) dX8_doubted_59 rfl ⟨by decide, by decide⟩ ?_
      refine vr_istore (q := 62) dX8_doubted_60 rfl (Nat.le_of_ble_eq_true rfl) rfl rfl ?_
      -- at X8.doubted 62: .iload 9
      exact l_doubted o c.1 c.2.1.2 a3 (fun _ => rfl) (k5 c a1 a2 a3) 16 0 (0, -1000000) h2 0 rfl ⟨by decide, by decide⟩ rfl t2
  refine V_mk (by decide +kernel) (Or.inr (Or.inl ⟨rfl, rfl⟩)) (Nat.le_of_ble_eq_true rfl) (by simp [sv_c]) ?_
  show V_ _ _ _ 0 [_, _, _, _, _, _, _, _, _, _] [] _ _
  refine vr_aload_n (q := 1) dX8_doubted_0 rfl rfl ?_
  refine vr_getA (q := 4) dX8_doubted_1 rfl fX8_26 rfl ⟨by decide, by decide, rfl⟩ ?_
  refine vr_iload_n (q := 5) dX8_doubted_4 rfl rfl ?_
  refine vr_iv1 (q := 8) dX8_doubted_5 rfl vX8_132 (Nat.le_of_ble_eq_true rfl) ?_
  refine c_hasStranger (fun c5 => ?_) (fun c5 => ?_)
  · refine vr_if_eq (t := 31) (q := 11) dX8_doubted_8 (by decide) rfl (fun c9 => absurd c9 (by omega)) (fun _ => ?_)
    refine vr_iload_n (q := 12) dX8_doubted_11 rfl rfl ?_
    refine vr_iload (q := 14) dX8_doubted_12 rfl rfl ?_
    refine vr_is2 (q := 17) dX8_doubted_14 rfl vX8_249 (Nat.le_of_ble_eq_true rfl) ?_
    refine c_isTelling (fun c14 => ?_) (fun c14 => ?_)
    · refine vr_if_eq (t := 31) (q := 20) dX8_doubted_17 (by decide) rfl (fun c9 => absurd c9 (by omega)) (fun _ => ?_)
      refine vr_iload (q := 22) dX8_doubted_20 rfl rfl ?_
      refine vr_if_lt (t := 31) (q := 25) dX8_doubted_22 (by decide) rfl (fun c22 => ?_) (fun c22 => ?_)
      · refine vr_ldc (x := -1000001) (q := 33) dX8_doubted_31 rfl ⟨by decide, by decide⟩ qX8_69 ?_
        refine vr_iret dX8_doubted_33 rfl ?_
        exact k1 (by omega)
      · refine vr_iload (q := 27) dX8_doubted_25 rfl rfl ?_
        refine vr_iconst (q := 28) dX8_doubted_27 rfl ⟨by decide, by decide⟩ ?_
        refine vr_ic_le (t := 34) (q := 31) dX8_doubted_28 (by decide) rfl (fun c28 => ?_) (fun c28 => ?_)
        · exact r34 (by omega)
        · refine vr_ldc (x := -1000001) (q := 33) dX8_doubted_31 rfl ⟨by decide, by decide⟩ qX8_69 ?_
          refine vr_iret dX8_doubted_33 rfl ?_
          exact k1 (by omega)
    · refine vr_if_eq (t := 31) (q := 20) dX8_doubted_17 (by decide) rfl (fun _ => ?_) (fun c9 => absurd c9 (by omega))
      refine vr_ldc (x := -1000001) (q := 33) dX8_doubted_31 rfl ⟨by decide, by decide⟩ qX8_69 ?_
      refine vr_iret dX8_doubted_33 rfl ?_
      exact k1 (by omega)
  · refine vr_if_eq (t := 31) (q := 11) dX8_doubted_8 (by decide) rfl (fun _ => ?_) (fun c9 => absurd c9 (by omega))
    refine vr_ldc (x := -1000001) (q := 33) dX8_doubted_31 rfl ⟨by decide, by decide⟩ qX8_69 ?_
    refine vr_iret dX8_doubted_33 rfl ?_
    exact k1 (by omega)
theorem x_trusted {s r i n : Int} (o : to_ h) (ho : ∀ r, 0 ≤ r → r < 8 → 0 ≤ h 3 r ∧ h 3 r ≤ 40) (k1 : ¬ ((0 ≤ s ∧ s < h 7 3) ∧ ((0 ≤ r ∧ r < 8) ∧ (0 ≤ n ∧ n ≤ 6))) → Post (some (sv_i (-1000001))) h) (k2 : ((0 ≤ s ∧ s < h 7 3) ∧ ((0 ≤ r ∧ r < 8) ∧ (0 ≤ n ∧ n ≤ 6))) → h 2 r = -1 → Post (some (sv_i (-1000010 - 1))) (hs_ h 0 8 1)) (k3 : ((0 ≤ s ∧ s < h 7 3) ∧ ((0 ≤ r ∧ r < 8) ∧ (0 ≤ n ∧ n ≤ 6))) → ¬ h 2 r = -1 → ¬ (0 ≤ i ∧ i + 2 * n ≤ h 3 r) → Post (some (sv_i (-1000010 - 2))) (hs_ h 0 8 2)) (k4 : ((0 ≤ s ∧ s < h 7 3) ∧ ((0 ≤ r ∧ r < 8) ∧ (0 ≤ n ∧ n ≤ 6))) → ¬ h 2 r = -1 → (0 ≤ i ∧ i + 2 * n ≤ h 3 r) → ¬ (∀ t, 0 ≤ t → t < n → 0 ≤ h 4 (r * 40 + i + 2 * t) ∧ h 4 (r * 40 + i + 2 * t) < h 7 2) → ∀ h2, fk_ h h2 → Post (some (sv_i (-1000001))) h2) (k5 : ((0 ≤ s ∧ s < h 7 3) ∧ ((0 ≤ r ∧ r < 8) ∧ (0 ≤ n ∧ n ≤ 6))) → ¬ h 2 r = -1 → (0 ≤ i ∧ i + 2 * n ≤ h 3 r) → (∀ t, 0 ≤ t → t < n → 0 ≤ h 4 (r * 40 + i + 2 * t) ∧ h 4 (r * 40 + i + 2 * t) < h 7 2) → ∀ h2, fk_ h h2 → Post (some (sv_i (tb_ (fun j => go_ h (r * 40 + i) n (j, h 12 s, (en_ h s).2.2)) 21 0 0))) (hs_ h2 0 8 0)) : Ctr_ g (d + 6) mX8_trusted [sv_r 4 7 0, sv_i s, sv_i r, sv_i i, sv_i n] h Post := by
  have r31 : ∀ (v : Int) (h2 : SH_), v ≠ 0 → Post (some (sv_i v)) h2 → V_ g (d + 6) mX8_trusted 31 [some (sv_r 4 7 0), some (sv_i s), some (sv_i r), some (sv_i i), some (sv_i n), none, none, none] [sv_i v] h2 Post := by
    intro v h2 hv kk
    refine vr_istore (q := 33) dX8_trusted_31 rfl (Nat.le_of_ble_eq_true rfl) rfl rfl ?_
    refine vr_iload (q := 35) dX8_trusted_33 rfl rfl ?_
    -- at X8.trusted 35: .ifCond .eq 6
    refine vr_if_eq (t := 41) (q := 38) dX8_trusted_35 (by decide) rfl (fun c9 => absurd c9 (by omega)) (fun _ => ?_)
    refine vr_iload (q := 40) dX8_trusted_38 rfl rfl ?_
    refine vr_iret dX8_trusted_40 rfl ?_
    first | exact kk | (exfalso; omega) | (repeat (first | exact kk | rw [if_pos (by omega)] at kk | rw [if_neg (by omega)] at kk))
  have r23 : ((0 ≤ s ∧ s < h 7 3) ∧ ((0 ≤ r ∧ r < 8) ∧ (0 ≤ n ∧ n ≤ 6))) → V_ g (d + 6) mX8_trusted 23 [some (sv_r 4 7 0), some (sv_i s), some (sv_i r), some (sv_i i), some (sv_i n), none, none, none] [] h Post := by
    intro c
    refine vr_aload_n (q := 24) dX8_trusted_23 rfl rfl ?_
    refine vr_iload_n (q := 25) dX8_trusted_24 rfl rfl ?_
    refine vr_iload_n (q := 26) dX8_trusted_25 rfl rfl ?_
    refine vr_iload (q := 28) dX8_trusted_26 rfl rfl ?_
    -- at X8.trusted 28: .invokevirtual 252
    refine vr_iv3 (q := 31) dX8_trusted_28 rfl vX8_252 (Nat.le_of_ble_eq_true rfl) ?_
    refine c_xTake o ho c.2.1 c.2.2 (fun a1 => ?_) (fun a1 a2 => ?_) (fun a1 a2 a3 h2 f2 => ?_) (fun a1 a2 a3 h2 t2 => ?_)
    · exact r31 _ _ (by decide) (k2 c a1)
    · exact r31 _ _ (by decide) (k3 c a1 a2)
    · exact r31 _ _ (by decide) (k4 c a1 a2 a3 h2 f2)
    · refine vr_istore (q := 33) dX8_trusted_31 rfl (Nat.le_of_ble_eq_true rfl) rfl rfl ?_
      refine vr_iload (q := 35) dX8_trusted_33 rfl rfl ?_
      -- at X8.trusted 35: .ifCond .eq 6
      refine vr_if_eq (t := 41) (q := 38) dX8_trusted_35 (by decide) rfl (fun _ => ?_) (fun c9 => absurd c9 (by omega))
      refine vr_iconst (q := 42) dX8_trusted_41 rfl ⟨by decide, by decide⟩ ?_
      refine vr_istore (q := 44) dX8_trusted_42 rfl (Nat.le_of_ble_eq_true rfl) rfl rfl ?_
      refine vr_iconst (q := 45) dX8_trusted_44 rfl ⟨by decide, by decide⟩ ?_
      refine vr_istore (q := 47) dX8_trusted_45 rfl (Nat.le_of_ble_eq_true rfl) rfl rfl ?_
      -- at X8.trusted 47: .iload 7
      exact l_trusted o c.1 c.2.2 a3 (fun _ => rfl) (k5 c a1 a2 a3) 21 0 0 h2 0 rfl rfl t2
  refine V_mk (by decide +kernel) (Or.inr (Or.inl ⟨rfl, rfl⟩)) (Nat.le_of_ble_eq_true rfl) (by simp [sv_c]) ?_
  show V_ _ _ _ 0 [_, _, _, _, _, _, _, _] [] _ _
  refine vr_aload_n (q := 1) dX8_trusted_0 rfl rfl ?_
  refine vr_getA (q := 4) dX8_trusted_1 rfl fX8_26 rfl ⟨by decide, by decide, rfl⟩ ?_
  refine vr_iload_n (q := 5) dX8_trusted_4 rfl rfl ?_
  refine vr_iv1 (q := 8) dX8_trusted_5 rfl vX8_132 (Nat.le_of_ble_eq_true rfl) ?_
  refine c_hasStranger (fun c5 => ?_) (fun c5 => ?_)
  · refine vr_if_eq (t := 20) (q := 11) dX8_trusted_8 (by decide) rfl (fun c9 => absurd c9 (by omega)) (fun _ => ?_)
    refine vr_iload_n (q := 12) dX8_trusted_11 rfl rfl ?_
    refine vr_iload (q := 14) dX8_trusted_12 rfl rfl ?_
    refine vr_is2 (q := 17) dX8_trusted_14 rfl vX8_249 (Nat.le_of_ble_eq_true rfl) ?_
    refine c_isTelling (fun c14 => ?_) (fun c14 => ?_)
    · refine vr_if_ne (t := 23) (q := 20) dX8_trusted_17 (by decide) rfl (fun _ => ?_) (fun c9 => absurd c9 (by omega))
      exact r23 (by omega)
    · refine vr_if_ne (t := 23) (q := 20) dX8_trusted_17 (by decide) rfl (fun c9 => absurd c9 (by omega)) (fun _ => ?_)
      refine vr_ldc (x := -1000001) (q := 22) dX8_trusted_20 rfl ⟨by decide, by decide⟩ qX8_69 ?_
      refine vr_iret dX8_trusted_22 rfl ?_
      exact k1 (by omega)
  · refine vr_if_eq (t := 20) (q := 11) dX8_trusted_8 (by decide) rfl (fun _ => ?_) (fun c9 => absurd c9 (by omega))
    refine vr_ldc (x := -1000001) (q := 22) dX8_trusted_20 rfl ⟨by decide, by decide⟩ qX8_69 ?_
    refine vr_iret dX8_trusted_22 rfl ?_
    exact k1 (by omega)
theorem x_who {r i n : Int} (o : to_ h) (ho : ∀ r, 0 ≤ r → r < 8 → 0 ≤ h 3 r ∧ h 3 r ≤ 40) (k0 : ¬ 0 < h 7 0 → Post (some (sv_i (-1000002))) h) (k1 : 0 < h 7 0 → ¬ ((0 ≤ r ∧ r < 8) ∧ (0 ≤ n ∧ n ≤ 6)) → Post (some (sv_i (-1000001))) h) (k2 : 0 < h 7 0 → ((0 ≤ r ∧ r < 8) ∧ (0 ≤ n ∧ n ≤ 6)) → h 2 r = -1 → Post (some (sv_i (-1000010 - 1))) (hs_ h 0 8 1)) (k3 : 0 < h 7 0 → ((0 ≤ r ∧ r < 8) ∧ (0 ≤ n ∧ n ≤ 6)) → ¬ h 2 r = -1 → ¬ (0 ≤ i ∧ i + 2 * n ≤ h 3 r) → Post (some (sv_i (-1000010 - 2))) (hs_ h 0 8 2)) (k4 : 0 < h 7 0 → ((0 ≤ r ∧ r < 8) ∧ (0 ≤ n ∧ n ≤ 6)) → ¬ h 2 r = -1 → (0 ≤ i ∧ i + 2 * n ≤ h 3 r) → ¬ (∀ t, 0 ≤ t → t < n → 0 ≤ h 4 (r * 40 + i + 2 * t) ∧ h 4 (r * 40 + i + 2 * t) < h 7 2) → ∀ h2, fk_ h h2 → Post (some (sv_i (-1000001))) h2) (k5 : 0 < h 7 0 → ((0 ≤ r ∧ r < 8) ∧ (0 ≤ n ∧ n ≤ 6)) → ¬ h 2 r = -1 → (0 ≤ i ∧ i + 2 * n ≤ h 3 r) → (∀ t, 0 ≤ t → t < n → 0 ≤ h 4 (r * 40 + i + 2 * t) ∧ h 4 (r * 40 + i + 2 * t) < h 7 2) → ∀ h2, fk_ h h2 → Post (some (sv_i (tb_ (fun j => go_ h (r * 40 + i) n (h 11 j, h 12 j, (en_ h j).2.2)) (h 7 3).toNat 0 0))) (hs_ h2 0 8 0)) : Ctr_ g (d + 6) mX8_who [sv_r 4 7 0, sv_i r, sv_i i, sv_i n] h Post := by
  have o2 := o.2.1
  have r31 : ∀ (v : Int) (h2 : SH_), v ≠ 0 → Post (some (sv_i v)) h2 → V_ g (d + 6) mX8_who 31 [some (sv_r 4 7 0), some (sv_i r), some (sv_i i), some (sv_i n), none, none, none] [sv_i v] h2 Post := by
    intro v h2 hv kk
    refine vr_istore (q := 33) dX8_who_31 rfl (Nat.le_of_ble_eq_true rfl) rfl rfl ?_
    refine vr_iload (q := 35) dX8_who_33 rfl rfl ?_
    -- at X8.who 35: .ifCond .eq 6
    refine vr_if_eq (t := 41) (q := 38) dX8_who_35 (by decide) rfl (fun c9 => absurd c9 (by omega)) (fun _ => ?_)
    refine vr_iload (q := 40) dX8_who_38 rfl rfl ?_
    refine vr_iret dX8_who_40 rfl ?_
    first | exact kk | (exfalso; omega) | (repeat (first | exact kk | rw [if_pos (by omega)] at kk | rw [if_neg (by omega)] at kk))
  have r24 : 0 < h 7 0 → ((0 ≤ r ∧ r < 8) ∧ (0 ≤ n ∧ n ≤ 6)) → V_ g (d + 6) mX8_who 24 [some (sv_r 4 7 0), some (sv_i r), some (sv_i i), some (sv_i n), none, none, none] [] h Post := by
    intro c0 c
    refine vr_aload_n (q := 25) dX8_who_24 rfl rfl ?_
    refine vr_iload_n (q := 26) dX8_who_25 rfl rfl ?_
    refine vr_iload_n (q := 27) dX8_who_26 rfl rfl ?_
    refine vr_iload_n (q := 28) dX8_who_27 rfl rfl ?_
    -- at X8.who 28: .invokevirtual 252
    refine vr_iv3 (q := 31) dX8_who_28 rfl vX8_252 (Nat.le_of_ble_eq_true rfl) ?_
    refine c_xTake o ho c.1 c.2 (fun a1 => ?_) (fun a1 a2 => ?_) (fun a1 a2 a3 h2 f2 => ?_) (fun a1 a2 a3 h2 t2 => ?_)
    · exact r31 _ _ (by decide) (k2 c0 c a1)
    · exact r31 _ _ (by decide) (k3 c0 c a1 a2)
    · exact r31 _ _ (by decide) (k4 c0 c a1 a2 a3 h2 f2)
    · refine vr_istore (q := 33) dX8_who_31 rfl (Nat.le_of_ble_eq_true rfl) rfl rfl ?_
      refine vr_iload (q := 35) dX8_who_33 rfl rfl ?_
      -- at X8.who 35: .ifCond .eq 6
      refine vr_if_eq (t := 41) (q := 38) dX8_who_35 (by decide) rfl (fun _ => ?_) (fun c9 => absurd c9 (by omega))
      refine vr_iconst (q := 42) dX8_who_41 rfl ⟨by decide, by decide⟩ ?_
      refine vr_istore (q := 44) dX8_who_42 rfl (Nat.le_of_ble_eq_true rfl) rfl rfl ?_
      refine vr_iconst (q := 45) dX8_who_44 rfl ⟨by decide, by decide⟩ ?_
      refine vr_istore (q := 47) dX8_who_45 rfl (Nat.le_of_ble_eq_true rfl) rfl rfl ?_
      -- at X8.who 47: .iload 6
      exact l_who o c.2 a3 (fun _ => rfl) (k5 c0 c a1 a2 a3) (h 7 3).toNat 0 0 h2 0 (by omega) rfl t2
  refine V_mk (by decide +kernel) (Or.inr (Or.inl ⟨rfl, rfl⟩)) (Nat.le_of_ble_eq_true rfl) (by simp [sv_c]) ?_
  show V_ _ _ _ 0 [_, _, _, _, _, _, _] [] _ _
  refine vr_aload_n (q := 1) dX8_who_0 rfl rfl ?_
  refine vr_getA (q := 4) dX8_who_1 rfl fX8_26 rfl ⟨by decide, by decide, rfl⟩ ?_
  refine vr_iv0 (q := 7) dX8_who_4 rfl vX8_258 (Nat.le_of_ble_eq_true rfl) ?_
  refine c_stands (fun c4 => ?_) (fun c4 => ?_)
  · refine vr_if_ne (t := 13) (q := 10) dX8_who_7 (by decide) rfl (fun _ => ?_) (fun c9 => absurd c9 (by omega))
    refine vr_iload_n (q := 14) dX8_who_13 rfl rfl ?_
    refine vr_iload_n (q := 15) dX8_who_14 rfl rfl ?_
    refine vr_is2 (q := 18) dX8_who_15 rfl vX8_249 (Nat.le_of_ble_eq_true rfl) ?_
    refine c_isTelling (fun c15 => ?_) (fun c15 => ?_)
    · refine vr_if_ne (t := 24) (q := 21) dX8_who_18 (by decide) rfl (fun _ => ?_) (fun c9 => absurd c9 (by omega))
      exact r24 (by omega) (by omega)
    · refine vr_if_ne (t := 24) (q := 21) dX8_who_18 (by decide) rfl (fun c9 => absurd c9 (by omega)) (fun _ => ?_)
      refine vr_ldc (x := -1000001) (q := 23) dX8_who_21 rfl ⟨by decide, by decide⟩ qX8_69 ?_
      refine vr_iret dX8_who_23 rfl ?_
      first | exact k0 (by omega) | exact k1 (by omega) (by omega)
  · refine vr_if_ne (t := 13) (q := 10) dX8_who_7 (by decide) rfl (fun c9 => absurd c9 (by omega)) (fun _ => ?_)
    refine vr_ldc (x := -1000002) (q := 12) dX8_who_10 rfl ⟨by decide, by decide⟩ qX8_142 ?_
    refine vr_iret dX8_who_12 rfl ?_
    first | exact k0 (by omega) | exact k1 (by omega) (by omega)
end PN6_
