section PN7_
variable {g : SG_} {d : Nat} {h : SH_} {Post : Option SV_ → SH_ → Prop}
theorem l_help2 {s w a : Int} {y : Int × Int} (o : to_ h) (hs : 0 ≤ s ∧ s < h 7 3) (ha : 0 ≤ a ∧ a < h 7 2) (kk : ∀ (b : Int) (h2 : SH_), fk_ h h2 → (0 ≤ y.1 ∧ y.1 ≤ 8 * a + 8) → V_ g (d + 8) mX8_help 112 [some (sv_r 4 7 0), some (sv_i s), some (sv_i w), some (sv_i y.1), some (sv_i y.2), some (sv_i a), some (sv_i b)] [] h2 Post) : ∀ (c : Nat) (b : Int) (x : Int × Int) (hq : SH_), b + c = h 7 2 → a < b → (0 ≤ x.1 ∧ x.1 ≤ 8 * a + b) → y = hq_ h s c a b x → fk_ h hq → V_ g (d + 8) mX8_help 50 [some (sv_r 4 7 0), some (sv_i s), some (sv_i w), some (sv_i x.1), some (sv_i x.2), some (sv_i a), some (sv_i b)] [] hq Post := by
  intro c
  have o1 := o.1
  induction c with
  | zero =>
    intro b x hq hb hab hx ef hT
    have e0 : hq_ h s 0 a b x = x := rfl
    have e7 := hT 7 (by omega)
    rw [ef, e0] at kk
    refine vr_iload (q := 52) dX8_help_50 rfl rfl ?_
    refine vr_aload_n (q := 53) dX8_help_52 rfl rfl ?_
    refine vr_getA (q := 56) dX8_help_53 rfl fX8_26 rfl ⟨by decide, by decide, rfl⟩ ?_
    refine vr_getV (ji := 2) (q := 59) dX8_help_56 rfl fX8_239 rfl rfl (by rw [e7]) ?_
    -- at X8.help 59: .if_icmp .ge 53
    refine vr_ic_ge (t := 112) (q := 62) dX8_help_59 (by decide) rfl (fun _ => ?_) (fun c9 => absurd c9 (by omega))
    exact kk b hq hT ⟨by omega, by omega⟩
  | succ c ih =>
    intro b x hq hb hab hx ef hT
    have e2 : hq_ h s (c + 1) a b x = hq_ h s c a (b + 1) (if hp_ h s a b = 0 then x else (x.1 + 1, if x.2 = -1000000 then 10 * a + b else x.2)) := rfl
    have e7 := hT 7 (by omega)
    refine vr_iload (q := 52) dX8_help_50 rfl rfl ?_
    refine vr_aload_n (q := 53) dX8_help_52 rfl rfl ?_
    refine vr_getA (q := 56) dX8_help_53 rfl fX8_26 rfl ⟨by decide, by decide, rfl⟩ ?_
    refine vr_getV (ji := 2) (q := 59) dX8_help_56 rfl fX8_239 rfl rfl (by rw [e7]) ?_
    -- at X8.help 59: .if_icmp .ge 53
    refine vr_ic_ge (t := 112) (q := 62) dX8_help_59 (by decide) rfl (fun c9 => absurd c9 (by omega)) (fun _ => ?_)
    refine vr_aload_n (q := 63) dX8_help_62 rfl rfl ?_
    refine vr_getA (q := 66) dX8_help_63 rfl fX8_47 rfl ⟨by decide, by decide, rfl⟩ ?_
    refine vr_aload_n (q := 67) dX8_help_66 rfl rfl ?_
    refine vr_getA (q := 70) dX8_help_67 rfl fX8_26 rfl ⟨by decide, by decide, rfl⟩ ?_
    refine vr_iload_n (q := 71) dX8_help_70 rfl rfl ?_
    refine vr_iload (q := 73) dX8_help_71 rfl rfl ?_
    refine vr_iload (q := 75) dX8_help_73 rfl rfl ?_
    -- at X8.help 75: .invokevirtual 242
    refine vr_iv4 (q := 78) dX8_help_75 rfl vX8_242 (Nat.le_of_ble_eq_true rfl) ?_
    refine c_helpEachOther (fk_to hT o) (by rw [e7]; exact hs) (by rw [e7]; exact ha) (by rw [e7]; exact ⟨by omega, by omega⟩) (fun h2 hT2 => ?_)
    rw [hp_k hT]
    have hT3 := fk_t hT hT2
    refine vr_if_eq (t := 106) (q := 81) dX8_help_78 (by decide) rfl (fun c1 => ?_) (fun c1 => ?_)
    · rw [if_pos c1] at e2
      refine vr_iinc (q := 109) dX8_help_106 rfl rfl ⟨by omega, by omega⟩ (Nat.le_of_ble_eq_true rfl) rfl rfl ?_
      refine vr_goto (q := 50) dX8_help_109 (by decide) ?_
      -- at X8.help 50: .iload 6
      exact ih (b + 1) x h2 (by omega) (by omega) ⟨by omega, by omega⟩ (ef.trans e2) hT3
    · rw [if_neg c1] at e2
      refine vr_iinc (q := 84) dX8_help_81 rfl rfl ⟨by omega, by omega⟩ (Nat.le_of_ble_eq_true rfl) rfl rfl ?_
      refine vr_iload (q := 86) dX8_help_84 rfl rfl ?_
      refine vr_ldc (x := -1000000) (q := 88) dX8_help_86 rfl ⟨by decide, by decide⟩ qX8_235 ?_
      -- at X8.help 88: .if_icmp .ne 14
      refine vr_ic_ne (t := 102) (q := 91) dX8_help_88 (by decide) rfl (fun c2 => ?_) (fun c2 => ?_)
      · rw [if_neg c2] at e2
        refine vr_iload (q := 104) dX8_help_102 rfl rfl ?_
        refine vr_istore (q := 106) dX8_help_104 rfl (Nat.le_of_ble_eq_true rfl) rfl rfl ?_
        refine vr_iinc (q := 109) dX8_help_106 rfl rfl ⟨by omega, by omega⟩ (Nat.le_of_ble_eq_true rfl) rfl rfl ?_
        refine vr_goto (q := 50) dX8_help_109 (by decide) ?_
        -- at X8.help 50: .iload 6
        exact ih (b + 1) (x.1 + 1, x.2) h2 (by omega) (by omega) ⟨by show 0 ≤ x.1 + 1; omega, by show x.1 + 1 ≤ 8 * a + (b + 1); omega⟩ (ef.trans e2) hT3
      · rw [if_pos (by omega)] at e2
        refine vr_bipush (q := 93) dX8_help_91 rfl ⟨by decide, by decide⟩ (by decide) ?_
        refine vr_iload (q := 95) dX8_help_93 rfl rfl ?_
        refine vr_imulN (q := 96) dX8_help_95 rfl ⟨by omega, by omega⟩ ?_
        refine vr_iload (q := 98) dX8_help_96 rfl rfl ?_
        refine vr_iaddN (q := 99) dX8_help_98 rfl ⟨by omega, by omega⟩ ?_
        refine vr_goto (q := 104) dX8_help_99 (by decide) ?_
        refine vr_istore (q := 106) dX8_help_104 rfl (Nat.le_of_ble_eq_true rfl) rfl rfl ?_
        refine vr_iinc (q := 109) dX8_help_106 rfl rfl ⟨by omega, by omega⟩ (Nat.le_of_ble_eq_true rfl) rfl rfl ?_
        refine vr_goto (q := 50) dX8_help_109 (by decide) ?_
        -- at X8.help 50: .iload 6
        exact ih (b + 1) (x.1 + 1, 10 * a + b) h2 (by omega) (by omega) ⟨by show 0 ≤ x.1 + 1; omega, by show x.1 + 1 ≤ 8 * a + (b + 1); omega⟩ (ef.trans e2) hT3
theorem l_help1 {s w : Int} {y : Int × Int} (o : to_ h) (hs : 0 ≤ s ∧ s < h 7 3) (kk : ∀ h2, fk_ h h2 → Post (some (sv_i (if w = 0 then y.1 else y.2))) h2) : ∀ (c : Nat) (a : Int) (x : Int × Int) (hq : SH_) (o6 : Option SV_), 0 ≤ a → a + c = h 7 2 → (0 ≤ x.1 ∧ x.1 ≤ 8 * a) → y = hr_ h s c a x → fk_ h hq → V_ g (d + 8) mX8_help 32 [some (sv_r 4 7 0), some (sv_i s), some (sv_i w), some (sv_i x.1), some (sv_i x.2), some (sv_i a), o6] [] hq Post := by
  intro c
  have o1 := o.1
  induction c with
  | zero =>
    intro a x hq o6 ha0 ha hx ef hT
    have e0 : hr_ h s 0 a x = x := rfl
    have e7 := hT 7 (by omega)
    rw [ef, e0] at kk
    refine vr_iload (q := 34) dX8_help_32 rfl rfl ?_
    refine vr_aload_n (q := 35) dX8_help_34 rfl rfl ?_
    refine vr_getA (q := 38) dX8_help_35 rfl fX8_26 rfl ⟨by decide, by decide, rfl⟩ ?_
    refine vr_getV (ji := 2) (q := 41) dX8_help_38 rfl fX8_239 rfl rfl (by rw [e7]) ?_
    -- at X8.help 41: .if_icmp .ge 77
    refine vr_ic_ge (t := 118) (q := 44) dX8_help_41 (by decide) rfl (fun _ => ?_) (fun c9 => absurd c9 (by omega))
    refine vr_iload_n (q := 119) dX8_help_118 rfl rfl ?_
    refine vr_if_ne (t := 126) (q := 122) dX8_help_119 (by decide) rfl (fun c119 => ?_) (fun c119 => ?_)
    · refine vr_iload (q := 128) dX8_help_126 rfl rfl ?_
      refine vr_iret dX8_help_128 rfl ?_
      first | (rw [if_pos (by assumption)] at kk; exact kk hq hT) | (rw [if_neg (by assumption)] at kk; exact kk hq hT)
    · refine vr_iload_n (q := 123) dX8_help_122 rfl rfl ?_
      refine vr_goto (q := 128) dX8_help_123 (by decide) ?_
      refine vr_iret dX8_help_128 rfl ?_
      first | (rw [if_pos (by assumption)] at kk; exact kk hq hT) | (rw [if_neg (by assumption)] at kk; exact kk hq hT)
  | succ c ih =>
    intro a x hq o6 ha0 ha hx ef hT
    have e2 : hr_ h s (c + 1) a x = hr_ h s c (a + 1) (hq_ h s (h 7 2 - (a + 1)).toNat a (a + 1) x) := rfl
    have e7 := hT 7 (by omega)
    refine vr_iload (q := 34) dX8_help_32 rfl rfl ?_
    refine vr_aload_n (q := 35) dX8_help_34 rfl rfl ?_
    refine vr_getA (q := 38) dX8_help_35 rfl fX8_26 rfl ⟨by decide, by decide, rfl⟩ ?_
    refine vr_getV (ji := 2) (q := 41) dX8_help_38 rfl fX8_239 rfl rfl (by rw [e7]) ?_
    -- at X8.help 41: .if_icmp .ge 77
    refine vr_ic_ge (t := 118) (q := 44) dX8_help_41 (by decide) rfl (fun c9 => absurd c9 (by omega)) (fun _ => ?_)
    refine vr_iload (q := 46) dX8_help_44 rfl rfl ?_
    refine vr_iconst (q := 47) dX8_help_46 rfl ⟨by decide, by decide⟩ ?_
    refine vr_iaddN (q := 48) dX8_help_47 rfl ⟨by omega, by omega⟩ ?_
    refine vr_istore (q := 50) dX8_help_48 rfl (Nat.le_of_ble_eq_true rfl) rfl rfl ?_
    -- at X8.help 50: .iload 6
    refine l_help2 (y := hq_ h s (h 7 2 - (a + 1)).toNat a (a + 1) x) o hs ⟨by omega, by omega⟩ (fun b h2 f2 hy => ?_) (h 7 2 - (a + 1)).toNat (a + 1) x hq (by omega) (by omega) ⟨by omega, by omega⟩ rfl hT
    refine vr_iinc (q := 115) dX8_help_112 rfl rfl ⟨by omega, by omega⟩ (Nat.le_of_ble_eq_true rfl) rfl rfl ?_
    refine vr_goto (q := 32) dX8_help_115 (by decide) ?_
    -- at X8.help 32: .iload 5
    exact ih (a + 1) _ h2 _ (by omega) (by omega) ⟨hy.1, by omega⟩ (ef.trans e2) f2
theorem x_help {s w : Int} (o : to_ h) (k1 : ¬ ((0 ≤ s ∧ s < h 7 3) ∧ (0 ≤ w ∧ w ≤ 1)) → Post (some (sv_i (-1000001))) h) (k2 : ((0 ≤ s ∧ s < h 7 3) ∧ (0 ≤ w ∧ w ≤ 1)) → ∀ h2, fk_ h h2 → Post (some (sv_i (if w = 0 then (hr_ h s (h 7 2).toNat 0 (0, -1000000)).1 else (hr_ h s (h 7 2).toNat 0 (0, -1000000)).2))) h2) : Ctr_ g (d + 8) mX8_help [sv_r 4 7 0, sv_i s, sv_i w] h Post := by
  have o1 := o.1
  have r23 : ((0 ≤ s ∧ s < h 7 3) ∧ (0 ≤ w ∧ w ≤ 1)) → V_ g (d + 8) mX8_help 23 [some (sv_r 4 7 0), some (sv_i s), some (sv_i w), none, none, none, none] [] h Post := by
    intro c
    refine vr_iconst (q := 24) dX8_help_23 rfl ⟨by decide, by decide⟩ ?_
    refine vr_istore_n (q := 25) dX8_help_24 rfl rfl (Nat.le_of_ble_eq_true rfl) rfl rfl ?_
    refine vr_ldc (x := -1000000) (q := 27) dX8_help_25 rfl ⟨by decide, by decide⟩ qX8_235 ?_
    refine vr_istore (q := 29) dX8_help_27 rfl (Nat.le_of_ble_eq_true rfl) rfl rfl ?_
    refine vr_iconst (q := 30) dX8_help_29 rfl ⟨by decide, by decide⟩ ?_
    refine vr_istore (q := 32) dX8_help_30 rfl (Nat.le_of_ble_eq_true rfl) rfl rfl ?_
    -- at X8.help 32: .iload 5
    exact l_help1 (y := hr_ h s (h 7 2).toNat 0 (0, -1000000)) o c.1 (k2 c) (h 7 2).toNat 0 (0, -1000000) h none (by omega) (by omega) ⟨by decide, by decide⟩ rfl (fk_r h)
  refine V_mk (by decide +kernel) (Or.inr (Or.inl ⟨rfl, rfl⟩)) (Nat.le_of_ble_eq_true rfl) (by simp [sv_c]) ?_
  show V_ _ _ _ 0 [_, _, _, _, _, _, _] [] _ _
  refine vr_aload_n (q := 1) dX8_help_0 rfl rfl ?_
  refine vr_getA (q := 4) dX8_help_1 rfl fX8_26 rfl ⟨by decide, by decide, rfl⟩ ?_
  refine vr_iload_n (q := 5) dX8_help_4 rfl rfl ?_
  refine vr_iv1 (q := 8) dX8_help_5 rfl vX8_132 (Nat.le_of_ble_eq_true rfl) ?_
  refine c_hasStranger (fun c5 => ?_) (fun c5 => ?_)
  · refine vr_if_eq (t := 20) (q := 11) dX8_help_8 (by decide) rfl (fun c9 => absurd c9 (by omega)) (fun _ => ?_)
    refine vr_iload_n (q := 12) dX8_help_11 rfl rfl ?_
    refine vr_if_lt (t := 20) (q := 15) dX8_help_12 (by decide) rfl (fun c12 => ?_) (fun c12 => ?_)
    · refine vr_ldc (x := -1000001) (q := 22) dX8_help_20 rfl ⟨by decide, by decide⟩ qX8_69 ?_
      refine vr_iret dX8_help_22 rfl ?_
      exact k1 (by omega)
    · refine vr_iload_n (q := 16) dX8_help_15 rfl rfl ?_
      refine vr_iconst (q := 17) dX8_help_16 rfl ⟨by decide, by decide⟩ ?_
      refine vr_ic_le (t := 23) (q := 20) dX8_help_17 (by decide) rfl (fun c17 => ?_) (fun c17 => ?_)
      · exact r23 ⟨by omega, by omega⟩
      · refine vr_ldc (x := -1000001) (q := 22) dX8_help_20 rfl ⟨by decide, by decide⟩ qX8_69 ?_
        refine vr_iret dX8_help_22 rfl ?_
        exact k1 (by omega)
  · refine vr_if_eq (t := 20) (q := 11) dX8_help_8 (by decide) rfl (fun _ => ?_) (fun c9 => absurd c9 (by omega))
    refine vr_ldc (x := -1000001) (q := 22) dX8_help_20 rfl ⟨by decide, by decide⟩ qX8_69 ?_
    refine vr_iret dX8_help_22 rfl ?_
    exact k1 (by omega)
end PN7_
