theorem dc_i (f : Int → Int) : ∀ (k : Nat) (j B : Int) (x : Int × Int), 0 ≤ j → hiv_ B x → hiv_ (B + k) (dc_ f k j x) := by
  intro k
  induction k with
  | zero =>
    intro j B x _ hx
    rw [show B + ((0 : Nat) : Int) = B by omega]
    exact hx
  | succ k ih =>
    intro j B x hj hx
    have h2 := ih (j + 1) (B + 1) _ (by omega) (hiv_s (v := f j) j (by omega) hx)
    rw [show B + ((k + 1 : Nat) : Int) = B + 1 + k by omega]
    exact h2
theorem go_01 (p : SH_) (q n : Int) (m : MU_) : go_ p q n m = 0 ∨ go_ p q n m = 1 := gs_01 _ _ _ _ _ _
theorem tb_sr (f : Int → Int) : ∀ (k : Nat) (j x : Int), sr_32 x → sr_32 (tb_ f k j x) := by
  intro k
  induction k with
  | zero => intro j x hx; exact hx
  | succ k ih =>
    intro j x hx
    refine ih (j + 1) _ ?_
    split
    · exact hx
    · exact sr_32t _
section PM16_
variable {g : SG_} {d : Nat} {h p : SH_} {Post : Option SV_ → SH_ → Prop}
theorem lm_doubted {s r i n w v6 : Int} (c : cpl_ p h) (rc : rcp_ p h) (hs : 0 ≤ s ∧ s < p 7 3) (hr : 0 ≤ r ∧ r < 8) (hn : 0 ≤ n ∧ n ≤ 6) (q1 : ¬ p 2 r = -1) (q2 : 0 ≤ i ∧ i + 2 * n ≤ p 3 r) (q3 : rtl_ p (r * 40 + i) n) : ∀ (k : Nat) (j : Int) (x : Int × Int) (o10 : Option SV_) (m : MU_), 0 ≤ j → j + k = 16 → hiv_ j x → (∀ m2, Post (some (sv_i (if w = 0 then (dc_ (fun j => go_ p (r * 40 + i) n (p 11 s, j, (en_ p s).2.2)) k j x).1 else (dc_ (fun j => go_ p (r * 40 + i) n (p 11 s, j, (en_ p s).2.2)) k j x).2))) (hs_ (mw_ h m2) 68 4 0)) → V_ g (d + 4) mX9_doubted 81 [some (sv_r 4 8 68), some (sv_i s), some (sv_i r), some (sv_i i), some (sv_i n), some (sv_i w), some (sv_i v6), some (sv_i x.1), some (sv_i x.2), some (sv_i j), o10] [] (mw_ h m) Post := by
  intro k
  have b1 := (rc r hr.1 hr.2).1
  have hm := en_mo c.1 hs
  induction k with
  | zero =>
    intro j x o10 m hj hk hx kk
    have kk2 : Post (some (sv_i (if w = 0 then x.1 else x.2))) (hs_ (mw_ h m) 68 4 0) := kk m
    refine vr_iload (q := 83) dX9_doubted_81 rfl rfl ?_
    refine vr_bipush (q := 85) dX9_doubted_83 rfl ⟨by decide, by decide⟩ (by decide) ?_
    -- at X9.doubted 85: .if_icmp .ge 68
    refine vr_ic_ge (t := 153) (q := 88) dX9_doubted_85 (by decide) rfl (fun _ => ?_) (fun c9 => absurd c9 (by omega))
    refine vr_aload_n (q := 154) dX9_doubted_153 rfl rfl ?_
    refine vr_iload (q := 156) dX9_doubted_154 rfl rfl ?_
    refine vr_if_ne (t := 164) (q := 159) dX9_doubted_156 (by decide) rfl (fun c156 => ?_) (fun c156 => ?_)
    · refine vr_iload (q := 166) dX9_doubted_164 rfl rfl ?_
      refine vr_iv1 (q := 169) dX9_doubted_166 rfl vX9_72 (Nat.le_of_ble_eq_true rfl) ?_
      refine m_well ?_
      refine vr_iret dX9_doubted_169 rfl ?_
      first | (rw [if_pos (by omega)] at kk2; exact kk2) | (rw [if_neg (by omega)] at kk2; exact kk2)
    · refine vr_iload (q := 161) dX9_doubted_159 rfl rfl ?_
      refine vr_goto (q := 166) dX9_doubted_161 (by decide) ?_
      refine vr_iv1 (q := 169) dX9_doubted_166 rfl vX9_72 (Nat.le_of_ble_eq_true rfl) ?_
      refine m_well ?_
      refine vr_iret dX9_doubted_169 rfl ?_
      first | (rw [if_pos (by omega)] at kk2; exact kk2) | (rw [if_neg (by omega)] at kk2; exact kk2)
  | succ k ih =>
    intro j x o10 m hj hk hx kk
    have e : ∀ f : Int → Int, dc_ f (k + 1) j x = dc_ f k (j + 1) (if f j = 0 then x else (x.1 + 1, if x.2 = -1000000 then j else x.2)) := fun _ => rfl
    have hx2 := hiv_s (v := go_ p (r * 40 + i) n (p 11 s, j, (en_ p s).2.2)) j (by omega) hx
    rw [e] at kk
    obtain ⟨i1, i2⟩ := hx
    refine vr_iload (q := 83) dX9_doubted_81 rfl rfl ?_
    refine vr_bipush (q := 85) dX9_doubted_83 rfl ⟨by decide, by decide⟩ (by decide) ?_
    -- at X9.doubted 85: .if_icmp .ge 68
    refine vr_ic_ge (t := 153) (q := 88) dX9_doubted_85 (by decide) rfl (fun c9 => absurd c9 (by omega)) (fun _ => ?_)
    refine vr_aload_n (q := 89) dX9_doubted_88 rfl rfl ?_
    refine vr_iload_n (q := 90) dX9_doubted_89 rfl rfl ?_
    -- at X9.doubted 90: .invokevirtual 176
    refine vr_iv1 (q := 93) dX9_doubted_90 rfl vX9_176 (Nat.le_of_ble_eq_true rfl) ?_
    refine m_trW c hs ?_
    refine vr_aload_n (q := 94) dX9_doubted_93 rfl rfl ?_
    refine vr_iload (q := 96) dX9_doubted_94 rfl rfl ?_
    refine vr_put (ji := 22) (q := 99) dX9_doubted_96 rfl pX9_147 rfl rfl ?_
    -- at X9.doubted 99: .aload_n 0
    rw [mw_h22]
    refine vr_aload_n (q := 100) dX9_doubted_99 rfl rfl ?_
    refine vr_bipush (q := 102) dX9_doubted_100 rfl ⟨by decide, by decide⟩ (by decide) ?_
    refine vr_iload_n (q := 103) dX9_doubted_102 rfl rfl ?_
    refine vr_imulN (q := 104) dX9_doubted_103 rfl ⟨by omega, by omega⟩ ?_
    refine vr_iload_n (q := 105) dX9_doubted_104 rfl rfl ?_
    refine vr_iaddN (q := 106) dX9_doubted_105 rfl ⟨by omega, by omega⟩ ?_
    refine vr_iload (q := 108) dX9_doubted_106 rfl rfl ?_
    -- at X9.doubted 108: .invokevirtual 219
    refine vr_iv2 (q := 111) dX9_doubted_108 rfl vX9_219 (Nat.le_of_ble_eq_true rfl) ?_
    refine m_goesSo (m := (p 11 s, j, (en_ p s).2.2)) c rc hr hn q1 q2 q3 ⟨hm.1, ⟨by show 0 ≤ j; omega, by show j < 16; omega⟩, hm.2.2.1, hm.2.2.2⟩ (fun m2 => ?_)
    rcases go_01 p (r * 40 + i) n (p 11 s, j, (en_ p s).2.2) with z | z
    · rw [z] at kk hx2 ⊢
      rw [if_pos (rfl : (0 : Int) = 0)] at kk hx2
      refine vr_istore (q := 113) dX9_doubted_111 rfl (Nat.le_of_ble_eq_true rfl) rfl rfl ?_
      refine vr_iload (q := 115) dX9_doubted_113 rfl rfl ?_
      refine vr_if_eq (t := 128) (q := 118) dX9_doubted_115 (by decide) rfl (fun _ => ?_) (fun c9 => absurd c9 (by omega))
      refine vr_iload (q := 130) dX9_doubted_128 rfl rfl ?_
      refine vr_istore (q := 132) dX9_doubted_130 rfl (Nat.le_of_ble_eq_true rfl) rfl rfl ?_
      refine vr_iload (q := 134) dX9_doubted_132 rfl rfl ?_
      refine vr_iload (q := 136) dX9_doubted_134 rfl rfl ?_
      refine vr_if_eq (t := 143) (q := 139) dX9_doubted_136 (by decide) rfl (fun _ => ?_) (fun c9 => absurd c9 (by omega))
      refine vr_iconst (q := 144) dX9_doubted_143 rfl ⟨by decide, by decide⟩ ?_
      refine vr_iaddN (q := 145) dX9_doubted_144 rfl ⟨by omega, by omega⟩ ?_
      rw [Int.add_zero x.1]
      refine vr_istore (q := 147) dX9_doubted_145 rfl (Nat.le_of_ble_eq_true rfl) rfl rfl ?_
      refine vr_iinc (q := 150) dX9_doubted_147 rfl rfl ⟨by omega, by omega⟩ (Nat.le_of_ble_eq_true rfl) rfl rfl ?_
      refine vr_goto (q := 81) dX9_doubted_150 (by decide) ?_
      exact ih (j + 1) x _ m2 (by omega) (by omega) hx2 kk
    · rw [z] at kk hx2 ⊢
      rw [if_neg (by decide : ¬ (1 : Int) = 0)] at kk hx2
      by_cases cx : x.1 = 0
      · rw [if_pos (i2.mp cx)] at kk hx2
        refine vr_istore (q := 113) dX9_doubted_111 rfl (Nat.le_of_ble_eq_true rfl) rfl rfl ?_
        refine vr_iload (q := 115) dX9_doubted_113 rfl rfl ?_
        refine vr_if_eq (t := 128) (q := 118) dX9_doubted_115 (by decide) rfl (fun c9 => absurd c9 (by omega)) (fun _ => ?_)
        refine vr_iload (q := 120) dX9_doubted_118 rfl rfl ?_
        refine vr_if_ne (t := 128) (q := 123) dX9_doubted_120 (by decide) rfl (fun c9 => absurd c9 (by omega)) (fun _ => ?_)
        refine vr_iload (q := 125) dX9_doubted_123 rfl rfl ?_
        refine vr_goto (q := 130) dX9_doubted_125 (by decide) ?_
        refine vr_istore (q := 132) dX9_doubted_130 rfl (Nat.le_of_ble_eq_true rfl) rfl rfl ?_
        refine vr_iload (q := 134) dX9_doubted_132 rfl rfl ?_
        refine vr_iload (q := 136) dX9_doubted_134 rfl rfl ?_
        refine vr_if_eq (t := 143) (q := 139) dX9_doubted_136 (by decide) rfl (fun c9 => absurd c9 (by omega)) (fun _ => ?_)
        refine vr_iconst (q := 140) dX9_doubted_139 rfl ⟨by decide, by decide⟩ ?_
        refine vr_goto (q := 144) dX9_doubted_140 (by decide) ?_
        refine vr_iaddN (q := 145) dX9_doubted_144 rfl ⟨by omega, by omega⟩ ?_
        refine vr_istore (q := 147) dX9_doubted_145 rfl (Nat.le_of_ble_eq_true rfl) rfl rfl ?_
        refine vr_iinc (q := 150) dX9_doubted_147 rfl rfl ⟨by omega, by omega⟩ (Nat.le_of_ble_eq_true rfl) rfl rfl ?_
        refine vr_goto (q := 81) dX9_doubted_150 (by decide) ?_
        exact ih (j + 1) (x.1 + 1, j) _ m2 (by omega) (by omega) hx2 kk
      · rw [if_neg (fun z => cx (i2.mpr z))] at kk hx2
        refine vr_istore (q := 113) dX9_doubted_111 rfl (Nat.le_of_ble_eq_true rfl) rfl rfl ?_
        refine vr_iload (q := 115) dX9_doubted_113 rfl rfl ?_
        refine vr_if_eq (t := 128) (q := 118) dX9_doubted_115 (by decide) rfl (fun c9 => absurd c9 (by omega)) (fun _ => ?_)
        refine vr_iload (q := 120) dX9_doubted_118 rfl rfl ?_
        refine vr_if_ne (t := 128) (q := 123) dX9_doubted_120 (by decide) rfl (fun _ => ?_) (fun c9 => absurd c9 (by omega))
        refine vr_iload (q := 130) dX9_doubted_128 rfl rfl ?_
        refine vr_istore (q := 132) dX9_doubted_130 rfl (Nat.le_of_ble_eq_true rfl) rfl rfl ?_
        refine vr_iload (q := 134) dX9_doubted_132 rfl rfl ?_
        refine vr_iload (q := 136) dX9_doubted_134 rfl rfl ?_
        refine vr_if_eq (t := 143) (q := 139) dX9_doubted_136 (by decide) rfl (fun c9 => absurd c9 (by omega)) (fun _ => ?_)
        refine vr_iconst (q := 140) dX9_doubted_139 rfl ⟨by decide, by decide⟩ ?_
        refine vr_goto (q := 144) dX9_doubted_140 (by decide) ?_
        refine vr_iaddN (q := 145) dX9_doubted_144 rfl ⟨by omega, by omega⟩ ?_
        refine vr_istore (q := 147) dX9_doubted_145 rfl (Nat.le_of_ble_eq_true rfl) rfl rfl ?_
        refine vr_iinc (q := 150) dX9_doubted_147 rfl rfl ⟨by omega, by omega⟩ (Nat.le_of_ble_eq_true rfl) rfl rfl ?_
        refine vr_goto (q := 81) dX9_doubted_150 (by decide) ?_
        exact ih (j + 1) (x.1 + 1, x.2) _ m2 (by omega) (by omega) hx2 kk
theorem mx_doubted {s r i n w : Int} (c : cpl_ p h) (rc : rcp_ p h) (k1 : ¬ ((0 ≤ s ∧ s < p 7 3) ∧ ((0 ≤ r ∧ r < 8) ∧ (0 ≤ n ∧ n ≤ 6)) ∧ (0 ≤ w ∧ w ≤ 1)) → Post (some (sv_i (-1000001))) h) (k2 : ((0 ≤ s ∧ s < p 7 3) ∧ ((0 ≤ r ∧ r < 8) ∧ (0 ≤ n ∧ n ≤ 6)) ∧ (0 ≤ w ∧ w ≤ 1)) → p 2 r = -1 → Post (some (sv_i (-1000010 - 1))) (hs_ h 68 4 1)) (k3 : ((0 ≤ s ∧ s < p 7 3) ∧ ((0 ≤ r ∧ r < 8) ∧ (0 ≤ n ∧ n ≤ 6)) ∧ (0 ≤ w ∧ w ≤ 1)) → ¬ p 2 r = -1 → ¬ (0 ≤ i ∧ i + 2 * n ≤ p 3 r) → Post (some (sv_i (-1000010 - 2))) (hs_ h 68 4 2)) (k4 : ((0 ≤ s ∧ s < p 7 3) ∧ ((0 ≤ r ∧ r < 8) ∧ (0 ≤ n ∧ n ≤ 6)) ∧ (0 ≤ w ∧ w ≤ 1)) → ¬ p 2 r = -1 → (0 ≤ i ∧ i + 2 * n ≤ p 3 r) → ¬ rtl_ p (r * 40 + i) n → Post (some (sv_i (-1000001))) h) (k5 : ((0 ≤ s ∧ s < p 7 3) ∧ ((0 ≤ r ∧ r < 8) ∧ (0 ≤ n ∧ n ≤ 6)) ∧ (0 ≤ w ∧ w ≤ 1)) → ¬ p 2 r = -1 → (0 ≤ i ∧ i + 2 * n ≤ p 3 r) → rtl_ p (r * 40 + i) n → ∀ m2, Post (some (sv_i (if w = 0 then (dc_ (fun j => go_ p (r * 40 + i) n (p 11 s, j, (en_ p s).2.2)) 16 0 (0, -1000000)).1 else (dc_ (fun j => go_ p (r * 40 + i) n (p 11 s, j, (en_ p s).2.2)) 16 0 (0, -1000000)).2))) (hs_ (mw_ h m2) 68 4 0)) : Ctr_ g (d + 4) mX9_doubted [sv_r 4 8 68, sv_i s, sv_i r, sv_i i, sv_i n, sv_i w] h Post := by
  have r39 : ((0 ≤ s ∧ s < p 7 3) ∧ ((0 ≤ r ∧ r < 8) ∧ (0 ≤ n ∧ n ≤ 6)) ∧ (0 ≤ w ∧ w ≤ 1)) → V_ g (d + 4) mX9_doubted 39 [some (sv_r 4 8 68), some (sv_i s), some (sv_i r), some (sv_i i), some (sv_i n), some (sv_i w), none, none, none, none, none] [] h Post := by
    intro q
    refine vr_aload_n (q := 40) dX9_doubted_39 rfl rfl ?_
    refine vr_iload_n (q := 41) dX9_doubted_40 rfl rfl ?_
    refine vr_iload_n (q := 42) dX9_doubted_41 rfl rfl ?_
    refine vr_iload (q := 44) dX9_doubted_42 rfl rfl ?_
    -- at X9.doubted 44: .invokevirtual 215
    refine vr_iv3 (q := 47) dX9_doubted_44 rfl vX9_215 (Nat.le_of_ble_eq_true rfl) ?_
    refine m_wrongIn c rc q.2.1.1 q.2.1.2 (fun z1 => ?_) (fun z1 z2 => ?_) (fun z1 z2 z3 => ?_) (fun z1 z2 z3 => ?_)
    · refine vr_istore (q := 49) dX9_doubted_47 rfl (Nat.le_of_ble_eq_true rfl) rfl rfl ?_
      refine vr_iload (q := 51) dX9_doubted_49 rfl rfl ?_
      refine vr_if_eq (t := 71) (q := 54) dX9_doubted_51 (by decide) rfl (fun c9 => absurd c9 (by omega)) (fun _ => ?_)
      refine vr_iload (q := 56) dX9_doubted_54 rfl rfl ?_
      refine vr_if_ge (t := 64) (q := 59) dX9_doubted_56 (by decide) rfl (fun _ => ?_) (fun c9 => absurd c9 (by omega))
      refine vr_aload_n (q := 65) dX9_doubted_64 rfl rfl ?_
      refine vr_iload (q := 67) dX9_doubted_65 rfl rfl ?_
      refine vr_iv1 (q := 70) dX9_doubted_67 rfl vX9_68 (Nat.le_of_ble_eq_true rfl) ?_
      refine m_found ⟨by decide, by decide⟩ ?_
      refine vr_iret dX9_doubted_70 rfl ?_
      exact k2 q z1
    · refine vr_istore (q := 49) dX9_doubted_47 rfl (Nat.le_of_ble_eq_true rfl) rfl rfl ?_
      refine vr_iload (q := 51) dX9_doubted_49 rfl rfl ?_
      refine vr_if_eq (t := 71) (q := 54) dX9_doubted_51 (by decide) rfl (fun c9 => absurd c9 (by omega)) (fun _ => ?_)
      refine vr_iload (q := 56) dX9_doubted_54 rfl rfl ?_
      refine vr_if_ge (t := 64) (q := 59) dX9_doubted_56 (by decide) rfl (fun _ => ?_) (fun c9 => absurd c9 (by omega))
      refine vr_aload_n (q := 65) dX9_doubted_64 rfl rfl ?_
      refine vr_iload (q := 67) dX9_doubted_65 rfl rfl ?_
      refine vr_iv1 (q := 70) dX9_doubted_67 rfl vX9_68 (Nat.le_of_ble_eq_true rfl) ?_
      refine m_found ⟨by decide, by decide⟩ ?_
      refine vr_iret dX9_doubted_70 rfl ?_
      exact k3 q z1 z2
    · refine vr_istore (q := 49) dX9_doubted_47 rfl (Nat.le_of_ble_eq_true rfl) rfl rfl ?_
      refine vr_iload (q := 51) dX9_doubted_49 rfl rfl ?_
      refine vr_if_eq (t := 71) (q := 54) dX9_doubted_51 (by decide) rfl (fun c9 => absurd c9 (by omega)) (fun _ => ?_)
      refine vr_iload (q := 56) dX9_doubted_54 rfl rfl ?_
      refine vr_if_ge (t := 64) (q := 59) dX9_doubted_56 (by decide) rfl (fun c9 => absurd c9 (by omega)) (fun _ => ?_)
      refine vr_ldc (x := -1000001) (q := 61) dX9_doubted_59 rfl ⟨by decide, by decide⟩ qX9_67 ?_
      refine vr_goto (q := 70) dX9_doubted_61 (by decide) ?_
      refine vr_iret dX9_doubted_70 rfl ?_
      exact k4 q z1 z2 z3
    · have z := lm_doubted (g := g) (d := d) (w := w) (v6 := 0) c rc q.1 q.2.1.1 q.2.1.2 z1 z2 z3 16 0 (0, -1000000) none (mm_ h) (Int.le_refl 0) (by decide) ⟨⟨Int.le_refl 0, Int.le_refl 0⟩, by decide⟩ (k5 q z1 z2 z3)
      rw [mw_id] at z
      refine vr_istore (q := 49) dX9_doubted_47 rfl (Nat.le_of_ble_eq_true rfl) rfl rfl ?_
      refine vr_iload (q := 51) dX9_doubted_49 rfl rfl ?_
      refine vr_if_eq (t := 71) (q := 54) dX9_doubted_51 (by decide) rfl (fun _ => ?_) (fun c9 => absurd c9 (by omega))
      refine vr_iconst (q := 72) dX9_doubted_71 rfl ⟨by decide, by decide⟩ ?_
      refine vr_istore (q := 74) dX9_doubted_72 rfl (Nat.le_of_ble_eq_true rfl) rfl rfl ?_
      refine vr_ldc (x := -1000000) (q := 76) dX9_doubted_74 rfl ⟨by decide, by decide⟩ qX9_53 ?_
      refine vr_istore (q := 78) dX9_doubted_76 rfl (Nat.le_of_ble_eq_true rfl) rfl rfl ?_
      refine vr_iconst (q := 79) dX9_doubted_78 rfl ⟨by decide, by decide⟩ ?_
      refine vr_istore (q := 81) dX9_doubted_79 rfl (Nat.le_of_ble_eq_true rfl) rfl rfl ?_
      exact z
  refine V_mk (by decide +kernel) (Or.inr (Or.inl ⟨rfl, rfl⟩)) (Nat.le_of_ble_eq_true rfl) (by simp [sv_c]) ?_
  show V_ _ _ _ 0 [_, _, _, _, _, _, _, _, _, _, _] [] _ _
  refine vr_aload_n (q := 1) dX9_doubted_0 rfl rfl ?_
  refine vr_iload_n (q := 2) dX9_doubted_1 rfl rfl ?_
  refine vr_iv1 (q := 5) dX9_doubted_2 rfl vX9_163 (Nat.le_of_ble_eq_true rfl) ?_
  refine m_isS c (fun c2 => ?_) (fun c2 => ?_)
  · refine vr_if_eq (t := 36) (q := 8) dX9_doubted_5 (by decide) rfl (fun c9 => absurd c9 (by omega)) (fun _ => ?_)
    refine vr_iload_n (q := 9) dX9_doubted_8 rfl rfl ?_
    refine vr_is1 (q := 12) dX9_doubted_9 rfl vX9_63 (Nat.le_of_ble_eq_true rfl) ?_
    refine m_isRow (fun c9 => ?_) (fun c9 => ?_)
    · refine vr_if_eq (t := 36) (q := 15) dX9_doubted_12 (by decide) rfl (fun c9 => absurd c9 (by omega)) (fun _ => ?_)
      refine vr_iload (q := 17) dX9_doubted_15 rfl rfl ?_
      refine vr_iconst (q := 18) dX9_doubted_17 rfl ⟨by decide, by decide⟩ ?_
      refine vr_bipush (q := 20) dX9_doubted_18 rfl ⟨by decide, by decide⟩ (by decide) ?_
      refine vr_is3 (q := 23) dX9_doubted_20 rfl vX9_59 (Nat.le_of_ble_eq_true rfl) ?_
      refine m_in (fun c20 => ?_) (fun c20 => ?_)
      · refine vr_if_eq (t := 36) (q := 26) dX9_doubted_23 (by decide) rfl (fun c9 => absurd c9 (by omega)) (fun _ => ?_)
        refine vr_iload (q := 28) dX9_doubted_26 rfl rfl ?_
        refine vr_iconst (q := 29) dX9_doubted_28 rfl ⟨by decide, by decide⟩ ?_
        refine vr_iconst (q := 30) dX9_doubted_29 rfl ⟨by decide, by decide⟩ ?_
        refine vr_is3 (q := 33) dX9_doubted_30 rfl vX9_59 (Nat.le_of_ble_eq_true rfl) ?_
        refine m_in (fun c30 => ?_) (fun c30 => ?_)
        · refine vr_if_ne (t := 39) (q := 36) dX9_doubted_33 (by decide) rfl (fun _ => ?_) (fun c9 => absurd c9 (by omega))
          exact r39 (by omega)
        · refine vr_if_ne (t := 39) (q := 36) dX9_doubted_33 (by decide) rfl (fun c9 => absurd c9 (by omega)) (fun _ => ?_)
          refine vr_ldc (x := -1000001) (q := 38) dX9_doubted_36 rfl ⟨by decide, by decide⟩ qX9_67 ?_
          refine vr_iret dX9_doubted_38 rfl ?_
          exact k1 (by omega)
      · refine vr_if_eq (t := 36) (q := 26) dX9_doubted_23 (by decide) rfl (fun _ => ?_) (fun c9 => absurd c9 (by omega))
        refine vr_ldc (x := -1000001) (q := 38) dX9_doubted_36 rfl ⟨by decide, by decide⟩ qX9_67 ?_
        refine vr_iret dX9_doubted_38 rfl ?_
        exact k1 (by omega)
    · refine vr_if_eq (t := 36) (q := 15) dX9_doubted_12 (by decide) rfl (fun _ => ?_) (fun c9 => absurd c9 (by omega))
      refine vr_ldc (x := -1000001) (q := 38) dX9_doubted_36 rfl ⟨by decide, by decide⟩ qX9_67 ?_
      refine vr_iret dX9_doubted_38 rfl ?_
      exact k1 (by omega)
  · refine vr_if_eq (t := 36) (q := 8) dX9_doubted_5 (by decide) rfl (fun _ => ?_) (fun c9 => absurd c9 (by omega))
    refine vr_ldc (x := -1000001) (q := 38) dX9_doubted_36 rfl ⟨by decide, by decide⟩ qX9_67 ?_
    refine vr_iret dX9_doubted_38 rfl ?_
    exact k1 (by omega)
theorem lm_trusted {s r i n v5 : Int} (c : cpl_ p h) (rc : rcp_ p h) (hs : 0 ≤ s ∧ s < p 7 3) (hr : 0 ≤ r ∧ r < 8) (hn : 0 ≤ n ∧ n ≤ 6) (q1 : ¬ p 2 r = -1) (q2 : 0 ≤ i ∧ i + 2 * n ≤ p 3 r) (q3 : rtl_ p (r * 40 + i) n) : ∀ (k : Nat) (j x : Int) (m : MU_), 0 ≤ j → j + k = 21 → sr_32 x → (∀ m2, Post (some (sv_i (tb_ (fun j => go_ p (r * 40 + i) n (j, p 12 s, (en_ p s).2.2)) k j x))) (hs_ (mw_ h m2) 68 4 0)) → V_ g (d + 4) mX9_trusted 67 [some (sv_r 4 8 68), some (sv_i s), some (sv_i r), some (sv_i i), some (sv_i n), some (sv_i v5), some (sv_i x), some (sv_i j)] [] (mw_ h m) Post := by
  intro k
  have b1 := (rc r hr.1 hr.2).1
  have hm := en_mo c.1 hs
  induction k with
  | zero =>
    intro j x m hj hk hx kk
    have kk2 : Post (some (sv_i x)) (hs_ (mw_ h m) 68 4 0) := kk m
    refine vr_iload (q := 69) dX9_trusted_67 rfl rfl ?_
    refine vr_bipush (q := 71) dX9_trusted_69 rfl ⟨by decide, by decide⟩ (by decide) ?_
    -- at X9.trusted 71: .if_icmp .ge 48
    refine vr_ic_ge (t := 119) (q := 74) dX9_trusted_71 (by decide) rfl (fun _ => ?_) (fun c9 => absurd c9 (by omega))
    refine vr_aload_n (q := 120) dX9_trusted_119 rfl rfl ?_
    refine vr_iload (q := 122) dX9_trusted_120 rfl rfl ?_
    refine vr_iv1 (q := 125) dX9_trusted_122 rfl vX9_72 (Nat.le_of_ble_eq_true rfl) ?_
    refine m_well ?_
    refine vr_iret dX9_trusted_125 rfl ?_
    exact kk2
  | succ k ih =>
    intro j x m hj hk hx kk
    have e : ∀ f : Int → Int, tb_ f (k + 1) j x = tb_ f k (j + 1) (if f j = 0 then x else sb_ior x (sb_ishl 1 j)) := fun _ => rfl
    rw [e] at kk
    refine vr_iload (q := 69) dX9_trusted_67 rfl rfl ?_
    refine vr_bipush (q := 71) dX9_trusted_69 rfl ⟨by decide, by decide⟩ (by decide) ?_
    -- at X9.trusted 71: .if_icmp .ge 48
    refine vr_ic_ge (t := 119) (q := 74) dX9_trusted_71 (by decide) rfl (fun c9 => absurd c9 (by omega)) (fun _ => ?_)
    refine vr_aload_n (q := 75) dX9_trusted_74 rfl rfl ?_
    refine vr_iload_n (q := 76) dX9_trusted_75 rfl rfl ?_
    -- at X9.trusted 76: .invokevirtual 176
    refine vr_iv1 (q := 79) dX9_trusted_76 rfl vX9_176 (Nat.le_of_ble_eq_true rfl) ?_
    refine m_trW c hs ?_
    refine vr_aload_n (q := 80) dX9_trusted_79 rfl rfl ?_
    refine vr_iload (q := 82) dX9_trusted_80 rfl rfl ?_
    refine vr_put (ji := 21) (q := 85) dX9_trusted_82 rfl pX9_144 rfl rfl ?_
    -- at X9.trusted 85: .iload 6
    rw [mw_h21]
    refine vr_iload (q := 87) dX9_trusted_85 rfl rfl ?_
    refine vr_aload_n (q := 88) dX9_trusted_87 rfl rfl ?_
    refine vr_bipush (q := 90) dX9_trusted_88 rfl ⟨by decide, by decide⟩ (by decide) ?_
    refine vr_iload_n (q := 91) dX9_trusted_90 rfl rfl ?_
    refine vr_imulN (q := 92) dX9_trusted_91 rfl ⟨by omega, by omega⟩ ?_
    refine vr_iload_n (q := 93) dX9_trusted_92 rfl rfl ?_
    refine vr_iaddN (q := 94) dX9_trusted_93 rfl ⟨by omega, by omega⟩ ?_
    refine vr_iload (q := 96) dX9_trusted_94 rfl rfl ?_
    -- at X9.trusted 96: .invokevirtual 219
    refine vr_iv2 (q := 99) dX9_trusted_96 rfl vX9_219 (Nat.le_of_ble_eq_true rfl) ?_
    refine m_goesSo (m := (j, p 12 s, (en_ p s).2.2)) c rc hr hn q1 q2 q3 ⟨⟨by show 0 ≤ j; omega, by show j ≤ 20; omega⟩, hm.2.1, hm.2.2.1, hm.2.2.2⟩ (fun m2 => ?_)
    rcases go_01 p (r * 40 + i) n (j, p 12 s, (en_ p s).2.2) with z | z
    · rw [z] at kk ⊢
      rw [if_pos rfl] at kk
      refine vr_if_eq (t := 109) (q := 102) dX9_trusted_99 (by decide) rfl (fun _ => ?_) (fun c9 => absurd c9 (by omega))
      refine vr_iconst (q := 110) dX9_trusted_109 rfl ⟨by decide, by decide⟩ ?_
      refine vr_ior (q := 111) dX9_trusted_110 rfl ?_
      rw [io_0 hx]
      refine vr_istore (q := 113) dX9_trusted_111 rfl (Nat.le_of_ble_eq_true rfl) rfl rfl ?_
      refine vr_iinc (q := 116) dX9_trusted_113 rfl rfl ⟨by omega, by omega⟩ (Nat.le_of_ble_eq_true rfl) rfl rfl ?_
      refine vr_goto (q := 67) dX9_trusted_116 (by decide) ?_
      exact ih (j + 1) x m2 (by omega) (by omega) hx kk
    · rw [z] at kk ⊢
      rw [if_neg (by decide)] at kk
      refine vr_if_eq (t := 109) (q := 102) dX9_trusted_99 (by decide) rfl (fun c9 => absurd c9 (by omega)) (fun _ => ?_)
      refine vr_iconst (q := 103) dX9_trusted_102 rfl ⟨by decide, by decide⟩ ?_
      refine vr_iload (q := 105) dX9_trusted_103 rfl rfl ?_
      refine vr_ishl (q := 106) dX9_trusted_105 rfl ?_
      refine vr_goto (q := 110) dX9_trusted_106 (by decide) ?_
      refine vr_ior (q := 111) dX9_trusted_110 rfl ?_
      refine vr_istore (q := 113) dX9_trusted_111 rfl (Nat.le_of_ble_eq_true rfl) rfl rfl ?_
      refine vr_iinc (q := 116) dX9_trusted_113 rfl rfl ⟨by omega, by omega⟩ (Nat.le_of_ble_eq_true rfl) rfl rfl ?_
      refine vr_goto (q := 67) dX9_trusted_116 (by decide) ?_
      exact ih (j + 1) _ m2 (by omega) (by omega) (sr_32t _) kk
theorem mx_trusted {s r i n : Int} (c : cpl_ p h) (rc : rcp_ p h) (k1 : ¬ ((0 ≤ s ∧ s < p 7 3) ∧ ((0 ≤ r ∧ r < 8) ∧ (0 ≤ n ∧ n ≤ 6))) → Post (some (sv_i (-1000001))) h) (k2 : ((0 ≤ s ∧ s < p 7 3) ∧ ((0 ≤ r ∧ r < 8) ∧ (0 ≤ n ∧ n ≤ 6))) → p 2 r = -1 → Post (some (sv_i (-1000010 - 1))) (hs_ h 68 4 1)) (k3 : ((0 ≤ s ∧ s < p 7 3) ∧ ((0 ≤ r ∧ r < 8) ∧ (0 ≤ n ∧ n ≤ 6))) → ¬ p 2 r = -1 → ¬ (0 ≤ i ∧ i + 2 * n ≤ p 3 r) → Post (some (sv_i (-1000010 - 2))) (hs_ h 68 4 2)) (k4 : ((0 ≤ s ∧ s < p 7 3) ∧ ((0 ≤ r ∧ r < 8) ∧ (0 ≤ n ∧ n ≤ 6))) → ¬ p 2 r = -1 → (0 ≤ i ∧ i + 2 * n ≤ p 3 r) → ¬ rtl_ p (r * 40 + i) n → Post (some (sv_i (-1000001))) h) (k5 : ((0 ≤ s ∧ s < p 7 3) ∧ ((0 ≤ r ∧ r < 8) ∧ (0 ≤ n ∧ n ≤ 6))) → ¬ p 2 r = -1 → (0 ≤ i ∧ i + 2 * n ≤ p 3 r) → rtl_ p (r * 40 + i) n → ∀ m2, Post (some (sv_i (tb_ (fun j => go_ p (r * 40 + i) n (j, p 12 s, (en_ p s).2.2)) 21 0 0))) (hs_ (mw_ h m2) 68 4 0)) : Ctr_ g (d + 4) mX9_trusted [sv_r 4 8 68, sv_i s, sv_i r, sv_i i, sv_i n] h Post := by
  have r29 : ((0 ≤ s ∧ s < p 7 3) ∧ ((0 ≤ r ∧ r < 8) ∧ (0 ≤ n ∧ n ≤ 6))) → V_ g (d + 4) mX9_trusted 29 [some (sv_r 4 8 68), some (sv_i s), some (sv_i r), some (sv_i i), some (sv_i n), none, none, none] [] h Post := by
    intro q
    refine vr_aload_n (q := 30) dX9_trusted_29 rfl rfl ?_
    refine vr_iload_n (q := 31) dX9_trusted_30 rfl rfl ?_
    refine vr_iload_n (q := 32) dX9_trusted_31 rfl rfl ?_
    refine vr_iload (q := 34) dX9_trusted_32 rfl rfl ?_
    -- at X9.trusted 34: .invokevirtual 215
    refine vr_iv3 (q := 37) dX9_trusted_34 rfl vX9_215 (Nat.le_of_ble_eq_true rfl) ?_
    refine m_wrongIn c rc q.2.1 q.2.2 (fun z1 => ?_) (fun z1 z2 => ?_) (fun z1 z2 z3 => ?_) (fun z1 z2 z3 => ?_)
    · refine vr_istore (q := 39) dX9_trusted_37 rfl (Nat.le_of_ble_eq_true rfl) rfl rfl ?_
      refine vr_iload (q := 41) dX9_trusted_39 rfl rfl ?_
      refine vr_if_eq (t := 61) (q := 44) dX9_trusted_41 (by decide) rfl (fun c9 => absurd c9 (by omega)) (fun _ => ?_)
      refine vr_iload (q := 46) dX9_trusted_44 rfl rfl ?_
      refine vr_if_ge (t := 54) (q := 49) dX9_trusted_46 (by decide) rfl (fun _ => ?_) (fun c9 => absurd c9 (by omega))
      refine vr_aload_n (q := 55) dX9_trusted_54 rfl rfl ?_
      refine vr_iload (q := 57) dX9_trusted_55 rfl rfl ?_
      refine vr_iv1 (q := 60) dX9_trusted_57 rfl vX9_68 (Nat.le_of_ble_eq_true rfl) ?_
      refine m_found ⟨by decide, by decide⟩ ?_
      refine vr_iret dX9_trusted_60 rfl ?_
      exact k2 q z1
    · refine vr_istore (q := 39) dX9_trusted_37 rfl (Nat.le_of_ble_eq_true rfl) rfl rfl ?_
      refine vr_iload (q := 41) dX9_trusted_39 rfl rfl ?_
      refine vr_if_eq (t := 61) (q := 44) dX9_trusted_41 (by decide) rfl (fun c9 => absurd c9 (by omega)) (fun _ => ?_)
      refine vr_iload (q := 46) dX9_trusted_44 rfl rfl ?_
      refine vr_if_ge (t := 54) (q := 49) dX9_trusted_46 (by decide) rfl (fun _ => ?_) (fun c9 => absurd c9 (by omega))
      refine vr_aload_n (q := 55) dX9_trusted_54 rfl rfl ?_
      refine vr_iload (q := 57) dX9_trusted_55 rfl rfl ?_
      refine vr_iv1 (q := 60) dX9_trusted_57 rfl vX9_68 (Nat.le_of_ble_eq_true rfl) ?_
      refine m_found ⟨by decide, by decide⟩ ?_
      refine vr_iret dX9_trusted_60 rfl ?_
      exact k3 q z1 z2
    · refine vr_istore (q := 39) dX9_trusted_37 rfl (Nat.le_of_ble_eq_true rfl) rfl rfl ?_
      refine vr_iload (q := 41) dX9_trusted_39 rfl rfl ?_
      refine vr_if_eq (t := 61) (q := 44) dX9_trusted_41 (by decide) rfl (fun c9 => absurd c9 (by omega)) (fun _ => ?_)
      refine vr_iload (q := 46) dX9_trusted_44 rfl rfl ?_
      refine vr_if_ge (t := 54) (q := 49) dX9_trusted_46 (by decide) rfl (fun c9 => absurd c9 (by omega)) (fun _ => ?_)
      refine vr_ldc (x := -1000001) (q := 51) dX9_trusted_49 rfl ⟨by decide, by decide⟩ qX9_67 ?_
      refine vr_goto (q := 60) dX9_trusted_51 (by decide) ?_
      refine vr_iret dX9_trusted_60 rfl ?_
      exact k4 q z1 z2 z3
    · have z := lm_trusted (g := g) (d := d) (v5 := 0) c rc q.1 q.2.1 q.2.2 z1 z2 z3 21 0 0 (mm_ h) (Int.le_refl 0) (by decide) sr_320 (k5 q z1 z2 z3)
      rw [mw_id] at z
      refine vr_istore (q := 39) dX9_trusted_37 rfl (Nat.le_of_ble_eq_true rfl) rfl rfl ?_
      refine vr_iload (q := 41) dX9_trusted_39 rfl rfl ?_
      refine vr_if_eq (t := 61) (q := 44) dX9_trusted_41 (by decide) rfl (fun _ => ?_) (fun c9 => absurd c9 (by omega))
      refine vr_iconst (q := 62) dX9_trusted_61 rfl ⟨by decide, by decide⟩ ?_
      refine vr_istore (q := 64) dX9_trusted_62 rfl (Nat.le_of_ble_eq_true rfl) rfl rfl ?_
      refine vr_iconst (q := 65) dX9_trusted_64 rfl ⟨by decide, by decide⟩ ?_
      refine vr_istore (q := 67) dX9_trusted_65 rfl (Nat.le_of_ble_eq_true rfl) rfl rfl ?_
      exact z
  refine V_mk (by decide +kernel) (Or.inr (Or.inl ⟨rfl, rfl⟩)) (Nat.le_of_ble_eq_true rfl) (by simp [sv_c]) ?_
  show V_ _ _ _ 0 [_, _, _, _, _, _, _, _] [] _ _
  refine vr_aload_n (q := 1) dX9_trusted_0 rfl rfl ?_
  refine vr_iload_n (q := 2) dX9_trusted_1 rfl rfl ?_
  refine vr_iv1 (q := 5) dX9_trusted_2 rfl vX9_163 (Nat.le_of_ble_eq_true rfl) ?_
  refine m_isS c (fun c2 => ?_) (fun c2 => ?_)
  · refine vr_if_eq (t := 26) (q := 8) dX9_trusted_5 (by decide) rfl (fun c9 => absurd c9 (by omega)) (fun _ => ?_)
    refine vr_iload_n (q := 9) dX9_trusted_8 rfl rfl ?_
    refine vr_is1 (q := 12) dX9_trusted_9 rfl vX9_63 (Nat.le_of_ble_eq_true rfl) ?_
    refine m_isRow (fun c9 => ?_) (fun c9 => ?_)
    · refine vr_if_eq (t := 26) (q := 15) dX9_trusted_12 (by decide) rfl (fun c9 => absurd c9 (by omega)) (fun _ => ?_)
      refine vr_iload (q := 17) dX9_trusted_15 rfl rfl ?_
      refine vr_iconst (q := 18) dX9_trusted_17 rfl ⟨by decide, by decide⟩ ?_
      refine vr_bipush (q := 20) dX9_trusted_18 rfl ⟨by decide, by decide⟩ (by decide) ?_
      refine vr_is3 (q := 23) dX9_trusted_20 rfl vX9_59 (Nat.le_of_ble_eq_true rfl) ?_
      refine m_in (fun c20 => ?_) (fun c20 => ?_)
      · refine vr_if_ne (t := 29) (q := 26) dX9_trusted_23 (by decide) rfl (fun _ => ?_) (fun c9 => absurd c9 (by omega))
        exact r29 (by omega)
      · refine vr_if_ne (t := 29) (q := 26) dX9_trusted_23 (by decide) rfl (fun c9 => absurd c9 (by omega)) (fun _ => ?_)
        refine vr_ldc (x := -1000001) (q := 28) dX9_trusted_26 rfl ⟨by decide, by decide⟩ qX9_67 ?_
        refine vr_iret dX9_trusted_28 rfl ?_
        exact k1 (by omega)
    · refine vr_if_eq (t := 26) (q := 15) dX9_trusted_12 (by decide) rfl (fun _ => ?_) (fun c9 => absurd c9 (by omega))
      refine vr_ldc (x := -1000001) (q := 28) dX9_trusted_26 rfl ⟨by decide, by decide⟩ qX9_67 ?_
      refine vr_iret dX9_trusted_28 rfl ?_
      exact k1 (by omega)
  · refine vr_if_eq (t := 26) (q := 8) dX9_trusted_5 (by decide) rfl (fun _ => ?_) (fun c9 => absurd c9 (by omega))
    refine vr_ldc (x := -1000001) (q := 28) dX9_trusted_26 rfl ⟨by decide, by decide⟩ qX9_67 ?_
    refine vr_iret dX9_trusted_28 rfl ?_
    exact k1 (by omega)
theorem lm_who {r i n v4 : Int} (c : cpl_ p h) (rc : rcp_ p h) (hr : 0 ≤ r ∧ r < 8) (hn : 0 ≤ n ∧ n ≤ 6) (q1 : ¬ p 2 r = -1) (q2 : 0 ≤ i ∧ i + 2 * n ≤ p 3 r) (q3 : rtl_ p (r * 40 + i) n) : ∀ (k : Nat) (j x : Int) (m : MU_), 0 ≤ j → j + k = p 7 3 → sr_32 x → (∀ m2, Post (some (sv_i (tb_ (fun j => go_ p (r * 40 + i) n (p 11 j, p 12 j, (en_ p j).2.2)) k j x))) (hs_ (mw_ h m2) 68 4 0)) → V_ g (d + 4) mX9_who 67 [some (sv_r 4 8 68), some (sv_i r), some (sv_i i), some (sv_i n), some (sv_i v4), some (sv_i x), some (sv_i j)] [] (mw_ h m) Post := by
  intro k
  have b1 := (rc r hr.1 hr.2).1
  have o2 := c.1.2.1
  have e3 : ∀ m, mw_ h m 74 3 = p 7 3 := fun m => by rw [mw_n (by decide) (by decide)]; exact c.2.1.2.2.2
  induction k with
  | zero =>
    intro j x m hj hk hx kk
    have kk2 : Post (some (sv_i x)) (hs_ (mw_ h m) 68 4 0) := kk m
    refine vr_iload (q := 69) dX9_who_67 rfl rfl ?_
    refine vr_aload_n (q := 70) dX9_who_69 rfl rfl ?_
    refine vr_getR (q := 73) dX9_who_70 rfl fX9_25 rfl y_X9_13 (by first | (simp only [Int.reduceAdd]; rfl) | rfl) ?_
    refine vr_iconst (q := 74) dX9_who_73 rfl ⟨by decide, by decide⟩ ?_
    refine vr_ialdV (q := 75) dX9_who_74 rfl ⟨by omega, by omega⟩ (e3 m) ?_
    -- at X9.who 75: .if_icmp .ge 42
    refine vr_ic_ge (t := 117) (q := 78) dX9_who_75 (by decide) rfl (fun _ => ?_) (fun c9 => absurd c9 (by omega))
    refine vr_aload_n (q := 118) dX9_who_117 rfl rfl ?_
    refine vr_iload (q := 120) dX9_who_118 rfl rfl ?_
    refine vr_iv1 (q := 123) dX9_who_120 rfl vX9_72 (Nat.le_of_ble_eq_true rfl) ?_
    refine m_well ?_
    refine vr_iret dX9_who_123 rfl ?_
    exact kk2
  | succ k ih =>
    intro j x m hj hk hx kk
    have hs : 0 ≤ j ∧ j < p 7 3 := ⟨hj, by omega⟩
    have hm := en_mo c.1 hs
    have e : ∀ f : Int → Int, tb_ f (k + 1) j x = tb_ f k (j + 1) (if f j = 0 then x else sb_ior x (sb_ishl 1 j)) := fun _ => rfl
    rw [e] at kk
    refine vr_iload (q := 69) dX9_who_67 rfl rfl ?_
    refine vr_aload_n (q := 70) dX9_who_69 rfl rfl ?_
    refine vr_getR (q := 73) dX9_who_70 rfl fX9_25 rfl y_X9_13 (by first | (simp only [Int.reduceAdd]; rfl) | rfl) ?_
    refine vr_iconst (q := 74) dX9_who_73 rfl ⟨by decide, by decide⟩ ?_
    refine vr_ialdV (q := 75) dX9_who_74 rfl ⟨by omega, by omega⟩ (e3 m) ?_
    -- at X9.who 75: .if_icmp .ge 42
    refine vr_ic_ge (t := 117) (q := 78) dX9_who_75 (by decide) rfl (fun c9 => absurd c9 (by omega)) (fun _ => ?_)
    refine vr_aload_n (q := 79) dX9_who_78 rfl rfl ?_
    refine vr_iload (q := 81) dX9_who_79 rfl rfl ?_
    -- at X9.who 81: .invokevirtual 176
    refine vr_iv1 (q := 84) dX9_who_81 rfl vX9_176 (Nat.le_of_ble_eq_true rfl) ?_
    refine m_trW c hs ?_
    refine vr_iload (q := 86) dX9_who_84 rfl rfl ?_
    refine vr_aload_n (q := 87) dX9_who_86 rfl rfl ?_
    refine vr_bipush (q := 89) dX9_who_87 rfl ⟨by decide, by decide⟩ (by decide) ?_
    refine vr_iload_n (q := 90) dX9_who_89 rfl rfl ?_
    refine vr_imulN (q := 91) dX9_who_90 rfl ⟨by omega, by omega⟩ ?_
    refine vr_iload_n (q := 92) dX9_who_91 rfl rfl ?_
    refine vr_iaddN (q := 93) dX9_who_92 rfl ⟨by omega, by omega⟩ ?_
    refine vr_iload_n (q := 94) dX9_who_93 rfl rfl ?_
    -- at X9.who 94: .invokevirtual 219
    refine vr_iv2 (q := 97) dX9_who_94 rfl vX9_219 (Nat.le_of_ble_eq_true rfl) ?_
    refine m_goesSo (m := (p 11 j, p 12 j, (en_ p j).2.2)) c rc hr hn q1 q2 q3 hm (fun m2 => ?_)
    rcases go_01 p (r * 40 + i) n (p 11 j, p 12 j, (en_ p j).2.2) with z | z
    · rw [z] at kk ⊢
      rw [if_pos rfl] at kk
      refine vr_if_eq (t := 107) (q := 100) dX9_who_97 (by decide) rfl (fun _ => ?_) (fun c9 => absurd c9 (by omega))
      refine vr_iconst (q := 108) dX9_who_107 rfl ⟨by decide, by decide⟩ ?_
      refine vr_ior (q := 109) dX9_who_108 rfl ?_
      rw [io_0 hx]
      refine vr_istore (q := 111) dX9_who_109 rfl (Nat.le_of_ble_eq_true rfl) rfl rfl ?_
      refine vr_iinc (q := 114) dX9_who_111 rfl rfl ⟨by omega, by omega⟩ (Nat.le_of_ble_eq_true rfl) rfl rfl ?_
      refine vr_goto (q := 67) dX9_who_114 (by decide) ?_
      exact ih (j + 1) x m2 (by omega) (by omega) hx kk
    · rw [z] at kk ⊢
      rw [if_neg (by decide)] at kk
      refine vr_if_eq (t := 107) (q := 100) dX9_who_97 (by decide) rfl (fun c9 => absurd c9 (by omega)) (fun _ => ?_)
      refine vr_iconst (q := 101) dX9_who_100 rfl ⟨by decide, by decide⟩ ?_
      refine vr_iload (q := 103) dX9_who_101 rfl rfl ?_
      refine vr_ishl (q := 104) dX9_who_103 rfl ?_
      refine vr_goto (q := 108) dX9_who_104 (by decide) ?_
      refine vr_ior (q := 109) dX9_who_108 rfl ?_
      refine vr_istore (q := 111) dX9_who_109 rfl (Nat.le_of_ble_eq_true rfl) rfl rfl ?_
      refine vr_iinc (q := 114) dX9_who_111 rfl rfl ⟨by omega, by omega⟩ (Nat.le_of_ble_eq_true rfl) rfl rfl ?_
      refine vr_goto (q := 67) dX9_who_114 (by decide) ?_
      exact ih (j + 1) _ m2 (by omega) (by omega) (sr_32t _) kk
theorem mx_who {r i n : Int} (c : cpl_ p h) (rc : rcp_ p h) (k0 : ¬ 0 < p 7 0 → Post (some (sv_i (-1000002))) h) (k1 : 0 < p 7 0 → ¬ ((0 ≤ r ∧ r < 8) ∧ (0 ≤ n ∧ n ≤ 6)) → Post (some (sv_i (-1000001))) h) (k2 : 0 < p 7 0 → ((0 ≤ r ∧ r < 8) ∧ (0 ≤ n ∧ n ≤ 6)) → p 2 r = -1 → Post (some (sv_i (-1000010 - 1))) (hs_ h 68 4 1)) (k3 : 0 < p 7 0 → ((0 ≤ r ∧ r < 8) ∧ (0 ≤ n ∧ n ≤ 6)) → ¬ p 2 r = -1 → ¬ (0 ≤ i ∧ i + 2 * n ≤ p 3 r) → Post (some (sv_i (-1000010 - 2))) (hs_ h 68 4 2)) (k4 : 0 < p 7 0 → ((0 ≤ r ∧ r < 8) ∧ (0 ≤ n ∧ n ≤ 6)) → ¬ p 2 r = -1 → (0 ≤ i ∧ i + 2 * n ≤ p 3 r) → ¬ rtl_ p (r * 40 + i) n → Post (some (sv_i (-1000001))) h) (k5 : 0 < p 7 0 → ((0 ≤ r ∧ r < 8) ∧ (0 ≤ n ∧ n ≤ 6)) → ¬ p 2 r = -1 → (0 ≤ i ∧ i + 2 * n ≤ p 3 r) → rtl_ p (r * 40 + i) n → ∀ m2, Post (some (sv_i (tb_ (fun j => go_ p (r * 40 + i) n (p 11 j, p 12 j, (en_ p j).2.2)) (p 7 3).toNat 0 0))) (hs_ (mw_ h m2) 68 4 0)) : Ctr_ g (d + 4) mX9_who [sv_r 4 8 68, sv_i r, sv_i i, sv_i n] h Post := by
  have e0 := c.2.1.1
  have o2 := c.1.2.1
  have r30 : 0 < p 7 0 → ((0 ≤ r ∧ r < 8) ∧ (0 ≤ n ∧ n ≤ 6)) → V_ g (d + 4) mX9_who 30 [some (sv_r 4 8 68), some (sv_i r), some (sv_i i), some (sv_i n), none, none, none] [] h Post := by
    intro q0 q
    refine vr_aload_n (q := 31) dX9_who_30 rfl rfl ?_
    refine vr_iload_n (q := 32) dX9_who_31 rfl rfl ?_
    refine vr_iload_n (q := 33) dX9_who_32 rfl rfl ?_
    refine vr_iload_n (q := 34) dX9_who_33 rfl rfl ?_
    -- at X9.who 34: .invokevirtual 215
    refine vr_iv3 (q := 37) dX9_who_34 rfl vX9_215 (Nat.le_of_ble_eq_true rfl) ?_
    refine m_wrongIn c rc q.1 q.2 (fun z1 => ?_) (fun z1 z2 => ?_) (fun z1 z2 z3 => ?_) (fun z1 z2 z3 => ?_)
    · refine vr_istore (q := 39) dX9_who_37 rfl (Nat.le_of_ble_eq_true rfl) rfl rfl ?_
      refine vr_iload (q := 41) dX9_who_39 rfl rfl ?_
      refine vr_if_eq (t := 61) (q := 44) dX9_who_41 (by decide) rfl (fun c9 => absurd c9 (by omega)) (fun _ => ?_)
      refine vr_iload (q := 46) dX9_who_44 rfl rfl ?_
      refine vr_if_ge (t := 54) (q := 49) dX9_who_46 (by decide) rfl (fun _ => ?_) (fun c9 => absurd c9 (by omega))
      refine vr_aload_n (q := 55) dX9_who_54 rfl rfl ?_
      refine vr_iload (q := 57) dX9_who_55 rfl rfl ?_
      refine vr_iv1 (q := 60) dX9_who_57 rfl vX9_68 (Nat.le_of_ble_eq_true rfl) ?_
      refine m_found ⟨by decide, by decide⟩ ?_
      refine vr_iret dX9_who_60 rfl ?_
      exact k2 q0 q z1
    · refine vr_istore (q := 39) dX9_who_37 rfl (Nat.le_of_ble_eq_true rfl) rfl rfl ?_
      refine vr_iload (q := 41) dX9_who_39 rfl rfl ?_
      refine vr_if_eq (t := 61) (q := 44) dX9_who_41 (by decide) rfl (fun c9 => absurd c9 (by omega)) (fun _ => ?_)
      refine vr_iload (q := 46) dX9_who_44 rfl rfl ?_
      refine vr_if_ge (t := 54) (q := 49) dX9_who_46 (by decide) rfl (fun _ => ?_) (fun c9 => absurd c9 (by omega))
      refine vr_aload_n (q := 55) dX9_who_54 rfl rfl ?_
      refine vr_iload (q := 57) dX9_who_55 rfl rfl ?_
      refine vr_iv1 (q := 60) dX9_who_57 rfl vX9_68 (Nat.le_of_ble_eq_true rfl) ?_
      refine m_found ⟨by decide, by decide⟩ ?_
      refine vr_iret dX9_who_60 rfl ?_
      exact k3 q0 q z1 z2
    · refine vr_istore (q := 39) dX9_who_37 rfl (Nat.le_of_ble_eq_true rfl) rfl rfl ?_
      refine vr_iload (q := 41) dX9_who_39 rfl rfl ?_
      refine vr_if_eq (t := 61) (q := 44) dX9_who_41 (by decide) rfl (fun c9 => absurd c9 (by omega)) (fun _ => ?_)
      refine vr_iload (q := 46) dX9_who_44 rfl rfl ?_
      refine vr_if_ge (t := 54) (q := 49) dX9_who_46 (by decide) rfl (fun c9 => absurd c9 (by omega)) (fun _ => ?_)
      refine vr_ldc (x := -1000001) (q := 51) dX9_who_49 rfl ⟨by decide, by decide⟩ qX9_67 ?_
      refine vr_goto (q := 60) dX9_who_51 (by decide) ?_
      refine vr_iret dX9_who_60 rfl ?_
      exact k4 q0 q z1 z2 z3
    · have z := lm_who (g := g) (d := d) (v4 := 0) c rc q.1 q.2 z1 z2 z3 (p 7 3).toNat 0 0 (mm_ h) (Int.le_refl 0) (by omega) sr_320 (k5 q0 q z1 z2 z3)
      rw [mw_id] at z
      refine vr_istore (q := 39) dX9_who_37 rfl (Nat.le_of_ble_eq_true rfl) rfl rfl ?_
      refine vr_iload (q := 41) dX9_who_39 rfl rfl ?_
      refine vr_if_eq (t := 61) (q := 44) dX9_who_41 (by decide) rfl (fun _ => ?_) (fun c9 => absurd c9 (by omega))
      refine vr_iconst (q := 62) dX9_who_61 rfl ⟨by decide, by decide⟩ ?_
      refine vr_istore (q := 64) dX9_who_62 rfl (Nat.le_of_ble_eq_true rfl) rfl rfl ?_
      refine vr_iconst (q := 65) dX9_who_64 rfl ⟨by decide, by decide⟩ ?_
      refine vr_istore (q := 67) dX9_who_65 rfl (Nat.le_of_ble_eq_true rfl) rfl rfl ?_
      exact z
  refine V_mk (by decide +kernel) (Or.inr (Or.inl ⟨rfl, rfl⟩)) (Nat.le_of_ble_eq_true rfl) (by simp [sv_c]) ?_
  show V_ _ _ _ 0 [_, _, _, _, _, _, _] [] _ _
  refine vr_aload_n (q := 1) dX9_who_0 rfl rfl ?_
  refine vr_iv0 (q := 4) dX9_who_1 rfl vX9_222 (Nat.le_of_ble_eq_true rfl) ?_
  refine m_isTown (fun c1 => ?_) (fun c1 => ?_)
  · refine vr_if_ne (t := 10) (q := 7) dX9_who_4 (by decide) rfl (fun _ => ?_) (fun c9 => absurd c9 (by omega))
    refine vr_iload_n (q := 11) dX9_who_10 rfl rfl ?_
    refine vr_is1 (q := 14) dX9_who_11 rfl vX9_63 (Nat.le_of_ble_eq_true rfl) ?_
    refine m_isRow (fun c11 => ?_) (fun c11 => ?_)
    · refine vr_if_eq (t := 27) (q := 17) dX9_who_14 (by decide) rfl (fun c9 => absurd c9 (by omega)) (fun _ => ?_)
      refine vr_iload_n (q := 18) dX9_who_17 rfl rfl ?_
      refine vr_iconst (q := 19) dX9_who_18 rfl ⟨by decide, by decide⟩ ?_
      refine vr_bipush (q := 21) dX9_who_19 rfl ⟨by decide, by decide⟩ (by decide) ?_
      refine vr_is3 (q := 24) dX9_who_21 rfl vX9_59 (Nat.le_of_ble_eq_true rfl) ?_
      refine m_in (fun c21 => ?_) (fun c21 => ?_)
      · refine vr_if_ne (t := 30) (q := 27) dX9_who_24 (by decide) rfl (fun _ => ?_) (fun c9 => absurd c9 (by omega))
        exact r30 (by omega) (by omega)
      · refine vr_if_ne (t := 30) (q := 27) dX9_who_24 (by decide) rfl (fun c9 => absurd c9 (by omega)) (fun _ => ?_)
        refine vr_ldc (x := -1000001) (q := 29) dX9_who_27 rfl ⟨by decide, by decide⟩ qX9_67 ?_
        refine vr_iret dX9_who_29 rfl ?_
        first | exact k0 (by omega) | exact k1 (by omega) (by omega)
    · refine vr_if_eq (t := 27) (q := 17) dX9_who_14 (by decide) rfl (fun _ => ?_) (fun c9 => absurd c9 (by omega))
      refine vr_ldc (x := -1000001) (q := 29) dX9_who_27 rfl ⟨by decide, by decide⟩ qX9_67 ?_
      refine vr_iret dX9_who_29 rfl ?_
      first | exact k0 (by omega) | exact k1 (by omega) (by omega)
  · refine vr_if_ne (t := 10) (q := 7) dX9_who_4 (by decide) rfl (fun c9 => absurd c9 (by omega)) (fun _ => ?_)
    refine vr_ldc (x := -1000002) (q := 9) dX9_who_7 rfl ⟨by decide, by decide⟩ qX9_172 ?_
    refine vr_iret dX9_who_9 rfl ?_
    first | exact k0 (by omega) | exact k1 (by omega) (by omega)
end PM16_
