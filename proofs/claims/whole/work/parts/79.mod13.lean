section PM13_
variable {g : SG_} {d : Nat} {h p : SH_} {Post : Option SV_ → SH_ → Prop}
theorem mw_21 (h : SH_) (m : MU_) : mw_ h m 68 21 = m.1 := congrArg (fun z : MU_ => z.1) (mm_mw h m)
/-- what a lie told leaves of the reference's town -/
def mtl_ (h p : SH_) (s l b t : Int) : SH_ := hs_ (hs_ (hs_ (hs_ h 74 (22 + 4 * s) t) 74 (22 + 4 * s + 2) (sb_ior (p 13 s) (sb_ishl 1 l))) 74 (22 + 4 * s + 3) (if b = 0 then p 14 s else sb_ior (p 14 s) (sb_ishl 1 l))) 74 1 (sw_32 (p 7 1 + (if b = 0 then -(p 7 0) else p 7 0)))
theorem mx_tell {s l : Int} (c : cpl_ p h) (ha : 0 ≤ h 68 16 ∧ h 68 16 ≤ 24) (k1 : ¬ ((0 ≤ s ∧ s < p 7 3) ∧ (0 ≤ l ∧ l < p 7 2)) → Post (some (sv_i (-1000001))) h) (k2 : ((0 ≤ s ∧ s < p 7 3) ∧ (0 ≤ l ∧ l < p 7 2)) → ¬ bt_ (p 13 s) l = 0 → Post (some (sv_i (-1000002))) h) (k3 : ((0 ≤ s ∧ s < p 7 3) ∧ (0 ≤ l ∧ l < p 7 2)) → bt_ (p 13 s) l = 0 → Post (some (sv_i (nl_ (tf_ p) (en_ p s) l))) (mtl_ (mw_ (mnt_ h) (hl_ (tf_ p) (en_ p s) l)) p s l (nl_ (tf_ p) (en_ p s) l) (hl_ (tf_ p) (en_ p s) l).1)) : Ctr_ g (d + 3) mX9_tell [sv_r 4 8 68, sv_i s, sv_i l] h Post := by
  have o1 := c.1.1
  have o2 := c.1.2.1
  have o3 := c.1.2.2.1
  have c2 : cpl_ p (mnt_ h) := cpl_k (mnt_k (by decide) (by decide)) c
  have r31 : ((0 ≤ s ∧ s < p 7 3) ∧ (0 ≤ l ∧ l < p 7 2)) → bt_ (p 13 s) l = 0 → V_ g (d + 3) mX9_tell 31 [some (sv_r 4 8 68), some (sv_i s), some (sv_i l), none, none] [] h Post := by
    intro q1 q2
    have kk := k3 q1 q2
    have hm := en_mo c.1 q1.1
    obtain ⟨a1, a2, a3, a4⟩ := c2.2.2.2 s q1.1.1 q1.1.2
    have b0 := c2.2.1.1
    have b1 := c2.2.1.2.1
    unfold hl_ mtl_ at kk
    have e0 : 22 + 4 * s + 0 = 22 + 4 * s := by omega
    have nor : sb_ior (p 14 s) 0 = p 14 s := io_0 (by have := (c.1.2.2.2.2 s q1.1.1 q1.1.2).2.2.2; exact ⟨by omega, by omega⟩)
    refine vr_aload_n (q := 32) dX9_tell_31 rfl rfl ?_
    -- at X9.tell 32: .invokevirtual 173
    refine vr_iv0 (q := 35) dX9_tell_32 rfl vX9_173 (Nat.le_of_ble_eq_true rfl) ?_
    refine m_notes ha ?_
    generalize mnt_ h = hN at c2 kk a1 a2 a3 a4 b0 b1 ⊢
    refine vr_bipush (q := 37) dX9_tell_35 rfl ⟨by decide, by decide⟩ (by decide) ?_
    refine vr_iconst (q := 38) dX9_tell_37 rfl ⟨by decide, by decide⟩ ?_
    refine vr_iload_n (q := 39) dX9_tell_38 rfl rfl ?_
    refine vr_imulN (q := 40) dX9_tell_39 rfl ⟨by omega, by omega⟩ ?_
    refine vr_iaddN (q := 41) dX9_tell_40 rfl ⟨by omega, by omega⟩ ?_
    refine vr_istore_n (q := 42) dX9_tell_41 rfl rfl (Nat.le_of_ble_eq_true rfl) rfl rfl ?_
    refine vr_aload_n (q := 43) dX9_tell_42 rfl rfl ?_
    refine vr_iload_n (q := 44) dX9_tell_43 rfl rfl ?_
    -- at X9.tell 44: .invokevirtual 176
    refine vr_iv1 (q := 47) dX9_tell_44 rfl vX9_176 (Nat.le_of_ble_eq_true rfl) ?_
    refine m_tr c2 q1.1 ?_
    refine vr_aload_n (q := 48) dX9_tell_47 rfl rfl ?_
    refine vr_iload_n (q := 49) dX9_tell_48 rfl rfl ?_
    -- at X9.tell 49: .invokevirtual 180
    refine vr_iv1 (q := 52) dX9_tell_49 rfl vX9_180 (Nat.le_of_ble_eq_true rfl) ?_
    refine m_wnW (n := 6) c2 q1.2 hm (by decide) ?_
    generalize eM : en_ p s = M at kk hm ⊢
    have eW : ∀ m, mw_ hN m 74 = hN 74 := fun m => mw_n (by decide) (by decide)
    rcases nb_01 (p 8 l) (p 9 l) (p 10 l) M with z | z
    · have z2 : nl_ (tf_ p) M l = 0 := z
      rw [z2] at kk ⊢
      rw [if_pos rfl, if_pos rfl] at kk
      refine vr_istore (q := 54) dX9_tell_52 rfl (Nat.le_of_ble_eq_true rfl) rfl rfl ?_
      refine vr_aload_n (q := 55) dX9_tell_54 rfl rfl ?_
      refine vr_iload_n (q := 56) dX9_tell_55 rfl rfl ?_
      refine vr_iload (q := 58) dX9_tell_56 rfl rfl ?_
      -- at X9.tell 58: .invokevirtual 183
      refine vr_iv2 (q := 61) dX9_tell_58 rfl vX9_183 (Nat.le_of_ble_eq_true rfl) ?_
      refine m_hrW (n := 6) c2 q1.2 hm (by decide) ?_
      refine vr_aload_n (q := 62) dX9_tell_61 rfl rfl ?_
      refine vr_getR (q := 65) dX9_tell_62 rfl fX9_25 rfl y_X9_13 (by first | (simp only [Int.reduceAdd]; rfl) | rfl) ?_
      refine vr_iload_n (q := 66) dX9_tell_65 rfl rfl ?_
      refine vr_iconst (q := 67) dX9_tell_66 rfl ⟨by decide, by decide⟩ ?_
      refine vr_iaddN (q := 68) dX9_tell_67 rfl ⟨by omega, by omega⟩ ?_
      refine vr_aload_n (q := 69) dX9_tell_68 rfl rfl ?_
      refine vr_getV (ji := 21) (q := 72) dX9_tell_69 rfl fX9_144 rfl rfl (mw_21 _ _) ?_
      refine vr_iast (q := 73) dX9_tell_72 rfl ⟨by omega, by omega⟩ ?_
      refine vr_aload_n (q := 74) dX9_tell_73 rfl rfl ?_
      refine vr_getR (q := 77) dX9_tell_74 rfl fX9_25 rfl y_X9_13 (by first | (simp only [Int.reduceAdd]; rfl) | rfl) ?_
      refine vr_iload_n (q := 78) dX9_tell_77 rfl rfl ?_
      refine vr_iconst (q := 79) dX9_tell_78 rfl ⟨by decide, by decide⟩ ?_
      refine vr_iaddN (q := 80) dX9_tell_79 rfl ⟨by omega, by omega⟩ ?_
      refine vr_dup2 (q := 81) dX9_tell_80 rfl rfl rfl ?_
      refine vr_ialdV (q := 82) dX9_tell_81 rfl ⟨by omega, by omega⟩ (show _ = p 13 s by rw [hs_n (by omega), eW]; exact a3) ?_
      refine vr_iconst (q := 83) dX9_tell_82 rfl ⟨by decide, by decide⟩ ?_
      refine vr_iload_n (q := 84) dX9_tell_83 rfl rfl ?_
      refine vr_ishl (q := 85) dX9_tell_84 rfl ?_
      refine vr_ior (q := 86) dX9_tell_85 rfl ?_
      refine vr_iast (q := 87) dX9_tell_86 rfl ⟨by omega, by omega⟩ ?_
      refine vr_aload_n (q := 88) dX9_tell_87 rfl rfl ?_
      refine vr_getR (q := 91) dX9_tell_88 rfl fX9_25 rfl y_X9_13 (by first | (simp only [Int.reduceAdd]; rfl) | rfl) ?_
      refine vr_iload_n (q := 92) dX9_tell_91 rfl rfl ?_
      refine vr_iconst (q := 93) dX9_tell_92 rfl ⟨by decide, by decide⟩ ?_
      refine vr_iaddN (q := 94) dX9_tell_93 rfl ⟨by omega, by omega⟩ ?_
      refine vr_dup2 (q := 95) dX9_tell_94 rfl rfl rfl ?_
      refine vr_ialdV (q := 96) dX9_tell_95 rfl ⟨by omega, by omega⟩ (show _ = p 14 s by rw [hs_n (by omega), hs_n (by omega), eW]; exact a4) ?_
      refine vr_iload (q := 98) dX9_tell_96 rfl rfl ?_
      refine vr_if_eq (t := 107) (q := 101) dX9_tell_98 (by decide) rfl (fun _ => ?_) (fun c9 => absurd c9 (by omega))
      refine vr_iconst (q := 108) dX9_tell_107 rfl ⟨by decide, by decide⟩ ?_
      refine vr_ior (q := 109) dX9_tell_108 rfl ?_
      rw [nor]
      refine vr_iast (q := 110) dX9_tell_109 rfl ⟨by omega, by omega⟩ ?_
      refine vr_aload_n (q := 111) dX9_tell_110 rfl rfl ?_
      refine vr_getR (q := 114) dX9_tell_111 rfl fX9_25 rfl y_X9_13 (by first | (simp only [Int.reduceAdd]; rfl) | rfl) ?_
      refine vr_iconst (q := 115) dX9_tell_114 rfl ⟨by decide, by decide⟩ ?_
      refine vr_dup2 (q := 116) dX9_tell_115 rfl rfl rfl ?_
      refine vr_ialdV (q := 117) dX9_tell_116 rfl ⟨by omega, by omega⟩ (show _ = p 7 1 by rw [hs_n (by omega), hs_n (by omega), hs_n (by omega), eW]; exact b1) ?_
      refine vr_iload (q := 119) dX9_tell_117 rfl rfl ?_
      refine vr_if_eq (t := 131) (q := 122) dX9_tell_119 (by decide) rfl (fun _ => ?_) (fun c9 => absurd c9 (by omega))
      refine vr_aload_n (q := 132) dX9_tell_131 rfl rfl ?_
      refine vr_getR (q := 135) dX9_tell_132 rfl fX9_25 rfl y_X9_13 (by first | (simp only [Int.reduceAdd]; rfl) | rfl) ?_
      refine vr_iconst (q := 136) dX9_tell_135 rfl ⟨by decide, by decide⟩ ?_
      refine vr_ialdV (q := 137) dX9_tell_136 rfl ⟨by omega, by omega⟩ (show _ = p 7 0 by rw [hs_n (by omega), hs_n (by omega), hs_n (by omega), eW]; exact b0) ?_
      refine vr_ineg (q := 138) dX9_tell_137 rfl ⟨by omega, by omega⟩ ?_
      refine vr_iadd (q := 139) dX9_tell_138 rfl ?_
      refine vr_iast (q := 140) dX9_tell_139 rfl ⟨by omega, by omega⟩ ?_
      refine vr_iload (q := 142) dX9_tell_140 rfl rfl ?_
      refine vr_if_eq (t := 149) (q := 145) dX9_tell_142 (by decide) rfl (fun _ => ?_) (fun c9 => absurd c9 (by omega))
      refine vr_iconst (q := 150) dX9_tell_149 rfl ⟨by decide, by decide⟩ ?_
      refine vr_iret dX9_tell_150 rfl ?_
      rw [e0]; exact kk
    · have z2 : nl_ (tf_ p) M l = 1 := z
      rw [z2] at kk ⊢
      rw [if_neg (by decide), if_neg (by decide)] at kk
      refine vr_istore (q := 54) dX9_tell_52 rfl (Nat.le_of_ble_eq_true rfl) rfl rfl ?_
      refine vr_aload_n (q := 55) dX9_tell_54 rfl rfl ?_
      refine vr_iload_n (q := 56) dX9_tell_55 rfl rfl ?_
      refine vr_iload (q := 58) dX9_tell_56 rfl rfl ?_
      -- at X9.tell 58: .invokevirtual 183
      refine vr_iv2 (q := 61) dX9_tell_58 rfl vX9_183 (Nat.le_of_ble_eq_true rfl) ?_
      refine m_hrW (n := 6) c2 q1.2 hm (by decide) ?_
      refine vr_aload_n (q := 62) dX9_tell_61 rfl rfl ?_
      refine vr_getR (q := 65) dX9_tell_62 rfl fX9_25 rfl y_X9_13 (by first | (simp only [Int.reduceAdd]; rfl) | rfl) ?_
      refine vr_iload_n (q := 66) dX9_tell_65 rfl rfl ?_
      refine vr_iconst (q := 67) dX9_tell_66 rfl ⟨by decide, by decide⟩ ?_
      refine vr_iaddN (q := 68) dX9_tell_67 rfl ⟨by omega, by omega⟩ ?_
      refine vr_aload_n (q := 69) dX9_tell_68 rfl rfl ?_
      refine vr_getV (ji := 21) (q := 72) dX9_tell_69 rfl fX9_144 rfl rfl (mw_21 _ _) ?_
      refine vr_iast (q := 73) dX9_tell_72 rfl ⟨by omega, by omega⟩ ?_
      refine vr_aload_n (q := 74) dX9_tell_73 rfl rfl ?_
      refine vr_getR (q := 77) dX9_tell_74 rfl fX9_25 rfl y_X9_13 (by first | (simp only [Int.reduceAdd]; rfl) | rfl) ?_
      refine vr_iload_n (q := 78) dX9_tell_77 rfl rfl ?_
      refine vr_iconst (q := 79) dX9_tell_78 rfl ⟨by decide, by decide⟩ ?_
      refine vr_iaddN (q := 80) dX9_tell_79 rfl ⟨by omega, by omega⟩ ?_
      refine vr_dup2 (q := 81) dX9_tell_80 rfl rfl rfl ?_
      refine vr_ialdV (q := 82) dX9_tell_81 rfl ⟨by omega, by omega⟩ (show _ = p 13 s by rw [hs_n (by omega), eW]; exact a3) ?_
      refine vr_iconst (q := 83) dX9_tell_82 rfl ⟨by decide, by decide⟩ ?_
      refine vr_iload_n (q := 84) dX9_tell_83 rfl rfl ?_
      refine vr_ishl (q := 85) dX9_tell_84 rfl ?_
      refine vr_ior (q := 86) dX9_tell_85 rfl ?_
      refine vr_iast (q := 87) dX9_tell_86 rfl ⟨by omega, by omega⟩ ?_
      refine vr_aload_n (q := 88) dX9_tell_87 rfl rfl ?_
      refine vr_getR (q := 91) dX9_tell_88 rfl fX9_25 rfl y_X9_13 (by first | (simp only [Int.reduceAdd]; rfl) | rfl) ?_
      refine vr_iload_n (q := 92) dX9_tell_91 rfl rfl ?_
      refine vr_iconst (q := 93) dX9_tell_92 rfl ⟨by decide, by decide⟩ ?_
      refine vr_iaddN (q := 94) dX9_tell_93 rfl ⟨by omega, by omega⟩ ?_
      refine vr_dup2 (q := 95) dX9_tell_94 rfl rfl rfl ?_
      refine vr_ialdV (q := 96) dX9_tell_95 rfl ⟨by omega, by omega⟩ (show _ = p 14 s by rw [hs_n (by omega), hs_n (by omega), eW]; exact a4) ?_
      refine vr_iload (q := 98) dX9_tell_96 rfl rfl ?_
      refine vr_if_eq (t := 107) (q := 101) dX9_tell_98 (by decide) rfl (fun c9 => absurd c9 (by omega)) (fun _ => ?_)
      refine vr_iconst (q := 102) dX9_tell_101 rfl ⟨by decide, by decide⟩ ?_
      refine vr_iload_n (q := 103) dX9_tell_102 rfl rfl ?_
      refine vr_ishl (q := 104) dX9_tell_103 rfl ?_
      refine vr_goto (q := 108) dX9_tell_104 (by decide) ?_
      refine vr_ior (q := 109) dX9_tell_108 rfl ?_
      refine vr_iast (q := 110) dX9_tell_109 rfl ⟨by omega, by omega⟩ ?_
      refine vr_aload_n (q := 111) dX9_tell_110 rfl rfl ?_
      refine vr_getR (q := 114) dX9_tell_111 rfl fX9_25 rfl y_X9_13 (by first | (simp only [Int.reduceAdd]; rfl) | rfl) ?_
      refine vr_iconst (q := 115) dX9_tell_114 rfl ⟨by decide, by decide⟩ ?_
      refine vr_dup2 (q := 116) dX9_tell_115 rfl rfl rfl ?_
      refine vr_ialdV (q := 117) dX9_tell_116 rfl ⟨by omega, by omega⟩ (show _ = p 7 1 by rw [hs_n (by omega), hs_n (by omega), hs_n (by omega), eW]; exact b1) ?_
      refine vr_iload (q := 119) dX9_tell_117 rfl rfl ?_
      refine vr_if_eq (t := 131) (q := 122) dX9_tell_119 (by decide) rfl (fun c9 => absurd c9 (by omega)) (fun _ => ?_)
      refine vr_aload_n (q := 123) dX9_tell_122 rfl rfl ?_
      refine vr_getR (q := 126) dX9_tell_123 rfl fX9_25 rfl y_X9_13 (by first | (simp only [Int.reduceAdd]; rfl) | rfl) ?_
      refine vr_iconst (q := 127) dX9_tell_126 rfl ⟨by decide, by decide⟩ ?_
      refine vr_ialdV (q := 128) dX9_tell_127 rfl ⟨by omega, by omega⟩ (show _ = p 7 0 by rw [hs_n (by omega), hs_n (by omega), hs_n (by omega), eW]; exact b0) ?_
      refine vr_goto (q := 138) dX9_tell_128 (by decide) ?_
      refine vr_iadd (q := 139) dX9_tell_138 rfl ?_
      refine vr_iast (q := 140) dX9_tell_139 rfl ⟨by omega, by omega⟩ ?_
      refine vr_iload (q := 142) dX9_tell_140 rfl rfl ?_
      refine vr_if_eq (t := 149) (q := 145) dX9_tell_142 (by decide) rfl (fun c9 => absurd c9 (by omega)) (fun _ => ?_)
      refine vr_iconst (q := 146) dX9_tell_145 rfl ⟨by decide, by decide⟩ ?_
      refine vr_goto (q := 150) dX9_tell_146 (by decide) ?_
      refine vr_iret dX9_tell_150 rfl ?_
      rw [e0]; exact kk
  refine V_mk (by decide +kernel) (Or.inr (Or.inl ⟨rfl, rfl⟩)) (Nat.le_of_ble_eq_true rfl) (by simp [sv_c]) ?_
  show V_ _ _ _ 0 [_, _, _, _, _] [] _ _
  refine vr_aload_n (q := 1) dX9_tell_0 rfl rfl ?_
  refine vr_iload_n (q := 2) dX9_tell_1 rfl rfl ?_
  refine vr_iv1 (q := 5) dX9_tell_2 rfl vX9_163 (Nat.le_of_ble_eq_true rfl) ?_
  refine m_isS c (fun c2 => ?_) (fun c2 => ?_)
  · refine vr_if_eq (t := 16) (q := 8) dX9_tell_5 (by decide) rfl (fun c9 => absurd c9 (by omega)) (fun _ => ?_)
    refine vr_aload_n (q := 9) dX9_tell_8 rfl rfl ?_
    refine vr_iload_n (q := 10) dX9_tell_9 rfl rfl ?_
    refine vr_iv1 (q := 13) dX9_tell_10 rfl vX9_166 (Nat.le_of_ble_eq_true rfl) ?_
    refine m_isL c (fun c10 => ?_) (fun c10 => ?_)
    · refine vr_if_ne (t := 19) (q := 16) dX9_tell_13 (by decide) rfl (fun _ => ?_) (fun c9 => absurd c9 (by omega))
      refine vr_aload_n (q := 20) dX9_tell_19 rfl rfl ?_
      refine vr_iload_n (q := 21) dX9_tell_20 rfl rfl ?_
      refine vr_iload_n (q := 22) dX9_tell_21 rfl rfl ?_
      refine vr_iv2 (q := 25) dX9_tell_22 rfl vX9_169 (Nat.le_of_ble_eq_true rfl) ?_
      refine m_wt c ⟨by omega, by omega⟩ (fun c22 => ?_) (fun c22 => ?_)
      · refine vr_if_eq (t := 31) (q := 28) dX9_tell_25 (by decide) rfl (fun c9 => absurd c9 (by omega)) (fun _ => ?_)
        refine vr_ldc (x := -1000002) (q := 30) dX9_tell_28 rfl ⟨by decide, by decide⟩ qX9_172 ?_
        refine vr_iret dX9_tell_30 rfl ?_
        first | exact k1 (by omega) | exact k2 (by omega) c22
      · refine vr_if_eq (t := 31) (q := 28) dX9_tell_25 (by decide) rfl (fun _ => ?_) (fun c9 => absurd c9 (by omega))
        exact r31 (by omega) c22
    · refine vr_if_ne (t := 19) (q := 16) dX9_tell_13 (by decide) rfl (fun c9 => absurd c9 (by omega)) (fun _ => ?_)
      refine vr_ldc (x := -1000001) (q := 18) dX9_tell_16 rfl ⟨by decide, by decide⟩ qX9_67 ?_
      refine vr_iret dX9_tell_18 rfl ?_
      first | exact k1 (by omega) | exact k2 (by omega) c22
  · refine vr_if_eq (t := 16) (q := 8) dX9_tell_5 (by decide) rfl (fun _ => ?_) (fun c9 => absurd c9 (by omega))
    refine vr_ldc (x := -1000001) (q := 18) dX9_tell_16 rfl ⟨by decide, by decide⟩ qX9_67 ?_
    refine vr_iret dX9_tell_18 rfl ?_
    first | exact k1 (by omega) | exact k2 (by omega) c22
theorem lm_count {w : Int} (kk : Post (some (sv_i (pr_ (h 69) (-1000000) 8))) h) : ∀ (m i : Nat), i + m = 8 → V_ g (d + 1) mX9_count 46 [some (sv_r 4 8 68), some (sv_i w), some (sv_i (pr_ (h 69) (-1000000) i)), some (sv_i i)] [] h Post := by
  intro m
  induction m with
  | zero =>
    intro i hi
    rw [show 8 = i by omega] at kk
    refine vr_iload_n (q := 47) dX9_count_46 rfl rfl ?_
    refine vr_bipush (q := 49) dX9_count_47 rfl ⟨by decide, by decide⟩ (by decide) ?_
    -- at X9.count 49: .if_icmp .ge 25
    refine vr_ic_ge (t := 74) (q := 52) dX9_count_49 (by decide) rfl (fun _ => ?_) (fun c9 => absurd c9 (by omega))
    refine vr_iload_n (q := 75) dX9_count_74 rfl rfl ?_
    refine vr_iret dX9_count_75 rfl ?_
    first | exact kk | (exfalso; omega) | (repeat (first | exact kk | rw [if_pos (by omega)] at kk | rw [if_neg (by omega)] at kk))
  | succ m ih =>
    intro i hi
    have k2 := ih (i + 1) (by omega)
    have r := pr_r (h 69) (-1000000) i
    have e : pr_ (h 69) (-1000000) (i + 1) = pr_ (h 69) (-1000000) i + (if h 69 i = -1000000 then 0 else 1) := rfl
    rw [e] at k2
    refine vr_iload_n (q := 47) dX9_count_46 rfl rfl ?_
    refine vr_bipush (q := 49) dX9_count_47 rfl ⟨by decide, by decide⟩ (by decide) ?_
    -- at X9.count 49: .if_icmp .ge 25
    refine vr_ic_ge (t := 74) (q := 52) dX9_count_49 (by decide) rfl (fun c9 => absurd c9 (by omega)) (fun _ => ?_)
    refine vr_iload_n (q := 53) dX9_count_52 rfl rfl ?_
    refine vr_aload_n (q := 54) dX9_count_53 rfl rfl ?_
    refine vr_iload_n (q := 55) dX9_count_54 rfl rfl ?_
    -- at X9.count 55: .invokevirtual 75
    refine vr_iv1 (q := 58) dX9_count_55 rfl vX9_75 (Nat.le_of_ble_eq_true rfl) ?_
    refine m_isMissing ⟨by omega, by omega⟩ (fun c1 => ?_) (fun c1 => ?_)
    · rw [if_pos c1] at k2
      refine vr_if_eq (t := 65) (q := 61) dX9_count_58 (by decide) rfl (fun c9 => absurd c9 (by omega)) (fun _ => ?_)
      refine vr_iconst (q := 62) dX9_count_61 rfl ⟨by decide, by decide⟩ ?_
      refine vr_goto (q := 66) dX9_count_62 (by decide) ?_
      refine vr_iaddN (q := 67) dX9_count_66 rfl ⟨by omega, by omega⟩ ?_
      refine vr_istore_n (q := 68) dX9_count_67 rfl rfl (Nat.le_of_ble_eq_true rfl) rfl rfl ?_
      refine vr_iinc (q := 71) dX9_count_68 rfl rfl ⟨by omega, by omega⟩ (Nat.le_of_ble_eq_true rfl) rfl rfl ?_
      refine vr_goto (q := 46) dX9_count_71 (by decide) ?_
      -- at X9.count 46: .iload_n 3
      exact k2
    · rw [if_neg c1] at k2
      refine vr_if_eq (t := 65) (q := 61) dX9_count_58 (by decide) rfl (fun _ => ?_) (fun c9 => absurd c9 (by omega))
      refine vr_iconst (q := 66) dX9_count_65 rfl ⟨by decide, by decide⟩ ?_
      refine vr_iaddN (q := 67) dX9_count_66 rfl ⟨by omega, by omega⟩ ?_
      refine vr_istore_n (q := 68) dX9_count_67 rfl rfl (Nat.le_of_ble_eq_true rfl) rfl rfl ?_
      refine vr_iinc (q := 71) dX9_count_68 rfl rfl ⟨by omega, by omega⟩ (Nat.le_of_ble_eq_true rfl) rfl rfl ?_
      refine vr_goto (q := 46) dX9_count_71 (by decide) ?_
      -- at X9.count 46: .iload_n 3
      exact k2
theorem mx_count {w : Int} (k1 : ¬ (0 ≤ w ∧ w ≤ 6) → Post (some (sv_i (-1000001))) h) (k2 : (0 ≤ w ∧ w ≤ 6) → Post (some (sv_i (if w = 0 then pr_ (h 69) (-1000000) 8 else if w = 1 then h 74 2 else if w = 2 then h 74 3 else if w = 3 then h 74 0 else if w = 4 then h 74 1 else if w = 5 then h 68 16 else h 68 6))) h) : Ctr_ g (d + 1) mX9_count [sv_r 4 8 68, sv_i w] h Post := by
  refine V_mk (by decide +kernel) (Or.inr (Or.inl ⟨rfl, rfl⟩)) (Nat.le_of_ble_eq_true rfl) (by simp [sv_c]) ?_
  show V_ _ _ _ 0 [_, _, _, _] [] _ _
  refine vr_iconst (q := 1) dX9_count_0 rfl ⟨by decide, by decide⟩ ?_
  refine vr_istore_n (q := 2) dX9_count_1 rfl rfl (Nat.le_of_ble_eq_true rfl) rfl rfl ?_
  refine vr_iload_n (q := 3) dX9_count_2 rfl rfl ?_
  -- at X9.count 3: .tableswitch 111 0 6 #[41, 73, 80, 87, 94, 101, 106]
  by_cases cw : 0 ≤ w ∧ w ≤ 6
  · have kk := k2 cw
    rcases (by omega : w = 0 ∨ w = 1 ∨ w = 2 ∨ w = 3 ∨ w = 4 ∨ w = 5 ∨ w = 6) with rfl | rfl | rfl | rfl | rfl | rfl | rfl
    · refine vr_tsI (q := 44) dX9_count_3 (by decide) (by decide) rfl (by decide) ?_
      refine vr_iconst (q := 45) dX9_count_44 rfl ⟨by decide, by decide⟩ ?_
      refine vr_istore_n (q := 46) dX9_count_45 rfl rfl (Nat.le_of_ble_eq_true rfl) rfl rfl ?_
      -- at X9.count 46: .iload_n 3
      exact lm_count kk 8 0 rfl
    · refine vr_tsI (q := 76) dX9_count_3 (by decide) (by decide) rfl (by decide) ?_
      refine vr_aload_n (q := 77) dX9_count_76 rfl rfl ?_
      refine vr_getR (q := 80) dX9_count_77 rfl fX9_25 rfl y_X9_13 (by first | (simp only [Int.reduceAdd]; rfl) | rfl) ?_
      refine vr_iconst (q := 81) dX9_count_80 rfl ⟨by decide, by decide⟩ ?_
      refine vr_iald (q := 82) dX9_count_81 rfl ⟨by omega, by omega⟩ ?_
      refine vr_iret dX9_count_82 rfl ?_
      exact kk
    · refine vr_tsI (q := 83) dX9_count_3 (by decide) (by decide) rfl (by decide) ?_
      refine vr_aload_n (q := 84) dX9_count_83 rfl rfl ?_
      refine vr_getR (q := 87) dX9_count_84 rfl fX9_25 rfl y_X9_13 (by first | (simp only [Int.reduceAdd]; rfl) | rfl) ?_
      refine vr_iconst (q := 88) dX9_count_87 rfl ⟨by decide, by decide⟩ ?_
      refine vr_iald (q := 89) dX9_count_88 rfl ⟨by omega, by omega⟩ ?_
      refine vr_iret dX9_count_89 rfl ?_
      exact kk
    · refine vr_tsI (q := 90) dX9_count_3 (by decide) (by decide) rfl (by decide) ?_
      refine vr_aload_n (q := 91) dX9_count_90 rfl rfl ?_
      refine vr_getR (q := 94) dX9_count_91 rfl fX9_25 rfl y_X9_13 (by first | (simp only [Int.reduceAdd]; rfl) | rfl) ?_
      refine vr_iconst (q := 95) dX9_count_94 rfl ⟨by decide, by decide⟩ ?_
      refine vr_iald (q := 96) dX9_count_95 rfl ⟨by omega, by omega⟩ ?_
      refine vr_iret dX9_count_96 rfl ?_
      exact kk
    · refine vr_tsI (q := 97) dX9_count_3 (by decide) (by decide) rfl (by decide) ?_
      refine vr_aload_n (q := 98) dX9_count_97 rfl rfl ?_
      refine vr_getR (q := 101) dX9_count_98 rfl fX9_25 rfl y_X9_13 (by first | (simp only [Int.reduceAdd]; rfl) | rfl) ?_
      refine vr_iconst (q := 102) dX9_count_101 rfl ⟨by decide, by decide⟩ ?_
      refine vr_iald (q := 103) dX9_count_102 rfl ⟨by omega, by omega⟩ ?_
      refine vr_iret dX9_count_103 rfl ?_
      exact kk
    · refine vr_tsI (q := 104) dX9_count_3 (by decide) (by decide) rfl (by decide) ?_
      refine vr_aload_n (q := 105) dX9_count_104 rfl rfl ?_
      refine vr_getI (ji := 16) (q := 108) dX9_count_105 rfl fX9_141 rfl rfl ?_
      refine vr_iret dX9_count_108 rfl ?_
      exact kk
    · refine vr_tsI (q := 109) dX9_count_3 (by decide) (by decide) rfl (by decide) ?_
      refine vr_aload_n (q := 110) dX9_count_109 rfl rfl ?_
      refine vr_getI (ji := 6) (q := 113) dX9_count_110 rfl fX9_85 rfl rfl ?_
      refine vr_iret dX9_count_113 rfl ?_
      exact kk
  · refine vr_tsO (q := 114) dX9_count_3 (by omega) (by decide) ?_
    refine vr_ldc (x := -1000001) (q := 116) dX9_count_114 rfl ⟨by decide, by decide⟩ qX9_67 ?_
    refine vr_iret dX9_count_116 rfl ?_
    exact k1 cw
theorem mx_as {l k : Int} (c : cpl_ p h) (k1 : ¬ ((0 ≤ l ∧ l < p 7 2) ∧ (0 ≤ k ∧ k < 6)) → Post (some (sv_i (-1000001))) h) (k2 : ((0 ≤ l ∧ l < p 7 2) ∧ (0 ≤ k ∧ k < 6)) → ¬ is_ (p 8 l) k → Post (some (sv_i (-1000010 - 3))) (hs_ h 68 4 3)) (k3 : ((0 ≤ l ∧ l < p 7 2) ∧ (0 ≤ k ∧ k < 6)) → is_ (p 8 l) k → Post (some (sv_i l)) (hs_ h 68 4 0)) : Ctr_ g (d + 2) mX9_as [sv_r 4 8 68, sv_i l, sv_i k] h Post := by
  have o1 := c.1.1
  have r20 : ((0 ≤ l ∧ l < p 7 2) ∧ (0 ≤ k ∧ k < 6)) → V_ g (d + 2) mX9_as 20 [some (sv_r 4 8 68), some (sv_i l), some (sv_i k), none, none] [] h Post := by
    intro q
    have hk := (c.1.2.2.2.1 l q.1.1 q.1.2).1
    have j2 := k2 q
    have j3 := k3 q
    refine vr_aload_n (q := 21) dX9_as_20 rfl rfl ?_
    refine vr_iload_n (q := 22) dX9_as_21 rfl rfl ?_
    -- at X9.as 22: .invokevirtual 231
    refine vr_iv1 (q := 25) dX9_as_22 rfl vX9_231 (Nat.le_of_ble_eq_true rfl) ?_
    refine m_kindIn ⟨by omega, by omega⟩ ?_
    rw [(c.2.2.1 l q.1.1 q.1.2).1]
    generalize p 8 l = kd at hk j2 j3 ⊢
    unfold is_ at j2 j3
    refine vr_istore_n (q := 26) dX9_as_25 rfl rfl (Nat.le_of_ble_eq_true rfl) rfl rfl ?_
    refine vr_iload_n (q := 27) dX9_as_26 rfl rfl ?_
    refine vr_if_eq (t := 55) (q := 30) dX9_as_27 (by decide) rfl (fun c27 => ?_) (fun c27 => ?_)
    · refine vr_iconst (q := 56) dX9_as_55 rfl ⟨by decide, by decide⟩ ?_
      refine vr_goto (q := 60) dX9_as_56 (by decide) ?_
      refine vr_istore (q := 62) dX9_as_60 rfl (Nat.le_of_ble_eq_true rfl) rfl rfl ?_
      refine vr_iload (q := 64) dX9_as_62 rfl rfl ?_
      refine vr_if_eq (t := 75) (q := 67) dX9_as_64 (by decide) rfl (fun c9 => absurd c9 (by omega)) (fun _ => ?_)
      refine vr_aload_n (q := 68) dX9_as_67 rfl rfl ?_
      refine vr_iload_n (q := 69) dX9_as_68 rfl rfl ?_
      refine vr_iv1 (q := 72) dX9_as_69 rfl vX9_72 (Nat.le_of_ble_eq_true rfl) ?_
      refine m_well ?_
      refine vr_goto (q := 80) dX9_as_72 (by decide) ?_
      refine vr_iret dX9_as_80 rfl ?_
      first | exact j3 (by omega) | exact j2 (by omega)
    · refine vr_iload_n (q := 31) dX9_as_30 rfl rfl ?_
      refine vr_iload_n (q := 32) dX9_as_31 rfl rfl ?_
      refine vr_ic_eq (t := 55) (q := 35) dX9_as_32 (by decide) rfl (fun c32 => ?_) (fun c32 => ?_)
      · refine vr_iconst (q := 56) dX9_as_55 rfl ⟨by decide, by decide⟩ ?_
        refine vr_goto (q := 60) dX9_as_56 (by decide) ?_
        refine vr_istore (q := 62) dX9_as_60 rfl (Nat.le_of_ble_eq_true rfl) rfl rfl ?_
        refine vr_iload (q := 64) dX9_as_62 rfl rfl ?_
        refine vr_if_eq (t := 75) (q := 67) dX9_as_64 (by decide) rfl (fun c9 => absurd c9 (by omega)) (fun _ => ?_)
        refine vr_aload_n (q := 68) dX9_as_67 rfl rfl ?_
        refine vr_iload_n (q := 69) dX9_as_68 rfl rfl ?_
        refine vr_iv1 (q := 72) dX9_as_69 rfl vX9_72 (Nat.le_of_ble_eq_true rfl) ?_
        refine m_well ?_
        refine vr_goto (q := 80) dX9_as_72 (by decide) ?_
        refine vr_iret dX9_as_80 rfl ?_
        first | exact j3 (by omega) | exact j2 (by omega)
      · refine vr_iload_n (q := 36) dX9_as_35 rfl rfl ?_
        refine vr_iconst (q := 37) dX9_as_36 rfl ⟨by decide, by decide⟩ ?_
        refine vr_ic_ne (t := 45) (q := 40) dX9_as_37 (by decide) rfl (fun c37 => ?_) (fun c37 => ?_)
        · refine vr_iload_n (q := 46) dX9_as_45 rfl rfl ?_
          refine vr_iconst (q := 47) dX9_as_46 rfl ⟨by decide, by decide⟩ ?_
          refine vr_ic_ne (t := 59) (q := 50) dX9_as_47 (by decide) rfl (fun c47 => ?_) (fun c47 => ?_)
          · refine vr_iconst (q := 60) dX9_as_59 rfl ⟨by decide, by decide⟩ ?_
            refine vr_istore (q := 62) dX9_as_60 rfl (Nat.le_of_ble_eq_true rfl) rfl rfl ?_
            refine vr_iload (q := 64) dX9_as_62 rfl rfl ?_
            refine vr_if_eq (t := 75) (q := 67) dX9_as_64 (by decide) rfl (fun _ => ?_) (fun c9 => absurd c9 (by omega))
            refine vr_aload_n (q := 76) dX9_as_75 rfl rfl ?_
            refine vr_iconst (q := 77) dX9_as_76 rfl ⟨by decide, by decide⟩ ?_
            refine vr_iv1 (q := 80) dX9_as_77 rfl vX9_68 (Nat.le_of_ble_eq_true rfl) ?_
            refine m_found ⟨by decide, by decide⟩ ?_
            refine vr_iret dX9_as_80 rfl ?_
            first | exact j3 (by omega) | exact j2 (by omega)
          · refine vr_iload_n (q := 51) dX9_as_50 rfl rfl ?_
            refine vr_iconst (q := 52) dX9_as_51 rfl ⟨by decide, by decide⟩ ?_
            refine vr_ic_ne (t := 59) (q := 55) dX9_as_52 (by decide) rfl (fun c52 => ?_) (fun c52 => ?_)
            · refine vr_iconst (q := 60) dX9_as_59 rfl ⟨by decide, by decide⟩ ?_
              refine vr_istore (q := 62) dX9_as_60 rfl (Nat.le_of_ble_eq_true rfl) rfl rfl ?_
              refine vr_iload (q := 64) dX9_as_62 rfl rfl ?_
              refine vr_if_eq (t := 75) (q := 67) dX9_as_64 (by decide) rfl (fun _ => ?_) (fun c9 => absurd c9 (by omega))
              refine vr_aload_n (q := 76) dX9_as_75 rfl rfl ?_
              refine vr_iconst (q := 77) dX9_as_76 rfl ⟨by decide, by decide⟩ ?_
              refine vr_iv1 (q := 80) dX9_as_77 rfl vX9_68 (Nat.le_of_ble_eq_true rfl) ?_
              refine m_found ⟨by decide, by decide⟩ ?_
              refine vr_iret dX9_as_80 rfl ?_
              first | exact j3 (by omega) | exact j2 (by omega)
            · refine vr_iconst (q := 56) dX9_as_55 rfl ⟨by decide, by decide⟩ ?_
              refine vr_goto (q := 60) dX9_as_56 (by decide) ?_
              refine vr_istore (q := 62) dX9_as_60 rfl (Nat.le_of_ble_eq_true rfl) rfl rfl ?_
              refine vr_iload (q := 64) dX9_as_62 rfl rfl ?_
              refine vr_if_eq (t := 75) (q := 67) dX9_as_64 (by decide) rfl (fun c9 => absurd c9 (by omega)) (fun _ => ?_)
              refine vr_aload_n (q := 68) dX9_as_67 rfl rfl ?_
              refine vr_iload_n (q := 69) dX9_as_68 rfl rfl ?_
              refine vr_iv1 (q := 72) dX9_as_69 rfl vX9_72 (Nat.le_of_ble_eq_true rfl) ?_
              refine m_well ?_
              refine vr_goto (q := 80) dX9_as_72 (by decide) ?_
              refine vr_iret dX9_as_80 rfl ?_
              first | exact j3 (by omega) | exact j2 (by omega)
        · refine vr_iload_n (q := 41) dX9_as_40 rfl rfl ?_
          refine vr_iconst (q := 42) dX9_as_41 rfl ⟨by decide, by decide⟩ ?_
          refine vr_ic_lt (t := 55) (q := 45) dX9_as_42 (by decide) rfl (fun c42 => ?_) (fun c42 => ?_)
          · refine vr_iconst (q := 56) dX9_as_55 rfl ⟨by decide, by decide⟩ ?_
            refine vr_goto (q := 60) dX9_as_56 (by decide) ?_
            refine vr_istore (q := 62) dX9_as_60 rfl (Nat.le_of_ble_eq_true rfl) rfl rfl ?_
            refine vr_iload (q := 64) dX9_as_62 rfl rfl ?_
            refine vr_if_eq (t := 75) (q := 67) dX9_as_64 (by decide) rfl (fun c9 => absurd c9 (by omega)) (fun _ => ?_)
            refine vr_aload_n (q := 68) dX9_as_67 rfl rfl ?_
            refine vr_iload_n (q := 69) dX9_as_68 rfl rfl ?_
            refine vr_iv1 (q := 72) dX9_as_69 rfl vX9_72 (Nat.le_of_ble_eq_true rfl) ?_
            refine m_well ?_
            refine vr_goto (q := 80) dX9_as_72 (by decide) ?_
            refine vr_iret dX9_as_80 rfl ?_
            first | exact j3 (by omega) | exact j2 (by omega)
          · refine vr_iload_n (q := 46) dX9_as_45 rfl rfl ?_
            refine vr_iconst (q := 47) dX9_as_46 rfl ⟨by decide, by decide⟩ ?_
            refine vr_ic_ne (t := 59) (q := 50) dX9_as_47 (by decide) rfl (fun c47 => ?_) (fun c47 => ?_)
            · refine vr_iconst (q := 60) dX9_as_59 rfl ⟨by decide, by decide⟩ ?_
              refine vr_istore (q := 62) dX9_as_60 rfl (Nat.le_of_ble_eq_true rfl) rfl rfl ?_
              refine vr_iload (q := 64) dX9_as_62 rfl rfl ?_
              refine vr_if_eq (t := 75) (q := 67) dX9_as_64 (by decide) rfl (fun _ => ?_) (fun c9 => absurd c9 (by omega))
              refine vr_aload_n (q := 76) dX9_as_75 rfl rfl ?_
              refine vr_iconst (q := 77) dX9_as_76 rfl ⟨by decide, by decide⟩ ?_
              refine vr_iv1 (q := 80) dX9_as_77 rfl vX9_68 (Nat.le_of_ble_eq_true rfl) ?_
              refine m_found ⟨by decide, by decide⟩ ?_
              refine vr_iret dX9_as_80 rfl ?_
              first | exact j3 (by omega) | exact j2 (by omega)
            · refine vr_iload_n (q := 51) dX9_as_50 rfl rfl ?_
              refine vr_iconst (q := 52) dX9_as_51 rfl ⟨by decide, by decide⟩ ?_
              refine vr_ic_ne (t := 59) (q := 55) dX9_as_52 (by decide) rfl (fun c52 => ?_) (fun c52 => ?_)
              · refine vr_iconst (q := 60) dX9_as_59 rfl ⟨by decide, by decide⟩ ?_
                refine vr_istore (q := 62) dX9_as_60 rfl (Nat.le_of_ble_eq_true rfl) rfl rfl ?_
                refine vr_iload (q := 64) dX9_as_62 rfl rfl ?_
                refine vr_if_eq (t := 75) (q := 67) dX9_as_64 (by decide) rfl (fun _ => ?_) (fun c9 => absurd c9 (by omega))
                refine vr_aload_n (q := 76) dX9_as_75 rfl rfl ?_
                refine vr_iconst (q := 77) dX9_as_76 rfl ⟨by decide, by decide⟩ ?_
                refine vr_iv1 (q := 80) dX9_as_77 rfl vX9_68 (Nat.le_of_ble_eq_true rfl) ?_
                refine m_found ⟨by decide, by decide⟩ ?_
                refine vr_iret dX9_as_80 rfl ?_
                first | exact j3 (by omega) | exact j2 (by omega)
              · refine vr_iconst (q := 56) dX9_as_55 rfl ⟨by decide, by decide⟩ ?_
                refine vr_goto (q := 60) dX9_as_56 (by decide) ?_
                refine vr_istore (q := 62) dX9_as_60 rfl (Nat.le_of_ble_eq_true rfl) rfl rfl ?_
                refine vr_iload (q := 64) dX9_as_62 rfl rfl ?_
                refine vr_if_eq (t := 75) (q := 67) dX9_as_64 (by decide) rfl (fun c9 => absurd c9 (by omega)) (fun _ => ?_)
                refine vr_aload_n (q := 68) dX9_as_67 rfl rfl ?_
                refine vr_iload_n (q := 69) dX9_as_68 rfl rfl ?_
                refine vr_iv1 (q := 72) dX9_as_69 rfl vX9_72 (Nat.le_of_ble_eq_true rfl) ?_
                refine m_well ?_
                refine vr_goto (q := 80) dX9_as_72 (by decide) ?_
                refine vr_iret dX9_as_80 rfl ?_
                first | exact j3 (by omega) | exact j2 (by omega)
  refine V_mk (by decide +kernel) (Or.inr (Or.inl ⟨rfl, rfl⟩)) (Nat.le_of_ble_eq_true rfl) (by simp [sv_c]) ?_
  show V_ _ _ _ 0 [_, _, _, _, _] [] _ _
  refine vr_aload_n (q := 1) dX9_as_0 rfl rfl ?_
  refine vr_iload_n (q := 2) dX9_as_1 rfl rfl ?_
  refine vr_iv1 (q := 5) dX9_as_2 rfl vX9_166 (Nat.le_of_ble_eq_true rfl) ?_
  refine m_isL c (fun c2 => ?_) (fun c2 => ?_)
  · refine vr_if_eq (t := 17) (q := 8) dX9_as_5 (by decide) rfl (fun c9 => absurd c9 (by omega)) (fun _ => ?_)
    refine vr_iload_n (q := 9) dX9_as_8 rfl rfl ?_
    refine vr_iconst (q := 10) dX9_as_9 rfl ⟨by decide, by decide⟩ ?_
    refine vr_iconst (q := 11) dX9_as_10 rfl ⟨by decide, by decide⟩ ?_
    refine vr_is3 (q := 14) dX9_as_11 rfl vX9_59 (Nat.le_of_ble_eq_true rfl) ?_
    refine m_in (fun c11 => ?_) (fun c11 => ?_)
    · refine vr_if_ne (t := 20) (q := 17) dX9_as_14 (by decide) rfl (fun _ => ?_) (fun c9 => absurd c9 (by omega))
      exact r20 (by omega)
    · refine vr_if_ne (t := 20) (q := 17) dX9_as_14 (by decide) rfl (fun c9 => absurd c9 (by omega)) (fun _ => ?_)
      refine vr_ldc (x := -1000001) (q := 19) dX9_as_17 rfl ⟨by decide, by decide⟩ qX9_67 ?_
      refine vr_iret dX9_as_19 rfl ?_
      exact k1 (by omega)
  · refine vr_if_eq (t := 17) (q := 8) dX9_as_5 (by decide) rfl (fun _ => ?_) (fun c9 => absurd c9 (by omega))
    refine vr_ldc (x := -1000001) (q := 19) dX9_as_17 rfl ⟨by decide, by decide⟩ qX9_67 ?_
    refine vr_iret dX9_as_19 rfl ?_
    exact k1 (by omega)
theorem lm_suppers {s l : Int} (c : cpl_ p h) (hl : 0 ≤ l ∧ l < p 7 2) : ∀ (k i : Nat) (m : MU_), i + k = 11 → mo_ 6 m → (∀ m2, Post (some (sv_i (su_ (tf_ p) l k i m))) (mw_ h m2)) → V_ g (d + 3) mX9_suppers 38 [some (sv_r 4 8 68), some (sv_i s), some (sv_i l), some (sv_i i)] [] (mw_ h m) Post := by
  intro k
  induction k with
  | zero =>
    intro i m hi hm kk
    refine vr_iload_n (q := 39) dX9_suppers_38 rfl rfl ?_
    refine vr_bipush (q := 41) dX9_suppers_39 rfl ⟨by decide, by decide⟩ (by decide) ?_
    -- at X9.suppers 41: .if_icmp .ge 43
    refine vr_ic_ge (t := 84) (q := 44) dX9_suppers_41 (by decide) rfl (fun _ => ?_) (fun c9 => absurd c9 (by omega))
    refine vr_ldc (x := -1000000) (q := 86) dX9_suppers_84 rfl ⟨by decide, by decide⟩ qX9_53 ?_
    refine vr_iret dX9_suppers_86 rfl ?_
    exact kk m
  | succ k ih =>
    intro i m hi hm kk
    have hm1 := hm.1
    have e : su_ (tf_ p) l (k + 1) i m = if nl_ (tf_ p) m l = 0 then su_ (tf_ p) l k (i + 1) (di_ m) else i := rfl
    rw [e] at kk
    refine vr_iload_n (q := 39) dX9_suppers_38 rfl rfl ?_
    refine vr_bipush (q := 41) dX9_suppers_39 rfl ⟨by decide, by decide⟩ (by decide) ?_
    -- at X9.suppers 41: .if_icmp .ge 43
    refine vr_ic_ge (t := 84) (q := 44) dX9_suppers_41 (by decide) rfl (fun c9 => absurd c9 (by omega)) (fun _ => ?_)
    refine vr_aload_n (q := 45) dX9_suppers_44 rfl rfl ?_
    refine vr_iload_n (q := 46) dX9_suppers_45 rfl rfl ?_
    -- at X9.suppers 46: .invokevirtual 180
    refine vr_iv1 (q := 49) dX9_suppers_46 rfl vX9_180 (Nat.le_of_ble_eq_true rfl) ?_
    refine m_wnW (n := 6) c hl hm (by decide) ?_
    refine vr_if_eq (t := 54) (q := 52) dX9_suppers_49 (by decide) rfl (fun c1 => ?_) (fun c1 => ?_)
    · rw [if_pos c1] at kk
      have k2 := ih (i + 1) (di_ m) (by omega) (di_mo hm) kk
      unfold di_ at k2
      refine vr_aload_n (q := 55) dX9_suppers_54 rfl rfl ?_
      refine vr_aload_n (q := 56) dX9_suppers_55 rfl rfl ?_
      refine vr_getV (ji := 21) (q := 59) dX9_suppers_56 rfl fX9_144 rfl rfl (mw_21 _ _) ?_
      refine vr_bipush (q := 61) dX9_suppers_59 rfl ⟨by decide, by decide⟩ (by decide) ?_
      -- at X9.suppers 61: .if_icmp .ge 12
      refine vr_ic_ge (t := 73) (q := 64) dX9_suppers_61 (by decide) rfl (fun c2 => ?_) (fun c2 => ?_)
      · rw [show (if 20 < m.1 + 2 then (20 : Int) else m.1 + 2) = 20 by split <;> omega] at k2
        refine vr_bipush (q := 75) dX9_suppers_73 rfl ⟨by decide, by decide⟩ (by decide) ?_
        refine vr_put (ji := 21) (q := 78) dX9_suppers_75 rfl pX9_144 rfl rfl ?_
        -- at X9.suppers 78: .iinc 3 1
        rw [mw_h21]
        refine vr_iinc (q := 81) dX9_suppers_78 rfl rfl ⟨by omega, by omega⟩ (Nat.le_of_ble_eq_true rfl) rfl rfl ?_
        refine vr_goto (q := 38) dX9_suppers_81 (by decide) ?_
        -- at X9.suppers 38: .iload_n 3
        exact k2
      · rw [show (if 20 < m.1 + 2 then (20 : Int) else m.1 + 2) = m.1 + 2 by split <;> omega] at k2
        refine vr_aload_n (q := 65) dX9_suppers_64 rfl rfl ?_
        refine vr_getV (ji := 21) (q := 68) dX9_suppers_65 rfl fX9_144 rfl rfl (mw_21 _ _) ?_
        refine vr_iconst (q := 69) dX9_suppers_68 rfl ⟨by decide, by decide⟩ ?_
        refine vr_iaddN (q := 70) dX9_suppers_69 rfl ⟨by omega, by omega⟩ ?_
        refine vr_goto (q := 75) dX9_suppers_70 (by decide) ?_
        refine vr_put (ji := 21) (q := 78) dX9_suppers_75 rfl pX9_144 rfl rfl ?_
        -- at X9.suppers 78: .iinc 3 1
        rw [mw_h21]
        refine vr_iinc (q := 81) dX9_suppers_78 rfl rfl ⟨by omega, by omega⟩ (Nat.le_of_ble_eq_true rfl) rfl rfl ?_
        refine vr_goto (q := 38) dX9_suppers_81 (by decide) ?_
        -- at X9.suppers 38: .iload_n 3
        exact k2
    · rw [if_neg c1] at kk
      refine vr_iload_n (q := 53) dX9_suppers_52 rfl rfl ?_
      refine vr_iret dX9_suppers_53 rfl ?_
      exact kk m
theorem mx_suppers {s l : Int} (c : cpl_ p h) (k1 : ¬ ((0 ≤ s ∧ s < p 7 3) ∧ (0 ≤ l ∧ l < p 7 2)) → Post (some (sv_i (-1000001))) h) (k2 : ((0 ≤ s ∧ s < p 7 3) ∧ (0 ≤ l ∧ l < p 7 2)) → ¬ bt_ (p 13 s) l = 0 → Post (some (sv_i (-1000002))) h) (k3 : ((0 ≤ s ∧ s < p 7 3) ∧ (0 ≤ l ∧ l < p 7 2)) → bt_ (p 13 s) l = 0 → ∀ m2, Post (some (sv_i (su_ (tf_ p) l 11 0 (en_ p s)))) (mw_ h m2)) : Ctr_ g (d + 3) mX9_suppers [sv_r 4 8 68, sv_i s, sv_i l] h Post := by
  refine V_mk (by decide +kernel) (Or.inr (Or.inl ⟨rfl, rfl⟩)) (Nat.le_of_ble_eq_true rfl) (by simp [sv_c]) ?_
  show V_ _ _ _ 0 [_, _, _, _] [] _ _
  refine vr_aload_n (q := 1) dX9_suppers_0 rfl rfl ?_
  refine vr_iload_n (q := 2) dX9_suppers_1 rfl rfl ?_
  refine vr_iv1 (q := 5) dX9_suppers_2 rfl vX9_163 (Nat.le_of_ble_eq_true rfl) ?_
  refine m_isS c (fun c2 => ?_) (fun c2 => ?_)
  · refine vr_if_eq (t := 16) (q := 8) dX9_suppers_5 (by decide) rfl (fun c9 => absurd c9 (by omega)) (fun _ => ?_)
    refine vr_aload_n (q := 9) dX9_suppers_8 rfl rfl ?_
    refine vr_iload_n (q := 10) dX9_suppers_9 rfl rfl ?_
    refine vr_iv1 (q := 13) dX9_suppers_10 rfl vX9_166 (Nat.le_of_ble_eq_true rfl) ?_
    refine m_isL c (fun c10 => ?_) (fun c10 => ?_)
    · refine vr_if_ne (t := 19) (q := 16) dX9_suppers_13 (by decide) rfl (fun _ => ?_) (fun c9 => absurd c9 (by omega))
      refine vr_aload_n (q := 20) dX9_suppers_19 rfl rfl ?_
      refine vr_iload_n (q := 21) dX9_suppers_20 rfl rfl ?_
      refine vr_iload_n (q := 22) dX9_suppers_21 rfl rfl ?_
      refine vr_iv2 (q := 25) dX9_suppers_22 rfl vX9_169 (Nat.le_of_ble_eq_true rfl) ?_
      refine m_wt c ⟨by omega, by omega⟩ (fun c22 => ?_) (fun c22 => ?_)
      · refine vr_if_eq (t := 31) (q := 28) dX9_suppers_25 (by decide) rfl (fun c9 => absurd c9 (by omega)) (fun _ => ?_)
        refine vr_ldc (x := -1000002) (q := 30) dX9_suppers_28 rfl ⟨by decide, by decide⟩ qX9_172 ?_
        refine vr_iret dX9_suppers_30 rfl ?_
        first | exact k1 (by omega) | exact k2 (by omega) c22
      · refine vr_if_eq (t := 31) (q := 28) dX9_suppers_25 (by decide) rfl (fun _ => ?_) (fun c9 => absurd c9 (by omega))
        refine vr_aload_n (q := 32) dX9_suppers_31 rfl rfl ?_
        refine vr_iload_n (q := 33) dX9_suppers_32 rfl rfl ?_
        refine vr_iv1 (q := 36) dX9_suppers_33 rfl vX9_176 (Nat.le_of_ble_eq_true rfl) ?_
        refine m_tr c ⟨by omega, by omega⟩ ?_
        refine vr_iconst (q := 37) dX9_suppers_36 rfl ⟨by decide, by decide⟩ ?_
        refine vr_istore_n (q := 38) dX9_suppers_37 rfl rfl (Nat.le_of_ble_eq_true rfl) rfl rfl ?_
        exact lm_suppers c ⟨by omega, by omega⟩ 11 0 _ rfl (en_mo c.1 ⟨by omega, by omega⟩) (k3 (by omega) c22)
    · refine vr_if_ne (t := 19) (q := 16) dX9_suppers_13 (by decide) rfl (fun c9 => absurd c9 (by omega)) (fun _ => ?_)
      refine vr_ldc (x := -1000001) (q := 18) dX9_suppers_16 rfl ⟨by decide, by decide⟩ qX9_67 ?_
      refine vr_iret dX9_suppers_18 rfl ?_
      first | exact k1 (by omega) | exact k2 (by omega) c22
  · refine vr_if_eq (t := 16) (q := 8) dX9_suppers_5 (by decide) rfl (fun _ => ?_) (fun c9 => absurd c9 (by omega))
    refine vr_ldc (x := -1000001) (q := 18) dX9_suppers_16 rfl ⟨by decide, by decide⟩ qX9_67 ?_
    refine vr_iret dX9_suppers_18 rfl ?_
    first | exact k1 (by omega) | exact k2 (by omega) c22
end PM13_
