/-- one way of the slips (bits) : its weight, and how often it nods -/
def gby_ (F : TF_) (L : Int → Int) (c sl : Int) : Nat → Int → MU_ → Int × Int → Int × Int
  | 0, _, _, x => x
  | k + 1, t, m, x => gby_ F L c sl k (t + 1) (he_ (F.2.1 (L t)) (F.2.2 (L t)) (if nl_ F m (L t) = 0 then 0 else 1 - bt_ sl t) m) (x.1 * (if nl_ F m (L t) = 0 then (if bt_ sl t = 0 then 10 else 0) else if bt_ sl t = 0 then 10 - c else c), x.2 + (if nl_ F m (L t) = 0 then 0 else 1 - bt_ sl t))
theorem gby_b {x f P : Int} (hx : 0 ≤ x ∧ x ≤ P) (hf : 0 ≤ f ∧ f ≤ 10) : 0 ≤ x * f ∧ x * f ≤ P * 10 := ⟨Int.mul_nonneg hx.1 hf.1, Int.mul_le_mul hx.2 hf.2 hf.1 (Int.le_trans hx.1 hx.2)⟩
theorem mw_27 (h : SH_) (m : MU_) (u v : Int) : hs_ (mw_ (hs_ h 68 27 u) m) 68 27 v = mw_ (hs_ h 68 27 v) m := by
  funext a b
  unfold mw_ hs_
  by_cases h1 : a = 68
  · subst h1
    by_cases c0 : b = 27
    · subst c0; simp
    · simp [c0]
  · simp [h1]
theorem mw_27r (h : SH_) (m : MU_) (u : Int) : mw_ (hs_ h 68 27 u) m 68 27 = u := by
  rw [mw_f (by omega), hs_e]
section PM18_
variable {g : SG_} {d : Nat} {h p : SH_} {Post : Option SV_ → SH_ → Prop}
theorem lm_goesBy {s fr n sl cc : Int} {L : Int → Int} (c : cpl_ p h) (hn : 0 ≤ n ∧ n ≤ 6) (hf : 0 ≤ fr ∧ fr + 2 * n ≤ 320) (hcc : 0 ≤ cc ∧ cc ≤ 10) (hI : ∀ t, 0 ≤ t → t < n → h 71 (fr + 2 * t) = L t) (hL : ∀ t, 0 ≤ t → t < n → 0 ≤ L t ∧ L t < p 7 2) : ∀ (k j : Nat) (x : Int × Int) (m : MU_) (o9 o10 o11 : Option SV_), (j : Int) + k = n → (0 ≤ x.1 ∧ x.1 ≤ pw_ j) → (0 ≤ x.2 ∧ x.2 ≤ j) → mo_ (6 + j) m → (∀ m2, (0 ≤ (gby_ (tf_ p) L cc sl k j m x).1 ∧ (gby_ (tf_ p) L cc sl k j m x).1 ≤ pw_ (j + k)) → Post (some (sv_l (gby_ (tf_ p) L cc sl k j m x).1)) (mw_ (hs_ h 68 27 (gby_ (tf_ p) L cc sl k j m x).2) m2)) → V_ g (d + 3) mX9_goesBy 16 [some (sv_r 4 8 68), some (sv_i s), some (sv_i fr), some (sv_i n), some (sv_i sl), some (sv_i cc), some (sv_l x.1), none, some (sv_i j), o9, o10, o11] [] (mw_ (hs_ h 68 27 x.2) m) Post := by
  intro k
  induction k with
  | zero =>
    intro j x m o9 o10 o11 hj hx1 hx2 hm kk
    have k2 : Post (some (sv_l x.1)) (mw_ (hs_ h 68 27 x.2) m) := kk m hx1
    refine vr_iload (q := 18) dX9_goesBy_16 rfl rfl ?_
    refine vr_iload_n (q := 19) dX9_goesBy_18 rfl rfl ?_
    -- at X9.goesBy 19: .if_icmp .ge 126
    refine vr_ic_ge (t := 145) (q := 22) dX9_goesBy_19 (by decide) rfl (fun _ => ?_) (fun c9 => absurd c9 (by omega))
    refine vr_lload (q := 147) dX9_goesBy_145 rfl rfl ?_
    -- at X9.goesBy 147: .lreturn
    refine vr_lret dX9_goesBy_147 rfl ?_
    exact k2
  | succ k ih =>
    intro j x m o9 o10 o11 hj hx1 hx2 hm kk
    have e71 : ∀ u m, mw_ (hs_ h 68 27 u) m 71 = h 71 := fun u m => by rw [mw_n (by decide) (by decide), hs_k (by decide)]
    have c7 : ∀ u, cpl_ p (hs_ h 68 27 u) := fun u => cpl_k (hs_k (by decide)) c
    have i1 := hI j (by omega) (by omega)
    have l1 := hL j (by omega) (by omega)
    have hlo := c.1.2.2.2.1 (L j) l1.1 l1.2
    have pb := pw_b (n := j) (by omega)
    have ep : pw_ (j + 1) = pw_ j * 10 := rfl
    have b1 := gby_b hx1 (f := cc) hcc
    have b2 := gby_b hx1 (f := 10 - cc) ⟨by omega, by omega⟩
    have e : gby_ (tf_ p) L cc sl (k + 1) j m x = gby_ (tf_ p) L cc sl k (j + 1) (he_ (p 9 (L j)) (p 10 (L j)) (if nl_ (tf_ p) m (L j) = 0 then 0 else 1 - bt_ sl j) m) (x.1 * (if nl_ (tf_ p) m (L j) = 0 then (if bt_ sl j = 0 then 10 else 0) else if bt_ sl j = 0 then 10 - cc else cc), x.2 + (if nl_ (tf_ p) m (L j) = 0 then 0 else 1 - bt_ sl j)) := rfl
    have hm2 : ∀ b, mo_ (6 + ((j + 1 : Nat) : Int)) (he_ (p 9 (L j)) (p 10 (L j)) b m) := by
      intro b
      have z := he_mo (b := b) hlo hm
      rw [show (6 : Int) + ((j + 1 : Nat) : Int) = 6 + (j : Int) + 1 by omega]
      exact z
    have z01 := bt_01 sl j
    rw [e, show j + (k + 1) = j + 1 + k by omega] at kk
    refine vr_iload (q := 18) dX9_goesBy_16 rfl rfl ?_
    refine vr_iload_n (q := 19) dX9_goesBy_18 rfl rfl ?_
    -- at X9.goesBy 19: .if_icmp .ge 126
    refine vr_ic_ge (t := 145) (q := 22) dX9_goesBy_19 (by decide) rfl (fun c9 => absurd c9 (by omega)) (fun _ => ?_)
    refine vr_aload_n (q := 23) dX9_goesBy_22 rfl rfl ?_
    refine vr_getR (q := 26) dX9_goesBy_23 rfl fX9_16 rfl y_X9_2 (by first | (simp only [Int.reduceAdd]; rfl) | rfl) ?_
    refine vr_iload_n (q := 27) dX9_goesBy_26 rfl rfl ?_
    refine vr_iconst (q := 28) dX9_goesBy_27 rfl ⟨by decide, by decide⟩ ?_
    refine vr_iload (q := 30) dX9_goesBy_28 rfl rfl ?_
    refine vr_imulN (q := 31) dX9_goesBy_30 rfl ⟨by omega, by omega⟩ ?_
    refine vr_iaddN (q := 32) dX9_goesBy_31 rfl ⟨by omega, by omega⟩ ?_
    refine vr_ialdV (q := 33) dX9_goesBy_32 rfl ⟨by omega, by omega⟩ (show _ = L j by rw [e71]; exact i1) ?_
    refine vr_istore (q := 35) dX9_goesBy_33 rfl (Nat.le_of_ble_eq_true rfl) rfl rfl ?_
    refine vr_aload_n (q := 36) dX9_goesBy_35 rfl rfl ?_
    refine vr_iload (q := 38) dX9_goesBy_36 rfl rfl ?_
    -- at X9.goesBy 38: .invokevirtual 180
    refine vr_iv1 (q := 41) dX9_goesBy_38 rfl vX9_180 (Nat.le_of_ble_eq_true rfl) ?_
    refine m_wnW (n := 6 + j) (c7 x.2) l1 hm (by omega) ?_
    rcases nb_01 (p 8 (L j)) (p 9 (L j)) (p 10 (L j)) m with z | z
    · have z2 : nl_ (tf_ p) m (L j) = 0 := z
      rw [z2] at kk ⊢
      rw [if_pos (rfl : (0 : Int) = 0), if_pos (rfl : (0 : Int) = 0)] at kk
      refine vr_istore (q := 43) dX9_goesBy_41 rfl (Nat.le_of_ble_eq_true rfl) rfl rfl ?_
      refine vr_iload (q := 45) dX9_goesBy_43 rfl rfl ?_
      refine vr_iload (q := 47) dX9_goesBy_45 rfl rfl ?_
      -- at X9.goesBy 47: .invokestatic 156
      refine vr_is2 (q := 50) dX9_goesBy_47 rfl vX9_156 (Nat.le_of_ble_eq_true rfl) ?_
      refine m_has (fun c1 => ?_) (fun c1 => ?_)
      · rw [if_neg c1] at kk
        refine vr_istore (q := 52) dX9_goesBy_50 rfl (Nat.le_of_ble_eq_true rfl) rfl rfl ?_
        refine vr_lload (q := 54) dX9_goesBy_52 rfl rfl ?_
        refine vr_iload (q := 56) dX9_goesBy_54 rfl rfl ?_
        refine vr_if_eq (t := 79) (q := 59) dX9_goesBy_56 (by decide) rfl (fun _ => ?_) (fun c9 => absurd c9 (by omega))
        refine vr_iload (q := 81) dX9_goesBy_79 rfl rfl ?_
        refine vr_if_eq (t := 88) (q := 84) dX9_goesBy_81 (by decide) rfl (fun c9 => absurd c9 (by omega)) (fun _ => ?_)
        refine vr_lconst (q := 85) dX9_goesBy_84 rfl ?_
        refine vr_goto (q := 91) dX9_goesBy_85 (by decide) ?_
        refine vr_lmul (q := 92) dX9_goesBy_91 rfl ⟨by omega, by omega⟩ ?_
        refine vr_lstore (q := 94) dX9_goesBy_92 rfl (Nat.le_of_ble_eq_true rfl) rfl rfl ?_
        refine vr_aload_n (q := 95) dX9_goesBy_94 rfl rfl ?_
        refine vr_iload (q := 97) dX9_goesBy_95 rfl rfl ?_
        refine vr_iload (q := 99) dX9_goesBy_97 rfl rfl ?_
        refine vr_if_eq (t := 111) (q := 102) dX9_goesBy_99 (by decide) rfl (fun _ => ?_) (fun c9 => absurd c9 (by omega))
        refine vr_iconst (q := 112) dX9_goesBy_111 rfl ⟨by decide, by decide⟩ ?_
        refine vr_iv2 (q := 115) dX9_goesBy_112 rfl vX9_183 (Nat.le_of_ble_eq_true rfl) ?_
        refine m_hrW (n := 6 + j) (c7 x.2) l1 hm (by omega) ?_
        refine vr_aload_n (q := 116) dX9_goesBy_115 rfl rfl ?_
        refine vr_dup (q := 117) dX9_goesBy_116 rfl rfl ?_
        refine vr_getV (ji := 27) (q := 120) dX9_goesBy_117 rfl fX9_200 rfl rfl (mw_27r _ _ _) ?_
        refine vr_iload (q := 122) dX9_goesBy_120 rfl rfl ?_
        refine vr_if_eq (t := 134) (q := 125) dX9_goesBy_122 (by decide) rfl (fun _ => ?_) (fun c9 => absurd c9 (by omega))
        refine vr_iconst (q := 135) dX9_goesBy_134 rfl ⟨by decide, by decide⟩ ?_
        refine vr_iaddN (q := 136) dX9_goesBy_135 rfl ⟨by omega, by omega⟩ ?_
        refine vr_put (ji := 27) (q := 139) dX9_goesBy_136 rfl pX9_200 rfl rfl ?_
        rw [mw_27]
        refine vr_iinc (q := 142) dX9_goesBy_139 rfl rfl ⟨by omega, by omega⟩ (Nat.le_of_ble_eq_true rfl) rfl rfl ?_
        refine vr_goto (q := 16) dX9_goesBy_142 (by decide) ?_
        exact ih (j + 1) (x.1 * 0, x.2 + 0) _ _ _ _ (by omega) ⟨by show 0 ≤ x.1 * 0; omega, by show x.1 * 0 ≤ pw_ (j + 1); omega⟩ ⟨by show 0 ≤ x.2 + 0; omega, by show x.2 + 0 ≤ ((j + 1 : Nat) : Int); omega⟩ (hm2 0) kk
      · rw [if_pos c1] at kk
        refine vr_istore (q := 52) dX9_goesBy_50 rfl (Nat.le_of_ble_eq_true rfl) rfl rfl ?_
        refine vr_lload (q := 54) dX9_goesBy_52 rfl rfl ?_
        refine vr_iload (q := 56) dX9_goesBy_54 rfl rfl ?_
        refine vr_if_eq (t := 79) (q := 59) dX9_goesBy_56 (by decide) rfl (fun _ => ?_) (fun c9 => absurd c9 (by omega))
        refine vr_iload (q := 81) dX9_goesBy_79 rfl rfl ?_
        refine vr_if_eq (t := 88) (q := 84) dX9_goesBy_81 (by decide) rfl (fun _ => ?_) (fun c9 => absurd c9 (by omega))
        refine vr_ldc2 (x := 10) (q := 91) dX9_goesBy_88 rfl ⟨by decide, by decide⟩ qX9_225 ?_
        refine vr_lmul (q := 92) dX9_goesBy_91 rfl ⟨by omega, by omega⟩ ?_
        refine vr_lstore (q := 94) dX9_goesBy_92 rfl (Nat.le_of_ble_eq_true rfl) rfl rfl ?_
        refine vr_aload_n (q := 95) dX9_goesBy_94 rfl rfl ?_
        refine vr_iload (q := 97) dX9_goesBy_95 rfl rfl ?_
        refine vr_iload (q := 99) dX9_goesBy_97 rfl rfl ?_
        refine vr_if_eq (t := 111) (q := 102) dX9_goesBy_99 (by decide) rfl (fun _ => ?_) (fun c9 => absurd c9 (by omega))
        refine vr_iconst (q := 112) dX9_goesBy_111 rfl ⟨by decide, by decide⟩ ?_
        refine vr_iv2 (q := 115) dX9_goesBy_112 rfl vX9_183 (Nat.le_of_ble_eq_true rfl) ?_
        refine m_hrW (n := 6 + j) (c7 x.2) l1 hm (by omega) ?_
        refine vr_aload_n (q := 116) dX9_goesBy_115 rfl rfl ?_
        refine vr_dup (q := 117) dX9_goesBy_116 rfl rfl ?_
        refine vr_getV (ji := 27) (q := 120) dX9_goesBy_117 rfl fX9_200 rfl rfl (mw_27r _ _ _) ?_
        refine vr_iload (q := 122) dX9_goesBy_120 rfl rfl ?_
        refine vr_if_eq (t := 134) (q := 125) dX9_goesBy_122 (by decide) rfl (fun _ => ?_) (fun c9 => absurd c9 (by omega))
        refine vr_iconst (q := 135) dX9_goesBy_134 rfl ⟨by decide, by decide⟩ ?_
        refine vr_iaddN (q := 136) dX9_goesBy_135 rfl ⟨by omega, by omega⟩ ?_
        refine vr_put (ji := 27) (q := 139) dX9_goesBy_136 rfl pX9_200 rfl rfl ?_
        rw [mw_27]
        refine vr_iinc (q := 142) dX9_goesBy_139 rfl rfl ⟨by omega, by omega⟩ (Nat.le_of_ble_eq_true rfl) rfl rfl ?_
        refine vr_goto (q := 16) dX9_goesBy_142 (by decide) ?_
        exact ih (j + 1) (x.1 * 10, x.2 + 0) _ _ _ _ (by omega) ⟨by show 0 ≤ x.1 * 10; omega, by show x.1 * 10 ≤ pw_ (j + 1); omega⟩ ⟨by show 0 ≤ x.2 + 0; omega, by show x.2 + 0 ≤ ((j + 1 : Nat) : Int); omega⟩ (hm2 0) kk
    · have z2 : nl_ (tf_ p) m (L j) = 1 := z
      rw [z2] at kk ⊢
      rw [if_neg (by decide : ¬ (1 : Int) = 0), if_neg (by decide : ¬ (1 : Int) = 0)] at kk
      refine vr_istore (q := 43) dX9_goesBy_41 rfl (Nat.le_of_ble_eq_true rfl) rfl rfl ?_
      refine vr_iload (q := 45) dX9_goesBy_43 rfl rfl ?_
      refine vr_iload (q := 47) dX9_goesBy_45 rfl rfl ?_
      -- at X9.goesBy 47: .invokestatic 156
      refine vr_is2 (q := 50) dX9_goesBy_47 rfl vX9_156 (Nat.le_of_ble_eq_true rfl) ?_
      refine m_has (fun c1 => ?_) (fun c1 => ?_)
      · rw [if_neg c1, show bt_ sl j = 1 by omega] at kk
        refine vr_istore (q := 52) dX9_goesBy_50 rfl (Nat.le_of_ble_eq_true rfl) rfl rfl ?_
        refine vr_lload (q := 54) dX9_goesBy_52 rfl rfl ?_
        refine vr_iload (q := 56) dX9_goesBy_54 rfl rfl ?_
        refine vr_if_eq (t := 79) (q := 59) dX9_goesBy_56 (by decide) rfl (fun c9 => absurd c9 (by omega)) (fun _ => ?_)
        refine vr_iload (q := 61) dX9_goesBy_59 rfl rfl ?_
        refine vr_if_eq (t := 70) (q := 64) dX9_goesBy_61 (by decide) rfl (fun c9 => absurd c9 (by omega)) (fun _ => ?_)
        refine vr_iload (q := 66) dX9_goesBy_64 rfl rfl ?_
        refine vr_i2l (q := 67) dX9_goesBy_66 rfl ?_
        refine vr_goto (q := 91) dX9_goesBy_67 (by decide) ?_
        refine vr_lmul (q := 92) dX9_goesBy_91 rfl ⟨by omega, by omega⟩ ?_
        refine vr_lstore (q := 94) dX9_goesBy_92 rfl (Nat.le_of_ble_eq_true rfl) rfl rfl ?_
        refine vr_aload_n (q := 95) dX9_goesBy_94 rfl rfl ?_
        refine vr_iload (q := 97) dX9_goesBy_95 rfl rfl ?_
        refine vr_iload (q := 99) dX9_goesBy_97 rfl rfl ?_
        refine vr_if_eq (t := 111) (q := 102) dX9_goesBy_99 (by decide) rfl (fun c9 => absurd c9 (by omega)) (fun _ => ?_)
        refine vr_iload (q := 104) dX9_goesBy_102 rfl rfl ?_
        refine vr_if_ne (t := 111) (q := 107) dX9_goesBy_104 (by decide) rfl (fun _ => ?_) (fun c9 => absurd c9 (by omega))
        refine vr_iconst (q := 112) dX9_goesBy_111 rfl ⟨by decide, by decide⟩ ?_
        refine vr_iv2 (q := 115) dX9_goesBy_112 rfl vX9_183 (Nat.le_of_ble_eq_true rfl) ?_
        refine m_hrW (n := 6 + j) (c7 x.2) l1 hm (by omega) ?_
        refine vr_aload_n (q := 116) dX9_goesBy_115 rfl rfl ?_
        refine vr_dup (q := 117) dX9_goesBy_116 rfl rfl ?_
        refine vr_getV (ji := 27) (q := 120) dX9_goesBy_117 rfl fX9_200 rfl rfl (mw_27r _ _ _) ?_
        refine vr_iload (q := 122) dX9_goesBy_120 rfl rfl ?_
        refine vr_if_eq (t := 134) (q := 125) dX9_goesBy_122 (by decide) rfl (fun c9 => absurd c9 (by omega)) (fun _ => ?_)
        refine vr_iload (q := 127) dX9_goesBy_125 rfl rfl ?_
        refine vr_if_ne (t := 134) (q := 130) dX9_goesBy_127 (by decide) rfl (fun _ => ?_) (fun c9 => absurd c9 (by omega))
        refine vr_iconst (q := 135) dX9_goesBy_134 rfl ⟨by decide, by decide⟩ ?_
        refine vr_iaddN (q := 136) dX9_goesBy_135 rfl ⟨by omega, by omega⟩ ?_
        refine vr_put (ji := 27) (q := 139) dX9_goesBy_136 rfl pX9_200 rfl rfl ?_
        rw [mw_27]
        refine vr_iinc (q := 142) dX9_goesBy_139 rfl rfl ⟨by omega, by omega⟩ (Nat.le_of_ble_eq_true rfl) rfl rfl ?_
        refine vr_goto (q := 16) dX9_goesBy_142 (by decide) ?_
        exact ih (j + 1) (x.1 * cc, x.2 + 0) _ _ _ _ (by omega) ⟨by show 0 ≤ x.1 * cc; omega, by show x.1 * cc ≤ pw_ (j + 1); omega⟩ ⟨by show 0 ≤ x.2 + 0; omega, by show x.2 + 0 ≤ ((j + 1 : Nat) : Int); omega⟩ (hm2 0) kk
      · rw [if_pos c1, c1] at kk
        refine vr_istore (q := 52) dX9_goesBy_50 rfl (Nat.le_of_ble_eq_true rfl) rfl rfl ?_
        refine vr_lload (q := 54) dX9_goesBy_52 rfl rfl ?_
        refine vr_iload (q := 56) dX9_goesBy_54 rfl rfl ?_
        refine vr_if_eq (t := 79) (q := 59) dX9_goesBy_56 (by decide) rfl (fun c9 => absurd c9 (by omega)) (fun _ => ?_)
        refine vr_iload (q := 61) dX9_goesBy_59 rfl rfl ?_
        refine vr_if_eq (t := 70) (q := 64) dX9_goesBy_61 (by decide) rfl (fun _ => ?_) (fun c9 => absurd c9 (by omega))
        refine vr_bipush (q := 72) dX9_goesBy_70 rfl ⟨by decide, by decide⟩ (by decide) ?_
        refine vr_iload (q := 74) dX9_goesBy_72 rfl rfl ?_
        refine vr_isubN (q := 75) dX9_goesBy_74 rfl ⟨by omega, by omega⟩ ?_
        refine vr_i2l (q := 76) dX9_goesBy_75 rfl ?_
        refine vr_goto (q := 91) dX9_goesBy_76 (by decide) ?_
        refine vr_lmul (q := 92) dX9_goesBy_91 rfl ⟨by omega, by omega⟩ ?_
        refine vr_lstore (q := 94) dX9_goesBy_92 rfl (Nat.le_of_ble_eq_true rfl) rfl rfl ?_
        refine vr_aload_n (q := 95) dX9_goesBy_94 rfl rfl ?_
        refine vr_iload (q := 97) dX9_goesBy_95 rfl rfl ?_
        refine vr_iload (q := 99) dX9_goesBy_97 rfl rfl ?_
        refine vr_if_eq (t := 111) (q := 102) dX9_goesBy_99 (by decide) rfl (fun c9 => absurd c9 (by omega)) (fun _ => ?_)
        refine vr_iload (q := 104) dX9_goesBy_102 rfl rfl ?_
        refine vr_if_ne (t := 111) (q := 107) dX9_goesBy_104 (by decide) rfl (fun c9 => absurd c9 (by omega)) (fun _ => ?_)
        refine vr_iconst (q := 108) dX9_goesBy_107 rfl ⟨by decide, by decide⟩ ?_
        refine vr_goto (q := 112) dX9_goesBy_108 (by decide) ?_
        refine vr_iv2 (q := 115) dX9_goesBy_112 rfl vX9_183 (Nat.le_of_ble_eq_true rfl) ?_
        refine m_hrW (n := 6 + j) (c7 x.2) l1 hm (by omega) ?_
        refine vr_aload_n (q := 116) dX9_goesBy_115 rfl rfl ?_
        refine vr_dup (q := 117) dX9_goesBy_116 rfl rfl ?_
        refine vr_getV (ji := 27) (q := 120) dX9_goesBy_117 rfl fX9_200 rfl rfl (mw_27r _ _ _) ?_
        refine vr_iload (q := 122) dX9_goesBy_120 rfl rfl ?_
        refine vr_if_eq (t := 134) (q := 125) dX9_goesBy_122 (by decide) rfl (fun c9 => absurd c9 (by omega)) (fun _ => ?_)
        refine vr_iload (q := 127) dX9_goesBy_125 rfl rfl ?_
        refine vr_if_ne (t := 134) (q := 130) dX9_goesBy_127 (by decide) rfl (fun c9 => absurd c9 (by omega)) (fun _ => ?_)
        refine vr_iconst (q := 131) dX9_goesBy_130 rfl ⟨by decide, by decide⟩ ?_
        refine vr_goto (q := 135) dX9_goesBy_131 (by decide) ?_
        refine vr_iaddN (q := 136) dX9_goesBy_135 rfl ⟨by omega, by omega⟩ ?_
        refine vr_put (ji := 27) (q := 139) dX9_goesBy_136 rfl pX9_200 rfl rfl ?_
        rw [mw_27]
        refine vr_iinc (q := 142) dX9_goesBy_139 rfl rfl ⟨by omega, by omega⟩ (Nat.le_of_ble_eq_true rfl) rfl rfl ?_
        refine vr_goto (q := 16) dX9_goesBy_142 (by decide) ?_
        exact ih (j + 1) (x.1 * (10 - cc), x.2 + 1) _ _ _ _ (by omega) ⟨by show 0 ≤ x.1 * (10 - cc); omega, by show x.1 * (10 - cc) ≤ pw_ (j + 1); omega⟩ ⟨by show 0 ≤ x.2 + 1; omega, by show x.2 + 1 ≤ ((j + 1 : Nat) : Int); omega⟩ (hm2 1) kk
theorem m_goesBy {s fr n sl cc : Int} {L : Int → Int} (c : cpl_ p h) (hs : 0 ≤ s ∧ s < p 7 3) (hn : 0 ≤ n ∧ n ≤ 6) (hf : 0 ≤ fr ∧ fr + 2 * n ≤ 320) (hcc : 0 ≤ cc ∧ cc ≤ 10) (hI : ∀ t, 0 ≤ t → t < n → h 71 (fr + 2 * t) = L t) (hL : ∀ t, 0 ≤ t → t < n → 0 ≤ L t ∧ L t < p 7 2) (kk : ∀ m2, (0 ≤ (gby_ (tf_ p) L cc sl n.toNat 0 (en_ p s) (1, 0)).1 ∧ (gby_ (tf_ p) L cc sl n.toNat 0 (en_ p s) (1, 0)).1 ≤ 1000000) → Post (some (sv_l (gby_ (tf_ p) L cc sl n.toNat 0 (en_ p s) (1, 0)).1)) (mw_ (hs_ h 68 27 (gby_ (tf_ p) L cc sl n.toNat 0 (en_ p s) (1, 0)).2) m2)) : Ctr_ g (d + 3) mX9_goesBy [sv_r 4 8 68, sv_i s, sv_i fr, sv_i n, sv_i sl, sv_i cc] h Post := by
  have pb := pw_b (n := n.toNat) (by omega)
  have z := lm_goesBy (g := g) (d := d) (s := s) (sl := sl) c hn hf hcc hI hL n.toNat 0 (1, 0) (en_ p s) none none none (by omega) (by decide) (by decide) (en_mo c.1 hs) (fun m2 hb => kk m2 ⟨hb.1, Int.le_trans hb.2 (by rw [Nat.zero_add]; exact pb.2)⟩)
  have ew : hs_ (mw_ h (en_ p s)) 68 27 0 = mw_ (hs_ h 68 27 0) (en_ p s) := by
    rw [← mw_27 h (en_ p s) (h 68 27) 0, show hs_ h 68 27 (h 68 27) = h from hs_same h 68 27]
  rw [← ew] at z
  refine V_mk (by decide +kernel) (Or.inr (Or.inr (Or.inr (Or.inl ⟨rfl, rfl⟩)))) (Nat.le_of_ble_eq_true rfl) (by simp [sv_c]) ?_
  show V_ _ _ _ 0 [_, _, _, _, _, _, _, _, _, _, _, _] [] _ _
  refine vr_aload_n (q := 1) dX9_goesBy_0 rfl rfl ?_
  refine vr_iload_n (q := 2) dX9_goesBy_1 rfl rfl ?_
  -- at X9.goesBy 2: .invokevirtual 176
  refine vr_iv1 (q := 5) dX9_goesBy_2 rfl vX9_176 (Nat.le_of_ble_eq_true rfl) ?_
  refine m_tr c hs ?_
  refine vr_lconst (q := 6) dX9_goesBy_5 rfl ?_
  refine vr_lstore (q := 8) dX9_goesBy_6 rfl (Nat.le_of_ble_eq_true rfl) rfl rfl ?_
  refine vr_aload_n (q := 9) dX9_goesBy_8 rfl rfl ?_
  refine vr_iconst (q := 10) dX9_goesBy_9 rfl ⟨by decide, by decide⟩ ?_
  refine vr_put (ji := 27) (q := 13) dX9_goesBy_10 rfl pX9_200 rfl rfl ?_
  refine vr_iconst (q := 14) dX9_goesBy_13 rfl ⟨by decide, by decide⟩ ?_
  refine vr_istore (q := 16) dX9_goesBy_14 rfl (Nat.le_of_ble_eq_true rfl) rfl rfl ?_
  -- at X9.goesBy 16: .iload 8
  exact z
/-- a sum -/
def smo_ (f : Nat → Int) : Nat → Int
  | 0 => 0
  | n + 1 => smo_ f n + f n
/-- what the reference sums: the ways by slips q, if it nods k times or more -/
def owt_ (F : TF_) (L : Int → Int) (c : Int) (n : Nat) (m : MU_) (k : Int) (q : Nat) : Int := if (gby_ F L c (q : Int) n 0 m (1, 0)).2 < k then 0 else (gby_ F L c (q : Int) n 0 m (1, 0)).1
theorem td_g {l s : Int} (hl : 0 ≤ l) (hs : 0 < s) : Nat.gcd s.toNat (l - l.tdiv s * s).toNat = Nat.gcd l.toNat s.toNat := by
  have e : (l - l.tdiv s * s).toNat = l.toNat % s.toNat := by
    obtain ⟨a, rfl⟩ := Int.eq_ofNat_of_zero_le hl
    obtain ⟨b, rfl⟩ := Int.eq_ofNat_of_zero_le (Int.le_of_lt hs)
    rw [Int.tdiv_eq_ediv_of_nonneg hl]
    have h1 : (a : Int) - (a : Int) / (b : Int) * (b : Int) = (a : Int) % (b : Int) := by
      have := Int.emod_add_mul_ediv (a : Int) (b : Int)
      rw [Int.mul_comm] at this
      omega
    rw [h1, ← Int.natCast_emod]
    rfl
  rw [e, Nat.gcd_comm l.toNat, Nat.gcd_rec s.toNat l.toNat, Nat.gcd_comm]
theorem lm_gcd {s r i n k cc w A B v8 : Int} {hc : SH_} (hA : 0 ≤ A ∧ A ≤ 100000000) (hB : 1 ≤ B ∧ B ≤ 100000000) (kk : Post (some (sv_i ((if w = 0 then A else B).tdiv (Nat.gcd A.toNat B.toNat : Nat)))) (hs_ hc 68 4 0)) : ∀ (N : Nat) (x y : Int) (o17 : Option SV_), y.toNat < N → (0 ≤ x ∧ x ≤ 100000000) → (0 ≤ y ∧ y ≤ 100000000) → Nat.gcd x.toNat y.toNat = Nat.gcd A.toNat B.toNat → V_ g (d + 1) mX9_odds 188 [some (sv_r 4 8 68), some (sv_i s), some (sv_i r), some (sv_i i), some (sv_i n), some (sv_i k), some (sv_i cc), some (sv_i w), some (sv_i v8), some (sv_l A), none, some (sv_l B), none, some (sv_l x), none, some (sv_l y), none, o17, none] [] hc Post := by
  intro N
  have g0 : 0 < Nat.gcd A.toNat B.toNat := Nat.gcd_pos_of_pos_right _ (by omega)
  have gA : (A.tdiv (Nat.gcd A.toNat B.toNat : Nat)) ≤ 100000000 ∧ 0 ≤ (A.tdiv (Nat.gcd A.toNat B.toNat : Nat)) := by
    rw [Int.tdiv_eq_ediv_of_nonneg hA.1]
    exact ⟨Int.le_trans (Int.ediv_le_self _ hA.1) hA.2, Int.ediv_nonneg hA.1 (by omega)⟩
  have gB : (B.tdiv (Nat.gcd A.toNat B.toNat : Nat)) ≤ 100000000 ∧ 0 ≤ (B.tdiv (Nat.gcd A.toNat B.toNat : Nat)) := by
    have hB0 : 0 ≤ B := by omega
    rw [Int.tdiv_eq_ediv_of_nonneg hB0]
    exact ⟨Int.le_trans (Int.ediv_le_self _ hB0) hB.2, Int.ediv_nonneg hB0 (by omega)⟩
  induction N with
  | zero => intro x y o17 hN; exact absurd hN (by omega)
  | succ N ih =>
    intro x y o17 hN hx hy hg
    refine vr_lload (q := 190) dX9_odds_188 rfl rfl ?_
    refine vr_lconst (q := 191) dX9_odds_190 rfl ?_
    refine vr_lcmp (q := 192) dX9_odds_191 rfl ?_
    -- at X9.odds 192: .ifCond .eq 21
    by_cases cy : y = 0
    · subst cy
      have ex : x = (Nat.gcd A.toNat B.toNat : Nat) := by
        rw [show ((0 : Int).toNat) = 0 from rfl, Nat.gcd_zero_right] at hg
        omega
      refine vr_if_eq (t := 213) (q := 195) dX9_odds_192 (by decide) rfl (fun _ => ?_) (fun c9 => absurd c9 (by decide))
      rw [ex]
      by_cases cw : w = 0
      · rw [if_pos cw] at kk
        refine vr_aload_n (q := 214) dX9_odds_213 rfl rfl ?_
        refine vr_iload (q := 216) dX9_odds_214 rfl rfl ?_
        refine vr_if_ne (t := 224) (q := 219) dX9_odds_216 (by decide) rfl (fun c9 => absurd c9 (by omega)) (fun _ => ?_)
        refine vr_lload (q := 221) dX9_odds_219 rfl rfl ?_
        refine vr_goto (q := 226) dX9_odds_221 (by decide) ?_
        refine vr_lload (q := 228) dX9_odds_226 rfl rfl ?_
        refine vr_ldiv (q := 229) dX9_odds_228 rfl (by omega) ?_
        refine vr_l2i (q := 230) dX9_odds_229 rfl ⟨by omega, by omega⟩ ?_
        refine vr_iv1 (q := 233) dX9_odds_230 rfl vX9_72 (Nat.le_of_ble_eq_true rfl) ?_
        refine m_well ?_
        refine vr_iret dX9_odds_233 rfl ?_
        exact kk
      · rw [if_neg cw] at kk
        refine vr_aload_n (q := 214) dX9_odds_213 rfl rfl ?_
        refine vr_iload (q := 216) dX9_odds_214 rfl rfl ?_
        refine vr_if_ne (t := 224) (q := 219) dX9_odds_216 (by decide) rfl (fun _ => ?_) (fun c9 => absurd c9 (by omega))
        refine vr_lload (q := 226) dX9_odds_224 rfl rfl ?_
        refine vr_lload (q := 228) dX9_odds_226 rfl rfl ?_
        refine vr_ldiv (q := 229) dX9_odds_228 rfl (by omega) ?_
        refine vr_l2i (q := 230) dX9_odds_229 rfl ⟨by omega, by omega⟩ ?_
        refine vr_iv1 (q := 233) dX9_odds_230 rfl vX9_72 (Nat.le_of_ble_eq_true rfl) ?_
        refine m_well ?_
        refine vr_iret dX9_odds_233 rfl ?_
        exact kk
    · have y0 : 0 < y := by omega
      have td := td_r hx.1 y0
      have c3 : ¬ (if ((((0 : Fin 2) : Nat)) : Int) < y then (1 : Int) else if y = ((((0 : Fin 2) : Nat)) : Int) then 0 else -1) = 0 := by
        rw [if_pos (show ((((0 : Fin 2) : Nat)) : Int) < y from y0)]
        decide
      refine vr_if_eq (t := 213) (q := 195) dX9_odds_192 (by decide) rfl (fun c9 => absurd c9 c3) (fun _ => ?_)
      refine vr_lload (q := 197) dX9_odds_195 rfl rfl ?_
      refine vr_lload (q := 199) dX9_odds_197 rfl rfl ?_
      refine vr_lrem (q := 200) dX9_odds_199 rfl (by omega) (fun _ _ => ⟨by omega, by omega⟩) ?_
      refine vr_lstore (q := 202) dX9_odds_200 rfl (Nat.le_of_ble_eq_true rfl) rfl rfl ?_
      refine vr_lload (q := 204) dX9_odds_202 rfl rfl ?_
      refine vr_lstore (q := 206) dX9_odds_204 rfl (Nat.le_of_ble_eq_true rfl) rfl rfl ?_
      refine vr_lload (q := 208) dX9_odds_206 rfl rfl ?_
      refine vr_lstore (q := 210) dX9_odds_208 rfl (Nat.le_of_ble_eq_true rfl) rfl rfl ?_
      refine vr_goto (q := 188) dX9_odds_210 (by decide) ?_
      -- at X9.odds 188: .lload 15
      exact ih y (x - x.tdiv y * y) _ (by omega) hy ⟨by omega, by omega⟩ (by rw [td_g hx.1 y0]; exact hg)
end PM18_
