/-- dead so far, c lies from i on, each changed by f, until none is left -/
def fd_ (f : Int → Int → Int) : Nat → Int → Int → Int
  | 0, _, x => x
  | c + 1, i, x => if x = 0 then x else fd_ f c (i + 1) (f i x)
def df_ (F : TF_) (n : Nat) : Nat → MU_ → Int → Int → Int
  | 0, _, _, x => x
  | k + 1, m, s, x => fd_ (fun l y => if bt_ s l = 0 then y else df_ F n k (hl_ F m l) (dl_ s l) (if nl_ F m l = 0 then y else dl_ y l)) n 0 x
theorem tn_mu (h : SH_) (e l : Int) : mu_ (tn_ h e l) (52 + 2 * (e + 1)) = hl_ (tf_ h) (mu_ h (52 + 2 * e)) l := mu_ms _ _ _
theorem tn_p {h : SH_} {e l : Int} (he : 0 ≤ e) : tn_ h e l 48 e = l := by
  unfold tn_
  rw [ms_lo (by omega) (by decide), hs_e]
theorem mo_le {n k : Int} {m : MU_} (h : n ≤ k) (hm : mo_ n m) : mo_ k m := ⟨hm.1, hm.2.1, ⟨hm.2.2.1.1, by have := hm.2.2.1.2; omega⟩, fun t a b => ⟨(hm.2.2.2 t a b).1, by have := (hm.2.2.2 t a b).2; omega⟩⟩
section PF4_
variable {g : SG_} {d : Nat}
theorem c_comesInFrom {lie w : Int} (hw : 0 ≤ w ∧ w ≤ 6) : ∀ (k : Nat) (e s : Int) (h : SH_) (Post : Option SV_ → SH_ → Prop), to_ h → (0 ≤ lie ∧ lie < h 7 2) → 0 ≤ e → e + k = w → mo_ (6 + e) (mu_ h (52 + 2 * e)) →
    (∀ r h2, cp_ (tf_ h) (h 7 2).toNat lie k (mu_ h (52 + 2 * e)) s = some r → sd_ e h h2 → (∀ x r2, r = x :: r2 → h2 48 e = x) → Post (some (sv_i 1)) h2) → (∀ h2, cp_ (tf_ h) (h 7 2).toNat lie k (mu_ h (52 + 2 * e)) s = none → sd_ e h h2 → Post (some (sv_i 0)) h2) →
    Ctr_ g (d + k + 6) mX2_comesInFrom [sv_r 4 2 46, sv_r 4 6 7, sv_i e, sv_i s, sv_i lie, sv_i w] h Post := by
  intro k
  induction k with
  | zero =>
    intro e s h Post o hl he hek hm kt kf
    have o1 := o.1
    have hlo := o.2.2.2.1 lie hl.1 hl.2
    unfold cp_ at kt kf
    refine V_mk (by decide +kernel) (Or.inr (Or.inr (Or.inl ⟨rfl, rfl⟩))) (Nat.le_of_ble_eq_true rfl) (by simp [sv_c]) ?_
    show V_ _ _ _ 0 [_, _, _, _, _, _, _] [] _ _
    refine vr_iload_n (q := 1) dX2_comesInFrom_0 rfl rfl ?_
    refine vr_iload (q := 3) dX2_comesInFrom_1 rfl rfl ?_
    -- at X2.comesInFrom 3: .if_icmp .ge 9
    refine vr_ic_ge (t := 12) (q := 6) dX2_comesInFrom_3 (by decide) rfl (fun _ => ?_) (fun c9 => absurd c9 (by omega))
    refine vr_aload_n (q := 13) dX2_comesInFrom_12 rfl rfl ?_
    refine vr_getR (q := 16) dX2_comesInFrom_13 rfl fX2_13 rfl y_X2_0 (by first | (simp only [Int.reduceAdd]; rfl) | rfl) ?_
    refine vr_iload_n (q := 17) dX2_comesInFrom_16 rfl rfl ?_
    refine vr_aaMV (q := 18) dX2_comesInFrom_17 rfl ⟨by omega, by omega⟩ (by first | (simp only [Int.reduceMul, Int.reduceAdd]; rfl) | rfl) ?_
    refine vr_aload_n (q := 19) dX2_comesInFrom_18 rfl rfl ?_
    refine vr_iload (q := 21) dX2_comesInFrom_19 rfl rfl ?_
    -- at X2.comesInFrom 21: .invokevirtual 58
    refine vr_iv2 (q := 24) dX2_comesInFrom_21 rfl vX2_58 (Nat.le_of_ble_eq_true rfl) ?_
    refine c_wouldNod (n := 6 + e) ⟨by omega, by omega⟩ hlo hm (by omega) ?_
    refine vr_zret dX2_comesInFrom_24 rfl ?_ ?_
    · exact nb_01 _ _ _ _
    · by_cases c1 : nl_ (tf_ h) (mu_ h (52 + 2 * e)) lie = 0
      · have c2 : nb_ (h 8 lie) (h 9 lie) (h 10 lie) (mu_ h (52 + 2 * e)) = 0 := c1
        rw [c2]
        exact kf h (if_pos c1) (sd_r e h)
      · have c2 : nb_ (h 8 lie) (h 9 lie) (h 10 lie) (mu_ h (52 + 2 * e)) = 1 := by
          rcases nb_01 (h 8 lie) (h 9 lie) (h 10 lie) (mu_ h (52 + 2 * e)) with z | z
          · exact absurd z c1
          · exact z
        rw [c2]
        exact kt [] h (if_neg c1) (sd_r e h) (fun x r2 z => by cases z)
  | succ k ih =>
    intro e s h Post o hl he hek hm kt kf
    have o1 := o.1
    generalize hM : mu_ h (52 + 2 * e) = m at hm kt kf
    generalize hF : (fun l : Int => if bt_ s l = 0 then none else (cp_ (tf_ h) (h 7 2).toNat lie k (hl_ (tf_ h) m l) (dl_ s l)).map (fun r => l :: r)) = f
    have kt2 : ∀ r h2, fl_ f (h 7 2).toNat 0 = some r → sd_ e h h2 → (∀ x r2, r = x :: r2 → h2 48 e = x) → Post (some (sv_i 1)) h2 := by rw [← hF]; exact kt
    have kf2 : ∀ h2, fl_ f (h 7 2).toNat 0 = none → sd_ e h h2 → Post (some (sv_i 0)) h2 := by rw [← hF]; exact kf
    have lp : ∀ (c i : Nat) (hq : SH_), (i : Int) + c = h 7 2 → fl_ f (h 7 2).toNat 0 = fl_ f c i → sd_ e h hq → V_ g (d + (k + 1) + 6) mX2_comesInFrom 28 [some (sv_r 4 2 46), some (sv_r 4 6 7), some (sv_i e), some (sv_i s), some (sv_i lie), some (sv_i w), some (sv_i i)] [] hq Post := by
      intro c
      induction c with
      | zero =>
        intro i hq hi ef s1
        have e7 := sd_lo s1 he (x := 7) (by omega)
        refine vr_iload (q := 30) dX2_comesInFrom_28 rfl rfl ?_
        refine vr_aload_n (q := 31) dX2_comesInFrom_30 rfl rfl ?_
        refine vr_getV (ji := 2) (q := 34) dX2_comesInFrom_31 rfl fX2_55 rfl rfl (by rw [e7]) ?_
        -- at X2.comesInFrom 34: .if_icmp .ge 52
        refine vr_ic_ge (t := 86) (q := 37) dX2_comesInFrom_34 (by decide) rfl (fun _ => ?_) (fun c9 => absurd c9 (by omega))
        refine vr_iconst (q := 87) dX2_comesInFrom_86 rfl ⟨by decide, by decide⟩ ?_
        -- at X2.comesInFrom 87: .ireturn
        refine vr_zret dX2_comesInFrom_87 rfl ?_ ?_
        · exact Or.inl rfl
        · exact kf2 hq ef s1
      | succ c ihc =>
        intro i hq hi ef s1
        have e7 := sd_lo s1 he (x := 7) (by omega)
        have q8 := sd_lo s1 he (x := 8) (by omega)
        have q9 := sd_lo s1 he (x := 9) (by omega)
        have q10 := sd_lo s1 he (x := 10) (by omega)
        have hlo := o.2.2.2.1 i (by omega) (by omega)
        have ef2 : fl_ f (c + 1) i = match f i with | some r => some r | none => fl_ f c (i + 1) := rfl
        have efi : f i = if bt_ s i = 0 then none else (cp_ (tf_ h) (h 7 2).toNat lie k (hl_ (tf_ h) m i) (dl_ s i)).map (fun r => (i : Int) :: r) := by rw [← hF]
        have mq : mu_ hq (52 + 2 * e) = m := by rw [sd_mu s1 he, hM]
        refine vr_iload (q := 30) dX2_comesInFrom_28 rfl rfl ?_
        refine vr_aload_n (q := 31) dX2_comesInFrom_30 rfl rfl ?_
        refine vr_getV (ji := 2) (q := 34) dX2_comesInFrom_31 rfl fX2_55 rfl rfl (by rw [e7]) ?_
        -- at X2.comesInFrom 34: .if_icmp .ge 52
        refine vr_ic_ge (t := 86) (q := 37) dX2_comesInFrom_34 (by decide) rfl (fun c9 => absurd c9 (by omega)) (fun _ => ?_)
        refine vr_iload_n (q := 38) dX2_comesInFrom_37 rfl rfl ?_
        refine vr_iload (q := 40) dX2_comesInFrom_38 rfl rfl ?_
        refine vr_ishr (q := 41) dX2_comesInFrom_40 rfl ?_
        refine vr_iconst (q := 42) dX2_comesInFrom_41 rfl ⟨by decide, by decide⟩ ?_
        refine vr_iand (q := 43) dX2_comesInFrom_42 rfl ?_
        -- at X2.comesInFrom 43: .ifCond .eq 37
        refine vr_if_eq (t := 80) (q := 46) dX2_comesInFrom_43 (by decide) rfl (fun c1 => ?_) (fun c1 => ?_)
        · have c2 : bt_ s i = 0 := c1
          rw [if_pos c2] at efi
          rw [efi] at ef2
          refine vr_iinc (q := 83) dX2_comesInFrom_80 rfl rfl ⟨by omega, by omega⟩ (Nat.le_of_ble_eq_true rfl) rfl rfl ?_
          refine vr_goto (q := 28) dX2_comesInFrom_83 (by decide) ?_
          -- at X2.comesInFrom 28: .iload 6
          exact ihc (i + 1) hq (by omega) (ef.trans ef2) s1
        · have c2 : ¬ bt_ s i = 0 := c1
          rw [if_neg c2] at efi
          refine vr_aload_n (q := 47) dX2_comesInFrom_46 rfl rfl ?_
          refine vr_aload_n (q := 48) dX2_comesInFrom_47 rfl rfl ?_
          refine vr_iload_n (q := 49) dX2_comesInFrom_48 rfl rfl ?_
          refine vr_iload (q := 51) dX2_comesInFrom_49 rfl rfl ?_
          -- at X2.comesInFrom 51: .invokevirtual 76
          refine vr_iv3 (q := 54) dX2_comesInFrom_51 rfl vX2_76 (Nat.le_of_ble_eq_true rfl) ?_
          refine c_tryNext (n := 6 + e) ⟨he, by omega⟩ ⟨by omega, by omega⟩ (by rw [q8, q9, q10]; exact hlo) (by rw [mq]; exact hm) (by omega) ?_
          have s2 : sd_ e h (tn_ hq e i) := sd_t s1 (sd_n ⟨he, by omega⟩)
          have m2 : mu_ (tn_ hq e i) (52 + 2 * (e + 1)) = hl_ (tf_ h) m i := by rw [tn_mu, mq, sd_tf s1 he]
          have p2 : tn_ hq e i 48 e = i := tn_p he
          generalize tn_ hq e i = h2 at s2 m2 p2 ⊢
          have f7 := sd_lo s2 he (x := 7) (by omega)
          refine vr_pop (q := 55) dX2_comesInFrom_54 rfl rfl ?_
          refine vr_aload_n (q := 56) dX2_comesInFrom_55 rfl rfl ?_
          refine vr_aload_n (q := 57) dX2_comesInFrom_56 rfl rfl ?_
          refine vr_iload_n (q := 58) dX2_comesInFrom_57 rfl rfl ?_
          refine vr_iconst (q := 59) dX2_comesInFrom_58 rfl ⟨by decide, by decide⟩ ?_
          refine vr_iaddN (q := 60) dX2_comesInFrom_59 rfl ⟨by omega, by omega⟩ ?_
          refine vr_iload_n (q := 61) dX2_comesInFrom_60 rfl rfl ?_
          refine vr_iconst (q := 62) dX2_comesInFrom_61 rfl ⟨by decide, by decide⟩ ?_
          refine vr_iload (q := 64) dX2_comesInFrom_62 rfl rfl ?_
          refine vr_ishl (q := 65) dX2_comesInFrom_64 rfl ?_
          refine vr_iconst (q := 66) dX2_comesInFrom_65 rfl ⟨by decide, by decide⟩ ?_
          refine vr_ixor (q := 67) dX2_comesInFrom_66 rfl ?_
          refine vr_iand (q := 68) dX2_comesInFrom_67 rfl ?_
          refine vr_iload (q := 70) dX2_comesInFrom_68 rfl rfl ?_
          refine vr_iload (q := 72) dX2_comesInFrom_70 rfl rfl ?_
          -- at X2.comesInFrom 72: .invokevirtual 88
          refine vr_iv5 (q := 75) dX2_comesInFrom_72 rfl vX2_88 (Nat.le_of_ble_eq_true rfl) ?_
          refine ih (e + 1) (dl_ s i) h2 _ (sd_to s2 he o) (by rw [f7]; exact hl) (by omega) (by omega) (by rw [m2, show 6 + (e + 1) = 6 + e + 1 by omega]; exact he_mo hlo hm) (fun r h3 e3 s3 _ => ?_) (fun h3 e3 s3 => ?_)
          · rw [m2, sd_tf s2 he, f7] at e3
            rw [e3] at efi
            rw [efi] at ef2
            refine vr_if_eq (t := 80) (q := 78) dX2_comesInFrom_75 (by decide) rfl (fun c9 => absurd c9 (by omega)) (fun _ => ?_)
            refine vr_iconst (q := 79) dX2_comesInFrom_78 rfl ⟨by decide, by decide⟩ ?_
            -- at X2.comesInFrom 79: .ireturn
            refine vr_zret dX2_comesInFrom_79 rfl ?_ ?_
            · exact Or.inr rfl
            · refine kt2 ((i : Int) :: r) h3 (ef.trans ef2) (sd_t s2 (sd_up s3)) (fun x r2 z => ?_)
              rw [s3.2 e (by omega), p2]
              injection z
          · rw [m2, sd_tf s2 he, f7] at e3
            rw [e3] at efi
            rw [efi] at ef2
            refine vr_if_eq (t := 80) (q := 78) dX2_comesInFrom_75 (by decide) rfl (fun _ => ?_) (fun c9 => absurd c9 (by omega))
            refine vr_iinc (q := 83) dX2_comesInFrom_80 rfl rfl ⟨by omega, by omega⟩ (Nat.le_of_ble_eq_true rfl) rfl rfl ?_
            refine vr_goto (q := 28) dX2_comesInFrom_83 (by decide) ?_
            -- at X2.comesInFrom 28: .iload 6
            exact ihc (i + 1) h3 (by omega) (ef.trans ef2) (sd_t s2 (sd_up s3))
    refine V_mk (by decide +kernel) (Or.inr (Or.inr (Or.inl ⟨rfl, rfl⟩))) (Nat.le_of_ble_eq_true rfl) (by simp [sv_c]) ?_
    show V_ _ _ _ 0 [_, _, _, _, _, _, _] [] _ _
    refine vr_iload_n (q := 1) dX2_comesInFrom_0 rfl rfl ?_
    refine vr_iload (q := 3) dX2_comesInFrom_1 rfl rfl ?_
    -- at X2.comesInFrom 3: .if_icmp .ge 9
    refine vr_ic_ge (t := 12) (q := 6) dX2_comesInFrom_3 (by decide) rfl (fun c9 => absurd c9 (by omega)) (fun _ => ?_)
    refine vr_iload_n (q := 7) dX2_comesInFrom_6 rfl rfl ?_
    refine vr_bipush (q := 9) dX2_comesInFrom_7 rfl ⟨by decide, by decide⟩ (by decide) ?_
    -- at X2.comesInFrom 9: .if_icmp .lt 16
    refine vr_ic_lt (t := 25) (q := 12) dX2_comesInFrom_9 (by decide) rfl (fun _ => ?_) (fun c9 => absurd c9 (by omega))
    refine vr_iconst (q := 26) dX2_comesInFrom_25 rfl ⟨by decide, by decide⟩ ?_
    refine vr_istore (q := 28) dX2_comesInFrom_26 rfl (Nat.le_of_ble_eq_true rfl) rfl rfl ?_
    -- at X2.comesInFrom 28: .iload 6
    refine lp (h 7 2).toNat 0 h (by omega) rfl (sd_r e h)
theorem c_deadFrom : ∀ (k : Nat) (e s x : Int) (h : SH_) (Post : Option SV_ → SH_ → Prop), to_ h → 0 ≤ e → e + k = 6 → mo_ (6 + e) (mu_ h (52 + 2 * e)) →
    (∀ h2, sd_ e h h2 → Post (some (sv_i (df_ (tf_ h) (h 7 2).toNat k (mu_ h (52 + 2 * e)) s x))) h2) →
    Ctr_ g (d + k + 6) mX2_deadFrom [sv_r 4 2 46, sv_r 4 6 7, sv_i e, sv_i s, sv_i x] h Post := by
  intro k
  induction k with
  | zero =>
    intro e s x h Post o he hek hm kk
    refine V_mk (by decide +kernel) (Or.inr (Or.inl ⟨rfl, rfl⟩)) (Nat.le_of_ble_eq_true rfl) (by simp [sv_c]) ?_
    show V_ _ _ _ 0 [_, _, _, _, _, _, _] [] _ _
    refine vr_iload (q := 2) dX2_deadFrom_0 rfl rfl ?_
    refine vr_istore (q := 4) dX2_deadFrom_2 rfl (Nat.le_of_ble_eq_true rfl) rfl rfl ?_
    refine vr_iload_n (q := 5) dX2_deadFrom_4 rfl rfl ?_
    refine vr_bipush (q := 7) dX2_deadFrom_5 rfl ⟨by decide, by decide⟩ (by decide) ?_
    -- at X2.deadFrom 7: .if_icmp .lt 6
    refine vr_ic_lt (t := 13) (q := 10) dX2_deadFrom_7 (by decide) rfl (fun c9 => absurd c9 (by omega)) (fun _ => ?_)
    refine vr_iload (q := 12) dX2_deadFrom_10 rfl rfl ?_
    refine vr_iret dX2_deadFrom_12 rfl ?_
    exact kk h (sd_r e h)
  | succ k ih =>
    intro e s x h Post o he hek hm kk
    have o1 := o.1
    generalize hM : mu_ h (52 + 2 * e) = m at hm kk
    generalize hF : (fun l y : Int => if bt_ s l = 0 then y else df_ (tf_ h) (h 7 2).toNat k (hl_ (tf_ h) m l) (dl_ s l) (if nl_ (tf_ h) m l = 0 then y else dl_ y l)) = f
    have k2 : ∀ h2, sd_ e h h2 → Post (some (sv_i (fd_ f (h 7 2).toNat 0 x))) h2 := by rw [← hF]; exact kk
    have lp : ∀ (c i : Nat) (y : Int) (hq : SH_), (i : Int) + c = h 7 2 → fd_ f (h 7 2).toNat 0 x = fd_ f c i y → sd_ e h hq → V_ g (d + (k + 1) + 6) mX2_deadFrom 16 [some (sv_r 4 2 46), some (sv_r 4 6 7), some (sv_i e), some (sv_i s), some (sv_i x), some (sv_i y), some (sv_i i)] [] hq Post := by
      intro c
      induction c with
      | zero =>
        intro i y hq hi ef s1
        have e7 := sd_lo s1 he (x := 7) (by omega)
        rw [ef] at k2
        refine vr_iload (q := 18) dX2_deadFrom_16 rfl rfl ?_
        refine vr_aload_n (q := 19) dX2_deadFrom_18 rfl rfl ?_
        refine vr_getV (ji := 2) (q := 22) dX2_deadFrom_19 rfl fX2_55 rfl rfl (by rw [e7]) ?_
        -- at X2.deadFrom 22: .if_icmp .ge 65
        refine vr_ic_ge (t := 87) (q := 25) dX2_deadFrom_22 (by decide) rfl (fun _ => ?_) (fun c9 => absurd c9 (by omega))
        refine vr_iload (q := 89) dX2_deadFrom_87 rfl rfl ?_
        refine vr_iret dX2_deadFrom_89 rfl ?_
        exact k2 hq s1
      | succ c ihc =>
        intro i y hq hi ef s1
        have e7 := sd_lo s1 he (x := 7) (by omega)
        have q8 := sd_lo s1 he (x := 8) (by omega)
        have q9 := sd_lo s1 he (x := 9) (by omega)
        have q10 := sd_lo s1 he (x := 10) (by omega)
        have hlo := o.2.2.2.1 i (by omega) (by omega)
        have ef2 : fd_ f (c + 1) i y = if y = 0 then y else fd_ f c (i + 1) (f i y) := rfl
        have efi : f i y = if bt_ s i = 0 then y else df_ (tf_ h) (h 7 2).toNat k (hl_ (tf_ h) m i) (dl_ s i) (if nl_ (tf_ h) m i = 0 then y else dl_ y i) := by rw [← hF]
        have mq : mu_ hq (52 + 2 * e) = m := by rw [sd_mu s1 he, hM]
        refine vr_iload (q := 18) dX2_deadFrom_16 rfl rfl ?_
        refine vr_aload_n (q := 19) dX2_deadFrom_18 rfl rfl ?_
        refine vr_getV (ji := 2) (q := 22) dX2_deadFrom_19 rfl fX2_55 rfl rfl (by rw [e7]) ?_
        -- at X2.deadFrom 22: .if_icmp .ge 65
        refine vr_ic_ge (t := 87) (q := 25) dX2_deadFrom_22 (by decide) rfl (fun c9 => absurd c9 (by omega)) (fun _ => ?_)
        refine vr_iload (q := 27) dX2_deadFrom_25 rfl rfl ?_
        -- at X2.deadFrom 27: .ifCond .eq 60
        refine vr_if_eq (t := 87) (q := 30) dX2_deadFrom_27 (by decide) rfl (fun c0 => ?_) (fun c0 => ?_)
        · rw [if_pos c0] at ef2
          rw [ef, ef2] at k2
          refine vr_iload (q := 89) dX2_deadFrom_87 rfl rfl ?_
          refine vr_iret dX2_deadFrom_89 rfl ?_
          exact k2 hq s1
        rw [if_neg c0] at ef2
        refine vr_iload_n (q := 31) dX2_deadFrom_30 rfl rfl ?_
        refine vr_iload (q := 33) dX2_deadFrom_31 rfl rfl ?_
        refine vr_ishr (q := 34) dX2_deadFrom_33 rfl ?_
        refine vr_iconst (q := 35) dX2_deadFrom_34 rfl ⟨by decide, by decide⟩ ?_
        refine vr_iand (q := 36) dX2_deadFrom_35 rfl ?_
        -- at X2.deadFrom 36: .ifCond .eq 45
        refine vr_if_eq (t := 81) (q := 39) dX2_deadFrom_36 (by decide) rfl (fun c1 => ?_) (fun c1 => ?_)
        · have c2 : bt_ s i = 0 := c1
          rw [if_pos c2] at efi
          rw [efi] at ef2
          refine vr_iinc (q := 84) dX2_deadFrom_81 rfl rfl ⟨by omega, by omega⟩ (Nat.le_of_ble_eq_true rfl) rfl rfl ?_
          refine vr_goto (q := 16) dX2_deadFrom_84 (by decide) ?_
          -- at X2.deadFrom 16: .iload 6
          exact ihc (i + 1) y hq (by omega) (ef.trans ef2) s1
        · have c2 : ¬ bt_ s i = 0 := c1
          rw [if_neg c2] at efi
          refine vr_aload_n (q := 40) dX2_deadFrom_39 rfl rfl ?_
          refine vr_aload_n (q := 41) dX2_deadFrom_40 rfl rfl ?_
          refine vr_iload_n (q := 42) dX2_deadFrom_41 rfl rfl ?_
          refine vr_iload (q := 44) dX2_deadFrom_42 rfl rfl ?_
          -- at X2.deadFrom 44: .invokevirtual 76
          refine vr_iv3 (q := 47) dX2_deadFrom_44 rfl vX2_76 (Nat.le_of_ble_eq_true rfl) ?_
          refine c_tryNext (n := 6 + e) ⟨he, by omega⟩ ⟨by omega, by omega⟩ (by rw [q8, q9, q10]; exact hlo) (by rw [mq]; exact hm) (by omega) ?_
          rw [mq, sd_tf s1 he]
          have s2 : sd_ e h (tn_ hq e i) := sd_t s1 (sd_n ⟨he, by omega⟩)
          have m2 : mu_ (tn_ hq e i) (52 + 2 * (e + 1)) = hl_ (tf_ h) m i := by rw [tn_mu, mq, sd_tf s1 he]
          generalize tn_ hq e i = h2 at s2 m2 ⊢
          have f7 := sd_lo s2 he (x := 7) (by omega)
          have rc0 : ∀ z : Int, z = (if nl_ (tf_ h) m i = 0 then y else dl_ y i) → V_ g (d + (k + 1) + 6) mX2_deadFrom 61 [some (sv_r 4 2 46), some (sv_r 4 6 7), some (sv_i e), some (sv_i s), some (sv_i x), some (sv_i z), some (sv_i i)] [] h2 Post := by
            intro z hz
            refine vr_aload_n (q := 62) dX2_deadFrom_61 rfl rfl ?_
            refine vr_aload_n (q := 63) dX2_deadFrom_62 rfl rfl ?_
            refine vr_iload_n (q := 64) dX2_deadFrom_63 rfl rfl ?_
            refine vr_iconst (q := 65) dX2_deadFrom_64 rfl ⟨by decide, by decide⟩ ?_
            refine vr_iaddN (q := 66) dX2_deadFrom_65 rfl ⟨by omega, by omega⟩ ?_
            refine vr_iload_n (q := 67) dX2_deadFrom_66 rfl rfl ?_
            refine vr_iconst (q := 68) dX2_deadFrom_67 rfl ⟨by decide, by decide⟩ ?_
            refine vr_iload (q := 70) dX2_deadFrom_68 rfl rfl ?_
            refine vr_ishl (q := 71) dX2_deadFrom_70 rfl ?_
            refine vr_iconst (q := 72) dX2_deadFrom_71 rfl ⟨by decide, by decide⟩ ?_
            refine vr_ixor (q := 73) dX2_deadFrom_72 rfl ?_
            refine vr_iand (q := 74) dX2_deadFrom_73 rfl ?_
            refine vr_iload (q := 76) dX2_deadFrom_74 rfl rfl ?_
            -- at X2.deadFrom 76: .invokevirtual 92
            refine vr_iv4 (q := 79) dX2_deadFrom_76 rfl vX2_92 (Nat.le_of_ble_eq_true rfl) ?_
            refine ih (e + 1) (dl_ s i) z h2 _ (sd_to s2 he o) (by omega) (by omega) (by rw [m2, show 6 + (e + 1) = 6 + e + 1 by omega]; exact he_mo hlo hm) (fun h3 s3 => ?_)
            rw [m2, sd_tf s2 he, f7, hz, ← efi]
            refine vr_istore (q := 81) dX2_deadFrom_79 rfl (Nat.le_of_ble_eq_true rfl) rfl rfl ?_
            refine vr_iinc (q := 84) dX2_deadFrom_81 rfl rfl ⟨by omega, by omega⟩ (Nat.le_of_ble_eq_true rfl) rfl rfl ?_
            refine vr_goto (q := 16) dX2_deadFrom_84 (by decide) ?_
            -- at X2.deadFrom 16: .iload 6
            exact ihc (i + 1) _ h3 (by omega) (ef.trans ef2) (sd_t s2 (sd_up s3))
          refine vr_if_eq (t := 61) (q := 50) dX2_deadFrom_47 (by decide) rfl (fun c3 => ?_) (fun c3 => ?_)
          · exact rc0 y (if_pos c3).symm
          · refine vr_iload (q := 52) dX2_deadFrom_50 rfl rfl ?_
            refine vr_iconst (q := 53) dX2_deadFrom_52 rfl ⟨by decide, by decide⟩ ?_
            refine vr_iload (q := 55) dX2_deadFrom_53 rfl rfl ?_
            refine vr_ishl (q := 56) dX2_deadFrom_55 rfl ?_
            refine vr_iconst (q := 57) dX2_deadFrom_56 rfl ⟨by decide, by decide⟩ ?_
            refine vr_ixor (q := 58) dX2_deadFrom_57 rfl ?_
            refine vr_iand (q := 59) dX2_deadFrom_58 rfl ?_
            refine vr_istore (q := 61) dX2_deadFrom_59 rfl (Nat.le_of_ble_eq_true rfl) rfl rfl ?_
            -- at X2.deadFrom 61: .aload_n 0
            exact rc0 _ (if_neg c3).symm
    refine V_mk (by decide +kernel) (Or.inr (Or.inl ⟨rfl, rfl⟩)) (Nat.le_of_ble_eq_true rfl) (by simp [sv_c]) ?_
    show V_ _ _ _ 0 [_, _, _, _, _, _, _] [] _ _
    refine vr_iload (q := 2) dX2_deadFrom_0 rfl rfl ?_
    refine vr_istore (q := 4) dX2_deadFrom_2 rfl (Nat.le_of_ble_eq_true rfl) rfl rfl ?_
    refine vr_iload_n (q := 5) dX2_deadFrom_4 rfl rfl ?_
    refine vr_bipush (q := 7) dX2_deadFrom_5 rfl ⟨by decide, by decide⟩ (by decide) ?_
    -- at X2.deadFrom 7: .if_icmp .lt 6
    refine vr_ic_lt (t := 13) (q := 10) dX2_deadFrom_7 (by decide) rfl (fun _ => ?_) (fun c9 => absurd c9 (by omega))
    refine vr_iconst (q := 14) dX2_deadFrom_13 rfl ⟨by decide, by decide⟩ ?_
    refine vr_istore (q := 16) dX2_deadFrom_14 rfl (Nat.le_of_ble_eq_true rfl) rfl rfl ?_
    -- at X2.deadFrom 16: .iload 6
    exact lp (h 7 2).toNat 0 x h (by omega) rfl (sd_r e h)
end PF4_
