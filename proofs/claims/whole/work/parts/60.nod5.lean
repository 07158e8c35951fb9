theorem gs_c {F : TF_} {L N L2 N2 : Int → Int} : ∀ (k : Nat) (t : Int) (m : MU_), (∀ j, t ≤ j → j < t + k → L j = L2 j ∧ N j = N2 j) → gs_ F L N k t m = gs_ F L2 N2 k t m := by
  intro k
  induction k with
  | zero => intro t m _; rfl
  | succ k ih =>
    intro t m hh
    have h0 := hh t (by omega) (by omega)
    unfold gs_
    rw [h0.1, h0.2, ih (t + 1) _ (fun j a b => hh j (by omega) (by omega))]
theorem gs_01 (F : TF_) (L N : Int → Int) : ∀ (k : Nat) (t : Int) (m : MU_), gs_ F L N k t m = 0 ∨ gs_ F L N k t m = 1 := by
  intro k
  induction k with
  | zero => intro t m; exact Or.inr rfl
  | succ k ih =>
    intro t m
    unfold gs_
    split
    · exact ih _ _
    · exact Or.inl rfl
/-- whether n lies of a row from p on go so, with a mind -/
def go_ (h : SH_) (p n : Int) (m : MU_) : Int := gs_ (tf_ h) (fun t => h 4 (p + 2 * t)) (fun t => h 4 (p + 2 * t + 1)) n.toNat 0 m
def dc_ (f : Int → Int) : Nat → Int → Int × Int → Int × Int
  | 0, _, x => x
  | c + 1, i, x => dc_ f c (i + 1) (if f i = 0 then x else (x.1 + 1, if x.2 = -1000000 then i else x.2))
def tb_ (f : Int → Int) : Nat → Int → Int → Int
  | 0, _, x => x
  | c + 1, i, x => tb_ f c (i + 1) (if f i = 0 then x else sb_ior x (sb_ishl 1 i))
/-- a telling that lies ready stays so -/
theorem tt_k {h hc hd : SH_} {p n : Int} (t : tt_ h p n hc) (hk : ∀ a, a < 52 ∨ 65 < a → hd a = hc a) : tt_ h p n hd := by
  obtain ⟨t1, t2, t3⟩ := t
  refine ⟨fun a ha => by rw [hk a (by omega)]; exact t1 a ha, by rw [hk 46 (by omega)]; exact t2, fun j j0 j1 => ?_⟩
  rw [hk 50 (by omega), hk 51 (by omega)]
  exact t3 j j0 j1
section PN5_
variable {g : SG_} {d : Nat} {h : SH_} {Post : Option SV_ → SH_ → Prop}
theorem cg_goesSo {hc : SH_} {s tr db p n : Int} (o : to_ h) (hs : 0 ≤ s ∧ s < h 7 3) (ht : 0 ≤ tr ∧ tr ≤ 20) (hb : 0 ≤ db ∧ db < 16) (hn : 0 ≤ n ∧ n ≤ 6) (hall : ∀ t, 0 ≤ t → t < n → 0 ≤ h 4 (p + 2 * t) ∧ h 4 (p + 2 * t) < h 7 2) (hT : tt_ h p n hc) (kk : ∀ h2, tt_ h p n h2 → Post (some (sv_i (go_ h p n (tr, db, (en_ h s).2.2)))) h2) : Ctr_ g (d + 5) mX2_goesSo [sv_r 4 2 46, sv_r 4 6 7, sv_i s, sv_i tr, sv_i db] hc Post := by
  obtain ⟨t1, t2, t3⟩ := id hT
  refine c_goesSo (n := n) (fk_to t1 o) (by rw [t1 7 (by omega)]; exact hs) ht hb hn t2 (fun t a b => by rw [(t3 t a b).1, t1 7 (by omega)]; exact hall t a b) (fun m2 => ?_)
  rw [fk_tf t1, en_k (fun x _ _ => t1 x (by omega)), gs_c (L2 := fun t => h 4 (p + 2 * t)) (N2 := fun t => h 4 (p + 2 * t + 1)) n.toNat 0 _ (fun j a b => t3 j a (by omega))]
  exact kk _ (tt_k hT (fun a ha => ms_n (by omega) (by omega)))
theorem l_doubted {s r i n w p : Int} {f : Int → Int} (o : to_ h) (hs : 0 ≤ s ∧ s < h 7 3) (hn : 0 ≤ n ∧ n ≤ 6) (hall : ∀ t, 0 ≤ t → t < n → 0 ≤ h 4 (p + 2 * t) ∧ h 4 (p + 2 * t) < h 7 2) (hf : ∀ j, f j = go_ h p n (h 11 s, j, (en_ h s).2.2)) (kk : ∀ h2, fk_ h h2 → Post (some (sv_i (if w = 0 then (dc_ f 16 0 (0, -1000000)).1 else (dc_ f 16 0 (0, -1000000)).2))) (hs_ h2 0 8 0)) : ∀ (c j : Nat) (x : Int × Int) (hq : SH_) (o6 : Int), j + c = 16 → (0 ≤ x.1 ∧ x.1 ≤ j) → dc_ f 16 0 (0, -1000000) = dc_ f c j x → tt_ h p n hq → V_ g (d + 6) mX8_doubted 62 [some (sv_r 4 7 0), some (sv_i s), some (sv_i r), some (sv_i i), some (sv_i n), some (sv_i w), some (sv_i o6), some (sv_i x.1), some (sv_i x.2), some (sv_i j)] [] hq Post := by
  intro c
  have o2 := o.2.1
  have hst := o.2.2.2.2 s hs.1 hs.2
  induction c with
  | zero =>
    intro j x hq o6 hj hx ef hT
    have e0 : dc_ f 0 j x = x := rfl
    rw [ef, e0] at kk
    refine vr_iload (q := 64) dX8_doubted_62 rfl rfl ?_
    refine vr_bipush (q := 66) dX8_doubted_64 rfl ⟨by decide, by decide⟩ (by decide) ?_
    -- at X8.doubted 66: .if_icmp .ge 54
    refine vr_ic_ge (t := 120) (q := 69) dX8_doubted_66 (by decide) rfl (fun _ => ?_) (fun c9 => absurd c9 (by omega))
    refine vr_aload_n (q := 121) dX8_doubted_120 rfl rfl ?_
    refine vr_iload (q := 123) dX8_doubted_121 rfl rfl ?_
    refine vr_if_ne (t := 131) (q := 126) dX8_doubted_123 (by decide) rfl (fun c123 => ?_) (fun c123 => ?_)
    · refine vr_iload (q := 133) dX8_doubted_131 rfl rfl ?_
      refine vr_iv1 (q := 136) dX8_doubted_133 rfl vX8_78 (Nat.le_of_ble_eq_true rfl) ?_
      refine c_unfound ?_
      refine vr_iret dX8_doubted_136 rfl ?_
      first | (rw [if_pos (by assumption)] at kk; exact kk hq hT.1) | (rw [if_neg (by assumption)] at kk; exact kk hq hT.1)
    · refine vr_iload (q := 128) dX8_doubted_126 rfl rfl ?_
      refine vr_goto (q := 133) dX8_doubted_128 (by decide) ?_
      refine vr_iv1 (q := 136) dX8_doubted_133 rfl vX8_78 (Nat.le_of_ble_eq_true rfl) ?_
      refine c_unfound ?_
      refine vr_iret dX8_doubted_136 rfl ?_
      first | (rw [if_pos (by assumption)] at kk; exact kk hq hT.1) | (rw [if_neg (by assumption)] at kk; exact kk hq hT.1)
  | succ c ih =>
    intro j x hq o6 hj hx ef hT
    have e2 : dc_ f (c + 1) j x = dc_ f c (j + 1) (if f j = 0 then x else (x.1 + 1, if x.2 = -1000000 then (j : Int) else x.2)) := rfl
    have e11 := hT.1 11 (by omega)
    refine vr_iload (q := 64) dX8_doubted_62 rfl rfl ?_
    refine vr_bipush (q := 66) dX8_doubted_64 rfl ⟨by decide, by decide⟩ (by decide) ?_
    -- at X8.doubted 66: .if_icmp .ge 54
    refine vr_ic_ge (t := 120) (q := 69) dX8_doubted_66 (by decide) rfl (fun c9 => absurd c9 (by omega)) (fun _ => ?_)
    refine vr_aload_n (q := 70) dX8_doubted_69 rfl rfl ?_
    refine vr_getA (q := 73) dX8_doubted_70 rfl fX8_47 rfl ⟨by decide, by decide, rfl⟩ ?_
    refine vr_aload_n (q := 74) dX8_doubted_73 rfl rfl ?_
    refine vr_getA (q := 77) dX8_doubted_74 rfl fX8_26 rfl ⟨by decide, by decide, rfl⟩ ?_
    refine vr_iload_n (q := 78) dX8_doubted_77 rfl rfl ?_
    refine vr_aload_n (q := 79) dX8_doubted_78 rfl rfl ?_
    refine vr_getA (q := 82) dX8_doubted_79 rfl fX8_26 rfl ⟨by decide, by decide, rfl⟩ ?_
    refine vr_getR (q := 85) dX8_doubted_82 rfl fX8_202 rfl y_X7_7 (by first | (simp only [Int.reduceAdd]; rfl) | rfl) ?_
    refine vr_iload_n (q := 86) dX8_doubted_85 rfl rfl ?_
    refine vr_ialdV (q := 87) dX8_doubted_86 rfl ⟨by omega, by omega⟩ (by rw [e11]) ?_
    refine vr_iload (q := 89) dX8_doubted_87 rfl rfl ?_
    -- at X8.doubted 89: .invokevirtual 255
    refine vr_iv4 (q := 92) dX8_doubted_89 rfl vX8_255 (Nat.le_of_ble_eq_true rfl) ?_
    refine cg_goesSo o hs hst.1 ⟨by omega, by omega⟩ hn hall hT (fun h2 hT2 => ?_)
    rw [← hf]
    refine vr_if_eq (t := 114) (q := 95) dX8_doubted_92 (by decide) rfl (fun c1 => ?_) (fun c1 => ?_)
    · rw [if_pos c1] at e2
      refine vr_iinc (q := 117) dX8_doubted_114 rfl rfl ⟨by omega, by omega⟩ (Nat.le_of_ble_eq_true rfl) rfl rfl ?_
      refine vr_goto (q := 62) dX8_doubted_117 (by decide) ?_
      -- at X8.doubted 62: .iload 9
      exact ih (j + 1) x h2 _ (by omega) ⟨by omega, by omega⟩ (ef.trans e2) hT2
    · rw [if_neg c1] at e2
      refine vr_iinc (q := 98) dX8_doubted_95 rfl rfl ⟨by omega, by omega⟩ (Nat.le_of_ble_eq_true rfl) rfl rfl ?_
      refine vr_iload (q := 100) dX8_doubted_98 rfl rfl ?_
      refine vr_ldc (x := -1000000) (q := 102) dX8_doubted_100 rfl ⟨by decide, by decide⟩ qX8_235 ?_
      -- at X8.doubted 102: .if_icmp .ne 8
      refine vr_ic_ne (t := 110) (q := 105) dX8_doubted_102 (by decide) rfl (fun c2 => ?_) (fun c2 => ?_)
      · rw [if_neg c2] at e2
        refine vr_iload (q := 112) dX8_doubted_110 rfl rfl ?_
        refine vr_istore (q := 114) dX8_doubted_112 rfl (Nat.le_of_ble_eq_true rfl) rfl rfl ?_
        refine vr_iinc (q := 117) dX8_doubted_114 rfl rfl ⟨by omega, by omega⟩ (Nat.le_of_ble_eq_true rfl) rfl rfl ?_
        refine vr_goto (q := 62) dX8_doubted_117 (by decide) ?_
        -- at X8.doubted 62: .iload 9
        exact ih (j + 1) (x.1 + 1, x.2) h2 _ (by omega) ⟨by show 0 ≤ x.1 + 1; omega, by show x.1 + 1 ≤ ((j + 1 : Nat) : Int); omega⟩ (ef.trans e2) hT2
      · rw [if_pos (by omega)] at e2
        refine vr_iload (q := 107) dX8_doubted_105 rfl rfl ?_
        refine vr_goto (q := 112) dX8_doubted_107 (by decide) ?_
        refine vr_istore (q := 114) dX8_doubted_112 rfl (Nat.le_of_ble_eq_true rfl) rfl rfl ?_
        refine vr_iinc (q := 117) dX8_doubted_114 rfl rfl ⟨by omega, by omega⟩ (Nat.le_of_ble_eq_true rfl) rfl rfl ?_
        refine vr_goto (q := 62) dX8_doubted_117 (by decide) ?_
        -- at X8.doubted 62: .iload 9
        exact ih (j + 1) (x.1 + 1, (j : Int)) h2 _ (by omega) ⟨by show 0 ≤ x.1 + 1; omega, by show x.1 + 1 ≤ ((j + 1 : Nat) : Int); omega⟩ (ef.trans e2) hT2
theorem l_trusted {s r i n p : Int} {f : Int → Int} (o : to_ h) (hs : 0 ≤ s ∧ s < h 7 3) (hn : 0 ≤ n ∧ n ≤ 6) (hall : ∀ t, 0 ≤ t → t < n → 0 ≤ h 4 (p + 2 * t) ∧ h 4 (p + 2 * t) < h 7 2) (hf : ∀ j, f j = go_ h p n (j, h 12 s, (en_ h s).2.2)) (kk : ∀ h2, fk_ h h2 → Post (some (sv_i (tb_ f 21 0 0))) (hs_ h2 0 8 0)) : ∀ (c j : Nat) (x : Int) (hq : SH_) (o5 : Int), j + c = 21 → tb_ f 21 0 0 = tb_ f c j x → tt_ h p n hq → V_ g (d + 6) mX8_trusted 47 [some (sv_r 4 7 0), some (sv_i s), some (sv_i r), some (sv_i i), some (sv_i n), some (sv_i o5), some (sv_i x), some (sv_i j)] [] hq Post := by
  intro c
  have o2 := o.2.1
  have hst := o.2.2.2.2 s hs.1 hs.2
  induction c with
  | zero =>
    intro j x hq o5 hj ef hT
    have e0 : tb_ f 0 j x = x := rfl
    rw [ef, e0] at kk
    refine vr_iload (q := 49) dX8_trusted_47 rfl rfl ?_
    refine vr_bipush (q := 51) dX8_trusted_49 rfl ⟨by decide, by decide⟩ (by decide) ?_
    -- at X8.trusted 51: .if_icmp .gt 44
    refine vr_ic_gt (t := 95) (q := 54) dX8_trusted_51 (by decide) rfl (fun _ => ?_) (fun c9 => absurd c9 (by omega))
    refine vr_aload_n (q := 96) dX8_trusted_95 rfl rfl ?_
    refine vr_iload (q := 98) dX8_trusted_96 rfl rfl ?_
    refine vr_iv1 (q := 101) dX8_trusted_98 rfl vX8_78 (Nat.le_of_ble_eq_true rfl) ?_
    refine c_unfound ?_
    refine vr_iret dX8_trusted_101 rfl ?_
    exact kk hq hT.1
  | succ c ih =>
    intro j x hq o5 hj ef hT
    have e2 : tb_ f (c + 1) j x = tb_ f c (j + 1) (if f j = 0 then x else sb_ior x (sb_ishl 1 j)) := rfl
    have e12 := hT.1 12 (by omega)
    refine vr_iload (q := 49) dX8_trusted_47 rfl rfl ?_
    refine vr_bipush (q := 51) dX8_trusted_49 rfl ⟨by decide, by decide⟩ (by decide) ?_
    -- at X8.trusted 51: .if_icmp .gt 44
    refine vr_ic_gt (t := 95) (q := 54) dX8_trusted_51 (by decide) rfl (fun c9 => absurd c9 (by omega)) (fun _ => ?_)
    refine vr_aload_n (q := 55) dX8_trusted_54 rfl rfl ?_
    refine vr_getA (q := 58) dX8_trusted_55 rfl fX8_47 rfl ⟨by decide, by decide, rfl⟩ ?_
    refine vr_aload_n (q := 59) dX8_trusted_58 rfl rfl ?_
    refine vr_getA (q := 62) dX8_trusted_59 rfl fX8_26 rfl ⟨by decide, by decide, rfl⟩ ?_
    refine vr_iload_n (q := 63) dX8_trusted_62 rfl rfl ?_
    refine vr_iload (q := 65) dX8_trusted_63 rfl rfl ?_
    refine vr_aload_n (q := 66) dX8_trusted_65 rfl rfl ?_
    refine vr_getA (q := 69) dX8_trusted_66 rfl fX8_26 rfl ⟨by decide, by decide, rfl⟩ ?_
    refine vr_getR (q := 72) dX8_trusted_69 rfl fX8_205 rfl y_X7_8 (by first | (simp only [Int.reduceAdd]; rfl) | rfl) ?_
    refine vr_iload_n (q := 73) dX8_trusted_72 rfl rfl ?_
    refine vr_ialdV (q := 74) dX8_trusted_73 rfl ⟨by omega, by omega⟩ (by rw [e12]) ?_
    -- at X8.trusted 74: .invokevirtual 255
    refine vr_iv4 (q := 77) dX8_trusted_74 rfl vX8_255 (Nat.le_of_ble_eq_true rfl) ?_
    refine cg_goesSo o hs ⟨by omega, by omega⟩ hst.2.1 hn hall hT (fun h2 hT2 => ?_)
    rw [← hf]
    refine vr_if_eq (t := 89) (q := 80) dX8_trusted_77 (by decide) rfl (fun c1 => ?_) (fun c1 => ?_)
    · rw [if_pos c1] at e2
      refine vr_iinc (q := 92) dX8_trusted_89 rfl rfl ⟨by omega, by omega⟩ (Nat.le_of_ble_eq_true rfl) rfl rfl ?_
      refine vr_goto (q := 47) dX8_trusted_92 (by decide) ?_
      -- at X8.trusted 47: .iload 7
      exact ih (j + 1) x h2 _ (by omega) (ef.trans e2) hT2
    · rw [if_neg c1] at e2
      refine vr_iload (q := 82) dX8_trusted_80 rfl rfl ?_
      refine vr_iconst (q := 83) dX8_trusted_82 rfl ⟨by decide, by decide⟩ ?_
      refine vr_iload (q := 85) dX8_trusted_83 rfl rfl ?_
      refine vr_ishl (q := 86) dX8_trusted_85 rfl ?_
      refine vr_ior (q := 87) dX8_trusted_86 rfl ?_
      refine vr_istore (q := 89) dX8_trusted_87 rfl (Nat.le_of_ble_eq_true rfl) rfl rfl ?_
      refine vr_iinc (q := 92) dX8_trusted_89 rfl rfl ⟨by omega, by omega⟩ (Nat.le_of_ble_eq_true rfl) rfl rfl ?_
      refine vr_goto (q := 47) dX8_trusted_92 (by decide) ?_
      -- at X8.trusted 47: .iload 7
      exact ih (j + 1) _ h2 _ (by omega) (ef.trans e2) hT2
theorem l_who {r i n p : Int} {f : Int → Int} (o : to_ h) (hn : 0 ≤ n ∧ n ≤ 6) (hall : ∀ t, 0 ≤ t → t < n → 0 ≤ h 4 (p + 2 * t) ∧ h 4 (p + 2 * t) < h 7 2) (hf : ∀ j, f j = go_ h p n (h 11 j, h 12 j, (en_ h j).2.2)) (kk : ∀ h2, fk_ h h2 → Post (some (sv_i (tb_ f (h 7 3).toNat 0 0))) (hs_ h2 0 8 0)) : ∀ (c j : Nat) (x : Int) (hq : SH_) (o4 : Int), (j : Int) + c = h 7 3 → tb_ f (h 7 3).toNat 0 0 = tb_ f c j x → tt_ h p n hq → V_ g (d + 6) mX8_who 47 [some (sv_r 4 7 0), some (sv_i r), some (sv_i i), some (sv_i n), some (sv_i o4), some (sv_i x), some (sv_i j)] [] hq Post := by
  intro c
  have o2 := o.2.1
  induction c with
  | zero =>
    intro j x hq o4 hj ef hT
    have e0 : tb_ f 0 j x = x := rfl
    have e7 := hT.1 7 (by omega)
    rw [ef, e0] at kk
    refine vr_iload (q := 49) dX8_who_47 rfl rfl ?_
    refine vr_aload_n (q := 50) dX8_who_49 rfl rfl ?_
    refine vr_getA (q := 53) dX8_who_50 rfl fX8_26 rfl ⟨by decide, by decide, rfl⟩ ?_
    refine vr_getV (ji := 3) (q := 56) dX8_who_53 rfl fX8_126 rfl rfl (by rw [e7]) ?_
    -- at X8.who 56: .if_icmp .ge 54
    refine vr_ic_ge (t := 110) (q := 59) dX8_who_56 (by decide) rfl (fun _ => ?_) (fun c9 => absurd c9 (by omega))
    refine vr_aload_n (q := 111) dX8_who_110 rfl rfl ?_
    refine vr_iload (q := 113) dX8_who_111 rfl rfl ?_
    refine vr_iv1 (q := 116) dX8_who_113 rfl vX8_78 (Nat.le_of_ble_eq_true rfl) ?_
    refine c_unfound ?_
    refine vr_iret dX8_who_116 rfl ?_
    exact kk hq hT.1
  | succ c ih =>
    intro j x hq o4 hj ef hT
    have e2 : tb_ f (c + 1) j x = tb_ f c (j + 1) (if f j = 0 then x else sb_ior x (sb_ishl 1 j)) := rfl
    have hst := o.2.2.2.2 j (by omega) (by omega)
    have e7 := hT.1 7 (by omega)
    have e11 := hT.1 11 (by omega)
    have e12 := hT.1 12 (by omega)
    refine vr_iload (q := 49) dX8_who_47 rfl rfl ?_
    refine vr_aload_n (q := 50) dX8_who_49 rfl rfl ?_
    refine vr_getA (q := 53) dX8_who_50 rfl fX8_26 rfl ⟨by decide, by decide, rfl⟩ ?_
    refine vr_getV (ji := 3) (q := 56) dX8_who_53 rfl fX8_126 rfl rfl (by rw [e7]) ?_
    -- at X8.who 56: .if_icmp .ge 54
    refine vr_ic_ge (t := 110) (q := 59) dX8_who_56 (by decide) rfl (fun c9 => absurd c9 (by omega)) (fun _ => ?_)
    refine vr_aload_n (q := 60) dX8_who_59 rfl rfl ?_
    refine vr_getA (q := 63) dX8_who_60 rfl fX8_47 rfl ⟨by decide, by decide, rfl⟩ ?_
    refine vr_aload_n (q := 64) dX8_who_63 rfl rfl ?_
    refine vr_getA (q := 67) dX8_who_64 rfl fX8_26 rfl ⟨by decide, by decide, rfl⟩ ?_
    refine vr_iload (q := 69) dX8_who_67 rfl rfl ?_
    refine vr_aload_n (q := 70) dX8_who_69 rfl rfl ?_
    refine vr_getA (q := 73) dX8_who_70 rfl fX8_26 rfl ⟨by decide, by decide, rfl⟩ ?_
    refine vr_getR (q := 76) dX8_who_73 rfl fX8_202 rfl y_X7_7 (by first | (simp only [Int.reduceAdd]; rfl) | rfl) ?_
    refine vr_iload (q := 78) dX8_who_76 rfl rfl ?_
    refine vr_ialdV (q := 79) dX8_who_78 rfl ⟨by omega, by omega⟩ (by rw [e11]) ?_
    refine vr_aload_n (q := 80) dX8_who_79 rfl rfl ?_
    refine vr_getA (q := 83) dX8_who_80 rfl fX8_26 rfl ⟨by decide, by decide, rfl⟩ ?_
    refine vr_getR (q := 86) dX8_who_83 rfl fX8_205 rfl y_X7_8 (by first | (simp only [Int.reduceAdd]; rfl) | rfl) ?_
    refine vr_iload (q := 88) dX8_who_86 rfl rfl ?_
    refine vr_ialdV (q := 89) dX8_who_88 rfl ⟨by omega, by omega⟩ (by rw [e12]) ?_
    -- at X8.who 89: .invokevirtual 255
    refine vr_iv4 (q := 92) dX8_who_89 rfl vX8_255 (Nat.le_of_ble_eq_true rfl) ?_
    refine cg_goesSo o ⟨by omega, by omega⟩ hst.1 hst.2.1 hn hall hT (fun h2 hT2 => ?_)
    rw [← hf]
    refine vr_if_eq (t := 104) (q := 95) dX8_who_92 (by decide) rfl (fun c1 => ?_) (fun c1 => ?_)
    · rw [if_pos c1] at e2
      refine vr_iinc (q := 107) dX8_who_104 rfl rfl ⟨by omega, by omega⟩ (Nat.le_of_ble_eq_true rfl) rfl rfl ?_
      refine vr_goto (q := 47) dX8_who_107 (by decide) ?_
      -- at X8.who 47: .iload 6
      exact ih (j + 1) x h2 _ (by omega) (ef.trans e2) hT2
    · rw [if_neg c1] at e2
      refine vr_iload (q := 97) dX8_who_95 rfl rfl ?_
      refine vr_iconst (q := 98) dX8_who_97 rfl ⟨by decide, by decide⟩ ?_
      refine vr_iload (q := 100) dX8_who_98 rfl rfl ?_
      refine vr_ishl (q := 101) dX8_who_100 rfl ?_
      refine vr_ior (q := 102) dX8_who_101 rfl ?_
      refine vr_istore (q := 104) dX8_who_102 rfl (Nat.le_of_ble_eq_true rfl) rfl rfl ?_
      refine vr_iinc (q := 107) dX8_who_104 rfl rfl ⟨by omega, by omega⟩ (Nat.le_of_ble_eq_true rfl) rfl rfl ?_
      refine vr_goto (q := 47) dX8_who_107 (by decide) ?_
      -- at X8.who 47: .iload 6
      exact ih (j + 1) _ h2 _ (by omega) (ef.trans e2) hT2
end PN5_
