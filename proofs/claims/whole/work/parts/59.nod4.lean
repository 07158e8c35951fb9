theorem ka_lo {h : SH_} {s a : Int} (ha : a < 40 ∨ 45 < a) : ka_ h s a = h a := by
  unfold ka_
  rw [hs_k (by omega), hs_k (by omega), hs_k (by omega), hs_k (by omega), hs_k (by omega), hs_k (by omega), hs_k (by omega)]
theorem en_k {h hc : SH_} {s : Int} (hk : ∀ a, 7 ≤ a → a ≤ 14 → hc a = h a) : en_ hc s = en_ h s := by
  unfold en_
  rw [hk 7 (by decide) (by decide), hk 10 (by decide) (by decide), hk 11 (by decide) (by decide), hk 12 (by decide) (by decide), hk 13 (by decide) (by decide), hk 14 (by decide) (by decide)]
/-- a set without l, of sets and lies -/
def hq_ (h : SH_) (s : Int) : Nat → Int → Int → Int × Int → Int × Int
  | 0, _, _, x => x
  | c + 1, a, b, x => hq_ h s c a (b + 1) (if hp_ h s a b = 0 then x else (x.1 + 1, if x.2 = -1000000 then 10 * a + b else x.2))
def hr_ (h : SH_) (s : Int) : Nat → Int → Int × Int → Int × Int
  | 0, _, x => x
  | c + 1, a, x => hr_ h s c (a + 1) (hq_ h s (h 7 2 - (a + 1)).toNat a (a + 1) x)
theorem hp_k {h hc : SH_} {s a b : Int} (k : fk_ h hc) : hp_ hc s a b = hp_ h s a b := by
  unfold hp_
  rw [k 13 (by omega), fk_tf k, en_k (fun x _ _ => k x (by omega))]
theorem hp_01 (h : SH_) (s a b : Int) : hp_ h s a b = 0 ∨ hp_ h s a b = 1 := by
  unfold hp_
  split
  · exact Or.inl rfl
  · split
    · exact Or.inl rfl
    · split
      · exact bi_01 _ _ _ _
      · exact Or.inr rfl
section PN4_
variable {g : SG_} {d : Nat} {h : SH_} {Post : Option SV_ → SH_ → Prop}
theorem x_supper {s : Int} (o : to_ h) (hn : 0 ≤ h 40 5 ∧ h 40 5 < 24) (hk : 0 ≤ h 40 6 ∧ h 40 6 ≤ 24) (k1 : ¬ (0 ≤ s ∧ s < h 7 3) → Post (some (sv_i (-1000001))) h) (k2 : (0 ≤ s ∧ s < h 7 3) → Post (some (sv_i (di_ (en_ h s)).1)) (hs_ (hs_ (ms_ (ka_ h s) 52 (di_ (en_ h s))) 7 1 (sw_32 (h 7 1 - 1))) 11 s (di_ (en_ h s)).1)) : Ctr_ g (d + 3) mX8_supper [sv_r 4 7 0, sv_i s] h Post := by
  have o2 := o.2.1
  have oK : to_ (ka_ h s) := to_k (fun a _ _ => ka_lo (by omega)) o
  have en : en_ (ka_ h s) s = en_ h s := en_k (fun a _ _ => ka_lo (by omega))
  have e7 : ∀ m, ms_ (ka_ h s) 52 m 7 = h 7 := fun m => by rw [ms_lo (by decide) (by decide), ka_lo (by omega)]
  have t1 : ∀ m : MU_, ms_ (ka_ h s) 52 m 52 0 = m.1 := fun m => congrArg (fun z : MU_ => z.1) (mu_ms (ka_ h s) 52 m)
  refine V_mk (by decide +kernel) (Or.inr (Or.inl ⟨rfl, rfl⟩)) (Nat.le_of_ble_eq_true rfl) (by simp [sv_c]) ?_
  show V_ _ _ _ 0 [_, _, _] [] _ _
  refine vr_aload_n (q := 1) dX8_supper_0 rfl rfl ?_
  refine vr_getA (q := 4) dX8_supper_1 rfl fX8_26 rfl ⟨by decide, by decide, rfl⟩ ?_
  refine vr_iload_n (q := 5) dX8_supper_4 rfl rfl ?_
  -- at X8.supper 5: .invokevirtual 132
  refine vr_iv1 (q := 8) dX8_supper_5 rfl vX8_132 (Nat.le_of_ble_eq_true rfl) ?_
  refine c_hasStranger (fun c5 => ?_) (fun c5 => ?_)
  · have hm := en_mo o c5
    refine vr_if_ne (t := 14) (q := 11) dX8_supper_8 (by decide) rfl (fun _ => ?_) (fun c9 => absurd c9 (by omega))
    refine vr_aload_n (q := 15) dX8_supper_14 rfl rfl ?_
    refine vr_getA (q := 18) dX8_supper_15 rfl fX8_40 rfl ⟨by decide, by decide, rfl⟩ ?_
    refine vr_aload_n (q := 19) dX8_supper_18 rfl rfl ?_
    refine vr_getA (q := 22) dX8_supper_19 rfl fX8_26 rfl ⟨by decide, by decide, rfl⟩ ?_
    refine vr_iload_n (q := 23) dX8_supper_22 rfl rfl ?_
    -- at X8.supper 23: .invokevirtual 143
    refine vr_iv2 (q := 26) dX8_supper_23 rfl vX8_143 (Nat.le_of_ble_eq_true rfl) ?_
    refine c_keepAhead ⟨by omega, by omega⟩ hn hk ?_
    refine vr_aload_n (q := 27) dX8_supper_26 rfl rfl ?_
    refine vr_getA (q := 30) dX8_supper_27 rfl fX8_47 rfl ⟨by decide, by decide, rfl⟩ ?_
    refine vr_aload_n (q := 31) dX8_supper_30 rfl rfl ?_
    refine vr_getA (q := 34) dX8_supper_31 rfl fX8_26 rfl ⟨by decide, by decide, rfl⟩ ?_
    refine vr_iload_n (q := 35) dX8_supper_34 rfl rfl ?_
    -- at X8.supper 35: .invokevirtual 147
    refine vr_iv2 (q := 38) dX8_supper_35 rfl vX8_147 (Nat.le_of_ble_eq_true rfl) ?_
    refine c_mindOf oK (by rw [ka_lo (by omega)]; exact c5) ?_
    rw [en]
    refine vr_astore_n (q := 39) dX8_supper_38 rfl rfl (Nat.le_of_ble_eq_true rfl) rfl rfl ?_
    refine vr_aload_n (q := 40) dX8_supper_39 rfl rfl ?_
    -- at X8.supper 40: .invokevirtual 164
    refine vr_iv0 (q := 43) dX8_supper_40 rfl vX8_164 (Nat.le_of_ble_eq_true rfl) ?_
    refine c_dine (by rw [t1]; exact hm.1) ?_
    rw [mu_ms, ms_ms]
    refine vr_aload_n (q := 44) dX8_supper_43 rfl rfl ?_
    refine vr_getA (q := 47) dX8_supper_44 rfl fX8_26 rfl ⟨by decide, by decide, rfl⟩ ?_
    refine vr_iload_n (q := 48) dX8_supper_47 rfl rfl ?_
    refine vr_aload_n (q := 49) dX8_supper_48 rfl rfl ?_
    refine vr_getV (ji := 0) (q := 52) dX8_supper_49 rfl fX8_157 rfl rfl (t1 _) ?_
    -- at X8.supper 52: .invokevirtual 167
    refine vr_iv2 (q := 55) dX8_supper_52 rfl vX8_167 (Nat.le_of_ble_eq_true rfl) ?_
    refine c_noteSupper ⟨by omega, by omega⟩ ?_
    rw [e7]
    refine vr_aload_n (q := 56) dX8_supper_55 rfl rfl ?_
    refine vr_getV (ji := 0) (q := 59) dX8_supper_56 rfl fX8_157 rfl rfl (show _ = (di_ (en_ h s)).1 by rw [hs_k (by decide), hs_k (by decide)]; exact t1 _) ?_
    refine vr_iret dX8_supper_59 rfl ?_
    exact k2 c5
  · refine vr_if_ne (t := 14) (q := 11) dX8_supper_8 (by decide) rfl (fun c9 => absurd c9 (by omega)) (fun _ => ?_)
    refine vr_ldc (x := -1000001) (q := 13) dX8_supper_11 rfl ⟨by decide, by decide⟩ qX8_69 ?_
    refine vr_iret dX8_supper_13 rfl ?_
    exact k1 c5
/-- what is left of the lies told when l is forgotten -/
theorem x_forget {s l : Int} (o : to_ h) (hn : 0 ≤ h 40 5 ∧ h 40 5 < 24) (hk : 0 ≤ h 40 6 ∧ h 40 6 ≤ 24) (k1 : ¬ ((0 ≤ s ∧ s < h 7 3) ∧ (0 ≤ l ∧ l < h 7 2)) → Post (some (sv_i (-1000001))) h) (k2 : ((0 ≤ s ∧ s < h 7 3) ∧ (0 ≤ l ∧ l < h 7 2)) → bt_ (h 13 s) l = 0 → Post (some (sv_i (-1000002))) h) (k3 : ((0 ≤ s ∧ s < h 7 3) ∧ (0 ≤ l ∧ l < h 7 2)) → ¬ bt_ (h 13 s) l = 0 → Post (some (sv_i (pc_ (dl_ (h 13 s) l)))) (hs_ (hs_ (ka_ h s) 13 s (dl_ (h 13 s) l)) 14 s (dl_ (h 14 s) l))) : Ctr_ g (d + 2) mX8_forget [sv_r 4 7 0, sv_i s, sv_i l] h Post := by
  have o1 := o.1
  have o2 := o.2.1
  have e13 : ka_ h s 13 = h 13 := ka_lo (by omega)
  have e14 : ka_ h s 14 = h 14 := ka_lo (by omega)
  refine V_mk (by decide +kernel) (Or.inr (Or.inl ⟨rfl, rfl⟩)) (Nat.le_of_ble_eq_true rfl) (by simp [sv_c]) ?_
  show V_ _ _ _ 0 [_, _, _] [] _ _
  refine vr_aload_n (q := 1) dX8_forget_0 rfl rfl ?_
  refine vr_getA (q := 4) dX8_forget_1 rfl fX8_26 rfl ⟨by decide, by decide, rfl⟩ ?_
  refine vr_iload_n (q := 5) dX8_forget_4 rfl rfl ?_
  -- at X8.forget 5: .invokevirtual 132
  refine vr_iv1 (q := 8) dX8_forget_5 rfl vX8_132 (Nat.le_of_ble_eq_true rfl) ?_
  refine c_hasStranger (fun c5 => ?_) (fun c5 => ?_)
  · refine vr_if_eq (t := 22) (q := 11) dX8_forget_8 (by decide) rfl (fun c9 => absurd c9 (by omega)) (fun _ => ?_)
    refine vr_aload_n (q := 12) dX8_forget_11 rfl rfl ?_
    refine vr_getA (q := 15) dX8_forget_12 rfl fX8_26 rfl ⟨by decide, by decide, rfl⟩ ?_
    refine vr_iload_n (q := 16) dX8_forget_15 rfl rfl ?_
    -- at X8.forget 16: .invokevirtual 135
    refine vr_iv1 (q := 19) dX8_forget_16 rfl vX8_135 (Nat.le_of_ble_eq_true rfl) ?_
    refine c_hasLie (fun c16 => ?_) (fun c16 => ?_)
    · have ht := (o.2.2.2.2 s c5.1 c5.2).2.2.1
      have hd := dl_r ht (l := l) ⟨by omega, by omega⟩
      refine vr_if_ne (t := 25) (q := 22) dX8_forget_19 (by decide) rfl (fun _ => ?_) (fun c9 => absurd c9 (by omega))
      refine vr_aload_n (q := 26) dX8_forget_25 rfl rfl ?_
      refine vr_getA (q := 29) dX8_forget_26 rfl fX8_26 rfl ⟨by decide, by decide, rfl⟩ ?_
      refine vr_iload_n (q := 30) dX8_forget_29 rfl rfl ?_
      refine vr_iload_n (q := 31) dX8_forget_30 rfl rfl ?_
      -- at X8.forget 31: .invokevirtual 138
      refine vr_iv2 (q := 34) dX8_forget_31 rfl vX8_138 (Nat.le_of_ble_eq_true rfl) ?_
      refine c_wasTold ⟨by omega, by omega⟩ (fun c31 => ?_) (fun c31 => ?_)
      · refine vr_if_ne (t := 40) (q := 37) dX8_forget_34 (by decide) rfl (fun _ => ?_) (fun c9 => absurd c9 (by omega))
        refine vr_aload_n (q := 41) dX8_forget_40 rfl rfl ?_
        refine vr_getA (q := 44) dX8_forget_41 rfl fX8_40 rfl ⟨by decide, by decide, rfl⟩ ?_
        refine vr_aload_n (q := 45) dX8_forget_44 rfl rfl ?_
        refine vr_getA (q := 48) dX8_forget_45 rfl fX8_26 rfl ⟨by decide, by decide, rfl⟩ ?_
        refine vr_iload_n (q := 49) dX8_forget_48 rfl rfl ?_
        -- at X8.forget 49: .invokevirtual 143
        refine vr_iv2 (q := 52) dX8_forget_49 rfl vX8_143 (Nat.le_of_ble_eq_true rfl) ?_
        refine c_keepAhead ⟨by omega, by omega⟩ hn hk ?_
        refine vr_aload_n (q := 53) dX8_forget_52 rfl rfl ?_
        refine vr_getA (q := 56) dX8_forget_53 rfl fX8_26 rfl ⟨by decide, by decide, rfl⟩ ?_
        refine vr_iload_n (q := 57) dX8_forget_56 rfl rfl ?_
        refine vr_iload_n (q := 58) dX8_forget_57 rfl rfl ?_
        -- at X8.forget 58: .invokevirtual 171
        refine vr_iv2 (q := 61) dX8_forget_58 rfl vX8_171 (Nat.le_of_ble_eq_true rfl) ?_
        refine c_noteForgotten ⟨by omega, by omega⟩ ?_
        rw [e13, e14]
        refine vr_aload_n (q := 62) dX8_forget_61 rfl rfl ?_
        refine vr_getA (q := 65) dX8_forget_62 rfl fX8_26 rfl ⟨by decide, by decide, rfl⟩ ?_
        refine vr_getR (q := 68) dX8_forget_65 rfl fX8_174 rfl y_X7_9 (by first | (simp only [Int.reduceAdd]; rfl) | rfl) ?_
        refine vr_iload_n (q := 69) dX8_forget_68 rfl rfl ?_
        refine vr_ialdV (q := 70) dX8_forget_69 rfl ⟨by omega, by omega⟩ (show _ = dl_ (h 13 s) l by rw [hs_k (by decide), hs_e]; rfl) ?_
        -- at X8.forget 70: .invokestatic 178
        refine vr_is1 (q := 73) dX8_forget_70 rfl vX8_178 (Nat.le_of_ble_eq_true rfl) ?_
        refine c_bitCount hd ?_
        refine vr_iret dX8_forget_73 rfl ?_
        exact k3 ⟨c5, c16⟩ c31
      · refine vr_if_ne (t := 40) (q := 37) dX8_forget_34 (by decide) rfl (fun c9 => absurd c9 (by omega)) (fun _ => ?_)
        refine vr_ldc (x := -1000002) (q := 39) dX8_forget_37 rfl ⟨by decide, by decide⟩ qX8_142 ?_
        refine vr_iret dX8_forget_39 rfl ?_
        exact k2 ⟨c5, c16⟩ c31
    · refine vr_if_ne (t := 25) (q := 22) dX8_forget_19 (by decide) rfl (fun c9 => absurd c9 (by omega)) (fun _ => ?_)
      refine vr_ldc (x := -1000001) (q := 24) dX8_forget_22 rfl ⟨by decide, by decide⟩ qX8_69 ?_
      refine vr_iret dX8_forget_24 rfl ?_
      exact k1 (fun z => c16 z.2)
  · refine vr_if_eq (t := 22) (q := 11) dX8_forget_8 (by decide) rfl (fun _ => ?_) (fun c9 => absurd c9 (by omega))
    refine vr_ldc (x := -1000001) (q := 24) dX8_forget_22 rfl ⟨by decide, by decide⟩ qX8_69 ?_
    refine vr_iret dX8_forget_24 rfl ?_
    exact k1 (fun z => c5 z.1)
theorem c_isTelling {r n : Int} (kt : ((0 ≤ r ∧ r < 8) ∧ (0 ≤ n ∧ n ≤ 6)) → Post (some (sv_i 1)) h) (kf : ¬ ((0 ≤ r ∧ r < 8) ∧ (0 ≤ n ∧ n ≤ 6)) → Post (some (sv_i 0)) h) : Ctr_ g (d + 1) mX8_isTelling [sv_i r, sv_i n] h Post := by
  refine V_mk (by decide +kernel) (Or.inr (Or.inr (Or.inl ⟨rfl, rfl⟩))) (Nat.le_of_ble_eq_true rfl) (by simp [sv_c]) ?_
  show V_ _ _ _ 0 [_, _] [] _ _
  refine vr_iload_n (q := 1) dX8_isTelling_0 rfl rfl ?_
  refine vr_is1 (q := 4) dX8_isTelling_1 rfl vX8_62 (Nat.le_of_ble_eq_true rfl) ?_
  refine c_isRow (fun c1 => ?_) (fun c1 => ?_)
  · refine vr_if_eq (t := 21) (q := 7) dX8_isTelling_4 (by decide) rfl (fun c9 => absurd c9 (by omega)) (fun _ => ?_)
    refine vr_iload_n (q := 8) dX8_isTelling_7 rfl rfl ?_
    refine vr_if_lt (t := 21) (q := 11) dX8_isTelling_8 (by decide) rfl (fun c8 => ?_) (fun c8 => ?_)
    · refine vr_iconst (q := 22) dX8_isTelling_21 rfl ⟨by decide, by decide⟩ ?_
      refine vr_zret dX8_isTelling_22 rfl ?_ ?_
      · first | exact Or.inl rfl | exact Or.inr rfl | assumption
      · first | exact kt (by omega) | exact kf (by omega)
    · refine vr_iload_n (q := 12) dX8_isTelling_11 rfl rfl ?_
      refine vr_bipush (q := 14) dX8_isTelling_12 rfl ⟨by decide, by decide⟩ (by decide) ?_
      refine vr_ic_gt (t := 21) (q := 17) dX8_isTelling_14 (by decide) rfl (fun c14 => ?_) (fun c14 => ?_)
      · refine vr_iconst (q := 22) dX8_isTelling_21 rfl ⟨by decide, by decide⟩ ?_
        refine vr_zret dX8_isTelling_22 rfl ?_ ?_
        · first | exact Or.inl rfl | exact Or.inr rfl | assumption
        · first | exact kt (by omega) | exact kf (by omega)
      · refine vr_iconst (q := 18) dX8_isTelling_17 rfl ⟨by decide, by decide⟩ ?_
        refine vr_goto (q := 22) dX8_isTelling_18 (by decide) ?_
        refine vr_zret dX8_isTelling_22 rfl ?_ ?_
        · first | exact Or.inl rfl | exact Or.inr rfl | assumption
        · first | exact kt (by omega) | exact kf (by omega)
  · refine vr_if_eq (t := 21) (q := 7) dX8_isTelling_4 (by decide) rfl (fun _ => ?_) (fun c9 => absurd c9 (by omega))
    refine vr_iconst (q := 22) dX8_isTelling_21 rfl ⟨by decide, by decide⟩ ?_
    refine vr_zret dX8_isTelling_22 rfl ?_ ?_
    · first | exact Or.inl rfl | exact Or.inr rfl | assumption
    · first | exact kt (by omega) | exact kf (by omega)
theorem c_xTake {r i n : Int} (o : to_ h) (ho : ∀ r, 0 ≤ r → r < 8 → 0 ≤ h 3 r ∧ h 3 r ≤ 40) (hr : 0 ≤ r ∧ r < 8) (hn : 0 ≤ n ∧ n ≤ 6) (k1 : h 2 r = -1 → Post (some (sv_i (-1000010 - 1))) (hs_ h 0 8 1)) (k2 : ¬ h 2 r = -1 → ¬ (0 ≤ i ∧ i + 2 * n ≤ h 3 r) → Post (some (sv_i (-1000010 - 2))) (hs_ h 0 8 2)) (k3 : ¬ h 2 r = -1 → (0 ≤ i ∧ i + 2 * n ≤ h 3 r) → ¬ (∀ t, 0 ≤ t → t < n → 0 ≤ h 4 (r * 40 + i + 2 * t) ∧ h 4 (r * 40 + i + 2 * t) < h 7 2) → ∀ hc, fk_ h hc → Post (some (sv_i (-1000001))) hc) (k4 : ¬ h 2 r = -1 → (0 ≤ i ∧ i + 2 * n ≤ h 3 r) → (∀ t, 0 ≤ t → t < n → 0 ≤ h 4 (r * 40 + i + 2 * t) ∧ h 4 (r * 40 + i + 2 * t) < h 7 2) → ∀ hc, tt_ h (r * 40 + i) n hc → Post (some (sv_i 0)) hc) : Ctr_ g (d + 2) mX8_takeTelling [sv_r 4 7 0, sv_i r, sv_i i, sv_i n] h Post := by
  have hl := ho r hr.1 hr.2
  refine V_mk (by decide +kernel) (Or.inr (Or.inl ⟨rfl, rfl⟩)) (Nat.le_of_ble_eq_true rfl) (by simp [sv_c]) ?_
  show V_ _ _ _ 0 [_, _, _, _] [] _ _
  refine vr_aload_n (q := 1) dX8_takeTelling_0 rfl rfl ?_
  refine vr_getA (q := 4) dX8_takeTelling_1 rfl fX8_10 rfl ⟨by decide, by decide, rfl⟩ ?_
  refine vr_iload_n (q := 5) dX8_takeTelling_4 rfl rfl ?_
  refine vr_iv1 (q := 8) dX8_takeTelling_5 rfl vX8_81 (Nat.le_of_ble_eq_true rfl) ?_
  refine c_isMissing ⟨by omega, by omega⟩ (fun c5 => ?_) (fun c5 => ?_)
  · refine vr_if_eq (t := 17) (q := 11) dX8_takeTelling_8 (by decide) rfl (fun c9 => absurd c9 (by omega)) (fun _ => ?_)
    refine vr_aload_n (q := 12) dX8_takeTelling_11 rfl rfl ?_
    refine vr_iconst (q := 13) dX8_takeTelling_12 rfl ⟨by decide, by decide⟩ ?_
    refine vr_iv1 (q := 16) dX8_takeTelling_13 rfl vX8_70 (Nat.le_of_ble_eq_true rfl) ?_
    refine c_found ⟨by decide, by decide⟩ ?_
    refine vr_iret dX8_takeTelling_16 rfl ?_
    first | exact k1 (by omega) | exact k2 (by omega) (by omega) | exact k3 (by omega) (by omega) c53 hc tc | exact k4 (by omega) (by omega) c53 hc tc
  · refine vr_if_eq (t := 17) (q := 11) dX8_takeTelling_8 (by decide) rfl (fun _ => ?_) (fun c9 => absurd c9 (by omega))
    refine vr_aload_n (q := 18) dX8_takeTelling_17 rfl rfl ?_
    refine vr_getA (q := 21) dX8_takeTelling_18 rfl fX8_10 rfl ⟨by decide, by decide, rfl⟩ ?_
    refine vr_iload_n (q := 22) dX8_takeTelling_21 rfl rfl ?_
    refine vr_iload_n (q := 23) dX8_takeTelling_22 rfl rfl ?_
    refine vr_iconst (q := 24) dX8_takeTelling_23 rfl ⟨by decide, by decide⟩ ?_
    refine vr_iload_n (q := 25) dX8_takeTelling_24 rfl rfl ?_
    refine vr_imulN (q := 26) dX8_takeTelling_25 rfl ⟨by omega, by omega⟩ ?_
    refine vr_iv3 (q := 29) dX8_takeTelling_26 rfl vX8_84 (Nat.le_of_ble_eq_true rfl) ?_
    refine c_hasPlaces hr hl (by omega) (fun c26 => ?_) (fun c26 => ?_)
    · refine vr_if_ne (t := 38) (q := 32) dX8_takeTelling_29 (by decide) rfl (fun _ => ?_) (fun c9 => absurd c9 (by omega))
      refine vr_aload_n (q := 39) dX8_takeTelling_38 rfl rfl ?_
      refine vr_getA (q := 42) dX8_takeTelling_39 rfl fX8_47 rfl ⟨by decide, by decide, rfl⟩ ?_
      refine vr_aload_n (q := 43) dX8_takeTelling_42 rfl rfl ?_
      refine vr_getA (q := 46) dX8_takeTelling_43 rfl fX8_26 rfl ⟨by decide, by decide, rfl⟩ ?_
      refine vr_aload_n (q := 47) dX8_takeTelling_46 rfl rfl ?_
      refine vr_getA (q := 50) dX8_takeTelling_47 rfl fX8_10 rfl ⟨by decide, by decide, rfl⟩ ?_
      refine vr_iload_n (q := 51) dX8_takeTelling_50 rfl rfl ?_
      refine vr_iload_n (q := 52) dX8_takeTelling_51 rfl rfl ?_
      refine vr_iload_n (q := 53) dX8_takeTelling_52 rfl rfl ?_
      refine vr_iv5 (q := 56) dX8_takeTelling_53 rfl vX8_302 (Nat.le_of_ble_eq_true rfl) ?_
      refine c_takeTelling o hr ⟨by omega, by omega⟩ hn (fun c53 hc tc => ?_) (fun c53 hc tc => ?_)
      · refine vr_if_eq (t := 63) (q := 59) dX8_takeTelling_56 (by decide) rfl (fun c9 => absurd c9 (by omega)) (fun _ => ?_)
        refine vr_iconst (q := 60) dX8_takeTelling_59 rfl ⟨by decide, by decide⟩ ?_
        refine vr_goto (q := 65) dX8_takeTelling_60 (by decide) ?_
        refine vr_iret dX8_takeTelling_65 rfl ?_
        first | exact k1 (by omega) | exact k2 (by omega) (by omega) | exact k3 (by omega) (by omega) c53 hc tc | exact k4 (by omega) (by omega) c53 hc tc
      · refine vr_if_eq (t := 63) (q := 59) dX8_takeTelling_56 (by decide) rfl (fun _ => ?_) (fun c9 => absurd c9 (by omega))
        refine vr_ldc (x := -1000001) (q := 65) dX8_takeTelling_63 rfl ⟨by decide, by decide⟩ qX8_69 ?_
        refine vr_iret dX8_takeTelling_65 rfl ?_
        first | exact k1 (by omega) | exact k2 (by omega) (by omega) | exact k3 (by omega) (by omega) c53 hc tc | exact k4 (by omega) (by omega) c53 hc tc
    · refine vr_if_ne (t := 38) (q := 32) dX8_takeTelling_29 (by decide) rfl (fun c9 => absurd c9 (by omega)) (fun _ => ?_)
      refine vr_aload_n (q := 33) dX8_takeTelling_32 rfl rfl ?_
      refine vr_iconst (q := 34) dX8_takeTelling_33 rfl ⟨by decide, by decide⟩ ?_
      refine vr_iv1 (q := 37) dX8_takeTelling_34 rfl vX8_70 (Nat.le_of_ble_eq_true rfl) ?_
      refine c_found ⟨by decide, by decide⟩ ?_
      refine vr_iret dX8_takeTelling_37 rfl ?_
      first | exact k1 (by omega) | exact k2 (by omega) (by omega) | exact k3 (by omega) (by omega) c53 hc tc | exact k4 (by omega) (by omega) c53 hc tc
/-- Euclid, c steps at most: the larger, the smaller -/
def gc_ : Nat → Int → Int → Int
  | 0, l, _ => l
  | c + 1, l, s => if 0 < s then gc_ c s (l - l.tdiv s * s) else l
theorem td_r {l s : Int} (hl : 0 ≤ l) (hs : 0 < s) : 0 ≤ l - l.tdiv s * s ∧ l - l.tdiv s * s < s := by
  rw [Int.tdiv_eq_ediv_of_nonneg hl]
  have h1 := Int.emod_nonneg l (show s ≠ 0 by omega)
  have h2 := Int.emod_lt_of_pos l hs
  have h3 := Int.mul_ediv_add_emod l s
  rw [Int.mul_comm] at h3
  omega
theorem l_common {a b l0 s0 : Int} (kk : Post (some (sv_i (if gc_ 64 l0 s0 < 1 then 1 else gc_ 64 l0 s0))) h) : ∀ (c i : Nat) (l s : Int) (o5 : Option SV_), i + c = 64 → (0 ≤ l ∧ l ≤ 1000000) → (0 ≤ s ∧ s ≤ 1000000) → gc_ 64 l0 s0 = gc_ c l s → V_ g (d + 1) mX8_commonDivisor 15 [some (sv_i a), some (sv_i b), some (sv_i l), some (sv_i s), some (sv_i i), o5] [] h Post := by
  intro c
  induction c with
  | zero =>
    intro i l s o5 hi hl hs e
    have e2 : gc_ 0 l s = l := rfl
    rw [e, e2] at kk
    refine vr_iload (q := 17) dX8_commonDivisor_15 rfl rfl ?_
    refine vr_bipush (q := 19) dX8_commonDivisor_17 rfl ⟨by decide, by decide⟩ (by decide) ?_
    -- at X8.commonDivisor 19: .if_icmp .ge 23
    refine vr_ic_ge (t := 42) (q := 22) dX8_commonDivisor_19 (by decide) rfl (fun _ => ?_) (fun c9 => absurd c9 (by omega))
    refine vr_iload_n (q := 43) dX8_commonDivisor_42 rfl rfl ?_
    refine vr_iconst (q := 44) dX8_commonDivisor_43 rfl ⟨by decide, by decide⟩ ?_
    refine vr_is2 (q := 47) dX8_commonDivisor_44 rfl vX8_305 (Nat.le_of_ble_eq_true rfl) ?_
    refine c_max ?_
    refine vr_iret dX8_commonDivisor_47 rfl ?_
    first | exact kk | (exfalso; omega) | (repeat (first | exact kk | rw [if_pos (by omega)] at kk | rw [if_neg (by omega)] at kk))
  | succ c ih =>
    intro i l s o5 hi hl hs e
    have e2 : gc_ (c + 1) l s = if 0 < s then gc_ c s (l - l.tdiv s * s) else l := rfl
    refine vr_iload (q := 17) dX8_commonDivisor_15 rfl rfl ?_
    refine vr_bipush (q := 19) dX8_commonDivisor_17 rfl ⟨by decide, by decide⟩ (by decide) ?_
    -- at X8.commonDivisor 19: .if_icmp .ge 23
    refine vr_ic_ge (t := 42) (q := 22) dX8_commonDivisor_19 (by decide) rfl (fun c9 => absurd c9 (by omega)) (fun _ => ?_)
    refine vr_iload_n (q := 23) dX8_commonDivisor_22 rfl rfl ?_
    -- at X8.commonDivisor 23: .ifCond .le 19
    refine vr_if_le (t := 42) (q := 26) dX8_commonDivisor_23 (by decide) rfl (fun c1 => ?_) (fun c1 => ?_)
    · rw [if_neg (by omega)] at e2
      rw [e, e2] at kk
      refine vr_iload_n (q := 43) dX8_commonDivisor_42 rfl rfl ?_
      refine vr_iconst (q := 44) dX8_commonDivisor_43 rfl ⟨by decide, by decide⟩ ?_
      refine vr_is2 (q := 47) dX8_commonDivisor_44 rfl vX8_305 (Nat.le_of_ble_eq_true rfl) ?_
      refine c_max ?_
      refine vr_iret dX8_commonDivisor_47 rfl ?_
      first | exact kk | (exfalso; omega) | (repeat (first | exact kk | rw [if_pos (by omega)] at kk | rw [if_neg (by omega)] at kk))
    · have r := td_r hl.1 (show 0 < s by omega)
      rw [if_pos (by omega)] at e2
      refine vr_iload_n (q := 27) dX8_commonDivisor_26 rfl rfl ?_
      refine vr_iload_n (q := 28) dX8_commonDivisor_27 rfl rfl ?_
      refine vr_irem (q := 29) dX8_commonDivisor_28 rfl (by omega) (fun _ _ => ⟨by omega, by omega⟩) ?_
      refine vr_istore (q := 31) dX8_commonDivisor_29 rfl (Nat.le_of_ble_eq_true rfl) rfl rfl ?_
      refine vr_iload_n (q := 32) dX8_commonDivisor_31 rfl rfl ?_
      refine vr_istore_n (q := 33) dX8_commonDivisor_32 rfl rfl (Nat.le_of_ble_eq_true rfl) rfl rfl ?_
      refine vr_iload (q := 35) dX8_commonDivisor_33 rfl rfl ?_
      refine vr_istore_n (q := 36) dX8_commonDivisor_35 rfl rfl (Nat.le_of_ble_eq_true rfl) rfl rfl ?_
      refine vr_iinc (q := 39) dX8_commonDivisor_36 rfl rfl ⟨by omega, by omega⟩ (Nat.le_of_ble_eq_true rfl) rfl rfl ?_
      refine vr_goto (q := 15) dX8_commonDivisor_39 (by decide) ?_
      -- at X8.commonDivisor 15: .iload 4
      exact ih (i + 1) s _ _ (by omega) hs ⟨by omega, by omega⟩ (e.trans e2)
theorem c_common {a b : Int} (ha : 0 ≤ a ∧ a ≤ 1000000) (hb : 0 ≤ b ∧ b ≤ 1000000) (kk : Post (some (sv_i (if gc_ 64 (if a < b then b else a) (if b < a then b else a) < 1 then 1 else gc_ 64 (if a < b then b else a) (if b < a then b else a)))) h) : Ctr_ g (d + 1) mX8_commonDivisor [sv_i a, sv_i b] h Post := by
  refine V_mk (by decide +kernel) (Or.inr (Or.inl ⟨rfl, rfl⟩)) (Nat.le_of_ble_eq_true rfl) (by simp [sv_c]) ?_
  show V_ _ _ _ 0 [_, _, _, _, _, _] [] _ _
  refine vr_iload_n (q := 1) dX8_commonDivisor_0 rfl rfl ?_
  refine vr_iload_n (q := 2) dX8_commonDivisor_1 rfl rfl ?_
  refine vr_is2 (q := 5) dX8_commonDivisor_2 rfl vX8_305 (Nat.le_of_ble_eq_true rfl) ?_
  refine c_max ?_
  refine vr_istore_n (q := 6) dX8_commonDivisor_5 rfl rfl (Nat.le_of_ble_eq_true rfl) rfl rfl ?_
  refine vr_iload_n (q := 7) dX8_commonDivisor_6 rfl rfl ?_
  refine vr_iload_n (q := 8) dX8_commonDivisor_7 rfl rfl ?_
  refine vr_is2 (q := 11) dX8_commonDivisor_8 rfl vX8_310 (Nat.le_of_ble_eq_true rfl) ?_
  refine c_min ?_
  refine vr_istore_n (q := 12) dX8_commonDivisor_11 rfl rfl (Nat.le_of_ble_eq_true rfl) rfl rfl ?_
  refine vr_iconst (q := 13) dX8_commonDivisor_12 rfl ⟨by decide, by decide⟩ ?_
  refine vr_istore (q := 15) dX8_commonDivisor_13 rfl (Nat.le_of_ble_eq_true rfl) rfl rfl ?_
  exact l_common kk 64 0 _ _ _ rfl (by split <;> omega) (by split <;> omega) rfl
end PN4_
