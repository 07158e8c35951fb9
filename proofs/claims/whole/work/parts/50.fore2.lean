/-- but for what foretelling scratches, all is as it was -/
def fk_ (h hc : SH_) : Prop := ∀ a, (a < 46 ∨ 65 < a) → hc a = h a
theorem fk_r (h : SH_) : fk_ h h := fun _ _ => rfl
theorem fk_s {h hc : SH_} {a b v : Int} (ha : 46 ≤ a ∧ a ≤ 65) (k : fk_ h hc) : fk_ h (hs_ hc a b v) := fun x hx => by rw [hs_k (by omega)]; exact k x hx
theorem fk_m {h hc : SH_} {k : Int} {m : MU_} (hk : 52 ≤ k ∧ k ≤ 64) (f : fk_ h hc) : fk_ h (ms_ hc k m) := fun x hx => by rw [ms_n (by omega) (by omega)]; exact f x hx
theorem fk_t {h hc hd : SH_} (a : fk_ h hc) (b : fk_ hc hd) : fk_ h hd := fun x hx => (b x hx).trans (a x hx)
theorem fk_to {h hc : SH_} (k : fk_ h hc) (o : to_ h) : to_ hc := to_k (fun a _ _ => k a (by omega)) o
theorem fk_tf {h hc : SH_} (k : fk_ h hc) : tf_ hc = tf_ h := tf_k (fun a _ _ => k a (by omega))
/-- whether a told ahead brings b in -/
def bi_ (F : TF_) (m : MU_) (a b : Int) : Int := if nl_ F m b = 0 then nl_ F (hl_ F m a) b else 0
theorem bi_01 (F : TF_) (m : MU_) (a b : Int) : bi_ F m a b = 0 ∨ bi_ F m a b = 1 := by
  unfold bi_
  split
  · exact nb_01 _ _ _ _
  · exact Or.inl rfl
section PF2_
variable {g : SG_} {d : Nat} {h : SH_} {Post : Option SV_ → SH_ → Prop}
theorem c_bringsIn {a b : Int} (o : to_ h) (ha : 0 ≤ a ∧ a < h 7 2) (hb : 0 ≤ b ∧ b < h 7 2) (hm : mo_ 6 (mu_ h 52)) (kk : ∀ hc, fk_ h hc → mu_ hc 52 = mu_ h 52 → Post (some (sv_i (bi_ (tf_ h) (mu_ h 52) a b))) hc) : Ctr_ g (d + 6) mX2_bringsIn [sv_r 4 2 46, sv_i a, sv_i b] h Post := by
  have o1 := o.1
  have la := o.2.2.2.1 a ha.1 ha.2
  have lb := o.2.2.2.1 b hb.1 hb.2
  have k1 : fk_ h (tn_ h 0 a) := fk_m ⟨by decide, by decide⟩ (fk_s ⟨by decide, by decide⟩ (fk_r h))
  have k2 : mu_ (tn_ h 0 a) 52 = mu_ h 52 := by
    unfold tn_
    rw [mu_n (by decide) (by decide) (by decide)]
    unfold mu_
    rw [hs_k (by decide), hs_k (by decide)]
  have e54 : mu_ (tn_ h 0 a) 54 = hl_ (tf_ h) (mu_ h 52) a := mu_ms (hs_ h 48 0 a) 54 (hl_ (tf_ h) (mu_ h 52) a)
  have e8 := k1 8 (by omega)
  have e9 := k1 9 (by omega)
  have e10 := k1 10 (by omega)
  unfold bi_ at kk
  refine V_mk (by decide +kernel) (Or.inr (Or.inr (Or.inl ⟨rfl, rfl⟩))) (Nat.le_of_ble_eq_true rfl) (by simp [sv_c]) ?_
  show V_ _ _ _ 0 [_, _, _] [] _ _
  refine vr_aload_n (q := 1) dX2_bringsIn_0 rfl rfl ?_
  refine vr_getR (q := 4) dX2_bringsIn_1 rfl fX2_13 rfl y_X2_1 (by first | (simp only [Int.reduceAdd]; rfl) | rfl) ?_
  refine vr_iconst (q := 5) dX2_bringsIn_4 rfl ⟨by decide, by decide⟩ ?_
  refine vr_aaMV (q := 6) dX2_bringsIn_5 rfl ⟨by omega, by omega⟩ (by first | (simp only [Int.reduceMul, Int.reduceAdd]; rfl) | rfl) ?_
  refine vr_aload_n (q := 7) dX2_bringsIn_6 rfl rfl ?_
  refine vr_getA (q := 10) dX2_bringsIn_7 rfl fX2_40 rfl ⟨by decide, by decide, rfl⟩ ?_
  refine vr_iload_n (q := 11) dX2_bringsIn_10 rfl rfl ?_
  -- at X2.bringsIn 11: .invokevirtual 62
  refine vr_iv2 (q := 14) dX2_bringsIn_11 rfl vX2_62 (Nat.le_of_ble_eq_true rfl) ?_
  refine c_wouldNod (n := 6) ⟨by omega, by omega⟩ lb hm (by decide) ?_
  refine vr_if_eq (t := 19) (q := 17) dX2_bringsIn_14 (by decide) rfl (fun c1 => ?_) (fun c1 => ?_)
  · have c2 : nl_ (tf_ h) (mu_ h 52) b = 0 := c1
    rw [if_pos c2] at kk
    refine vr_aload_n (q := 20) dX2_bringsIn_19 rfl rfl ?_
    refine vr_iconst (q := 21) dX2_bringsIn_20 rfl ⟨by decide, by decide⟩ ?_
    refine vr_iload_n (q := 22) dX2_bringsIn_21 rfl rfl ?_
    -- at X2.bringsIn 22: .invokevirtual 80
    refine vr_iv2 (q := 25) dX2_bringsIn_22 rfl vX2_80 (Nat.le_of_ble_eq_true rfl) ?_
    refine c_tryNext (n := 6) ⟨by decide, by decide⟩ ⟨by omega, by omega⟩ la hm (by decide) ?_
    refine vr_pop (q := 26) dX2_bringsIn_25 rfl rfl ?_
    refine vr_aload_n (q := 27) dX2_bringsIn_26 rfl rfl ?_
    refine vr_getR (q := 30) dX2_bringsIn_27 rfl fX2_13 rfl y_X2_1 (by first | (simp only [Int.reduceAdd]; rfl) | rfl) ?_
    refine vr_iconst (q := 31) dX2_bringsIn_30 rfl ⟨by decide, by decide⟩ ?_
    refine vr_aaMV (q := 32) dX2_bringsIn_31 rfl ⟨by omega, by omega⟩ (by first | (simp only [Int.reduceMul, Int.reduceAdd]; rfl) | rfl) ?_
    refine vr_aload_n (q := 33) dX2_bringsIn_32 rfl rfl ?_
    refine vr_getA (q := 36) dX2_bringsIn_33 rfl fX2_40 rfl ⟨by decide, by decide, rfl⟩ ?_
    refine vr_iload_n (q := 37) dX2_bringsIn_36 rfl rfl ?_
    -- at X2.bringsIn 37: .invokevirtual 62
    refine vr_iv2 (q := 40) dX2_bringsIn_37 rfl vX2_62 (Nat.le_of_ble_eq_true rfl) ?_
    refine c_wouldNod (n := 7) ⟨by omega, by omega⟩ (by rw [e8, e9, e10]; exact lb) (by rw [e54]; exact he_mo la hm) (by decide) ?_
    rw [e8, e9, e10, e54]
    refine vr_zret dX2_bringsIn_40 rfl ?_ ?_
    · exact nb_01 _ _ _ _
    · exact kk _ k1 k2
  · have c2 : ¬ nl_ (tf_ h) (mu_ h 52) b = 0 := c1
    rw [if_neg c2] at kk
    refine vr_iconst (q := 18) dX2_bringsIn_17 rfl ⟨by decide, by decide⟩ ?_
    -- at X2.bringsIn 18: .ireturn
    refine vr_zret dX2_bringsIn_18 rfl ?_ ?_
    · exact Or.inl rfl
    · exact kk _ (fk_r h) rfl
/-- whether a and b help each other with stranger s -/
def hp_ (h : SH_) (s a b : Int) : Int := if ¬ bt_ (h 13 s) a = 0 then 0 else if ¬ bt_ (h 13 s) b = 0 then 0 else if bi_ (tf_ h) (en_ h s) a b = 0 then bi_ (tf_ h) (en_ h s) b a else 1
theorem c_helpEachOther {s a b : Int} (o : to_ h) (hs : 0 ≤ s ∧ s < h 7 3) (ha : 0 ≤ a ∧ a < h 7 2) (hb : 0 ≤ b ∧ b < h 7 2) (kk : ∀ hc, fk_ h hc → Post (some (sv_i (hp_ h s a b))) hc) : Ctr_ g (d + 7) mX2_helpEachOther [sv_r 4 2 46, sv_i s, sv_i a, sv_i b] h Post := by
  have o2 := o.2.1
  have k1 : fk_ h (ms_ h 52 (en_ h s)) := fk_m ⟨by decide, by decide⟩ (fk_r h)
  have o3 := fk_to k1 o
  have e7 := k1 7 (by omega)
  have em := mu_ms h 52 (en_ h s)
  unfold hp_ at kk
  refine V_mk (by decide +kernel) (Or.inr (Or.inr (Or.inl ⟨rfl, rfl⟩))) (Nat.le_of_ble_eq_true rfl) (by simp [sv_c]) ?_
  show V_ _ _ _ 0 [_, _, _, _] [] _ _
  refine vr_aload_n (q := 1) dX2_helpEachOther_0 rfl rfl ?_
  refine vr_getA (q := 4) dX2_helpEachOther_1 rfl fX2_40 rfl ⟨by decide, by decide, rfl⟩ ?_
  refine vr_iload_n (q := 5) dX2_helpEachOther_4 rfl rfl ?_
  refine vr_iload_n (q := 6) dX2_helpEachOther_5 rfl rfl ?_
  -- at X2.helpEachOther 6: .invokevirtual 99
  refine vr_iv2 (q := 9) dX2_helpEachOther_6 rfl vX2_99 (Nat.le_of_ble_eq_true rfl) ?_
  refine c_wasTold ⟨by omega, by omega⟩ (fun c1 => ?_) (fun c1 => ?_)
  · rw [if_pos c1] at kk
    refine vr_if_ne (t := 24) (q := 12) dX2_helpEachOther_9 (by decide) rfl (fun _ => ?_) (fun c9 => absurd c9 (by omega))
    refine vr_iconst (q := 25) dX2_helpEachOther_24 rfl ⟨by decide, by decide⟩ ?_
    -- at X2.helpEachOther 25: .ireturn
    refine vr_zret dX2_helpEachOther_25 rfl ?_ ?_
    · exact Or.inl rfl
    · exact kk _ (fk_r h)
  rw [if_neg (fun z => z c1)] at kk
  refine vr_if_ne (t := 24) (q := 12) dX2_helpEachOther_9 (by decide) rfl (fun c9 => absurd c9 (by omega)) (fun _ => ?_)
  refine vr_aload_n (q := 13) dX2_helpEachOther_12 rfl rfl ?_
  refine vr_getA (q := 16) dX2_helpEachOther_13 rfl fX2_40 rfl ⟨by decide, by decide, rfl⟩ ?_
  refine vr_iload_n (q := 17) dX2_helpEachOther_16 rfl rfl ?_
  refine vr_iload_n (q := 18) dX2_helpEachOther_17 rfl rfl ?_
  -- at X2.helpEachOther 18: .invokevirtual 99
  refine vr_iv2 (q := 21) dX2_helpEachOther_18 rfl vX2_99 (Nat.le_of_ble_eq_true rfl) ?_
  refine c_wasTold ⟨by omega, by omega⟩ (fun c2 => ?_) (fun c2 => ?_)
  · rw [if_pos c2] at kk
    refine vr_if_eq (t := 26) (q := 24) dX2_helpEachOther_21 (by decide) rfl (fun c9 => absurd c9 (by omega)) (fun _ => ?_)
    refine vr_iconst (q := 25) dX2_helpEachOther_24 rfl ⟨by decide, by decide⟩ ?_
    -- at X2.helpEachOther 25: .ireturn
    refine vr_zret dX2_helpEachOther_25 rfl ?_ ?_
    · exact Or.inl rfl
    · exact kk _ (fk_r h)
  rw [if_neg (fun z => z c2)] at kk
  refine vr_if_eq (t := 26) (q := 24) dX2_helpEachOther_21 (by decide) rfl (fun _ => ?_) (fun c9 => absurd c9 (by omega))
  refine vr_aload_n (q := 27) dX2_helpEachOther_26 rfl rfl ?_
  refine vr_iload_n (q := 28) dX2_helpEachOther_27 rfl rfl ?_
  -- at X2.helpEachOther 28: .invokevirtual 49
  refine vr_iv1 (q := 31) dX2_helpEachOther_28 rfl vX2_49 (Nat.le_of_ble_eq_true rfl) ?_
  refine c_mindOf o hs ?_
  refine vr_pop (q := 32) dX2_helpEachOther_31 rfl rfl ?_
  refine vr_aload_n (q := 33) dX2_helpEachOther_32 rfl rfl ?_
  refine vr_iload_n (q := 34) dX2_helpEachOther_33 rfl rfl ?_
  refine vr_iload_n (q := 35) dX2_helpEachOther_34 rfl rfl ?_
  -- at X2.helpEachOther 35: .invokevirtual 102
  refine vr_iv2 (q := 38) dX2_helpEachOther_35 rfl vX2_102 (Nat.le_of_ble_eq_true rfl) ?_
  refine c_bringsIn o3 (by rw [e7]; exact ha) (by rw [e7]; exact hb) (by rw [em]; exact en_mo o hs) (fun h1 f1 m1 => ?_)
  rw [em] at m1
  rw [em, fk_tf k1]
  have k2 := fk_t k1 f1
  have o4 := fk_to k2 o
  refine vr_if_ne (t := 50) (q := 41) dX2_helpEachOther_38 (by decide) rfl (fun c3 => ?_) (fun c3 => ?_)
  · rw [if_neg c3] at kk
    refine vr_iconst (q := 51) dX2_helpEachOther_50 rfl ⟨by decide, by decide⟩ ?_
    refine vr_goto (q := 55) dX2_helpEachOther_51 (by decide) ?_
    -- at X2.helpEachOther 55: .ireturn
    refine vr_zret dX2_helpEachOther_55 rfl ?_ ?_
    · exact Or.inr rfl
    · exact kk _ k2
  · rw [if_pos c3] at kk
    refine vr_aload_n (q := 42) dX2_helpEachOther_41 rfl rfl ?_
    refine vr_iload_n (q := 43) dX2_helpEachOther_42 rfl rfl ?_
    refine vr_iload_n (q := 44) dX2_helpEachOther_43 rfl rfl ?_
    -- at X2.helpEachOther 44: .invokevirtual 102
    refine vr_iv2 (q := 47) dX2_helpEachOther_44 rfl vX2_102 (Nat.le_of_ble_eq_true rfl) ?_
    refine c_bringsIn o4 (by rw [k2 7 (by omega)]; exact hb) (by rw [k2 7 (by omega)]; exact ha) (by rw [m1]; exact en_mo o hs) (fun h2 f2 m2 => ?_)
    rw [m1, fk_tf k2]
    refine vr_if_eq (t := 54) (q := 50) dX2_helpEachOther_47 (by decide) rfl (fun c4 => ?_) (fun c4 => ?_)
    · rw [c4] at kk
      refine vr_iconst (q := 55) dX2_helpEachOther_54 rfl ⟨by decide, by decide⟩ ?_
      -- at X2.helpEachOther 55: .ireturn
      refine vr_zret dX2_helpEachOther_55 rfl ?_ ?_
      · exact Or.inl rfl
      · exact kk _ (fk_t k2 f2)
    · have c5 : bi_ (tf_ h) (en_ h s) b a = 1 := by
        rcases bi_01 (tf_ h) (en_ h s) b a with z | z
        · exact absurd z c4
        · exact z
      rw [c5] at kk
      refine vr_iconst (q := 51) dX2_helpEachOther_50 rfl ⟨by decide, by decide⟩ ?_
      refine vr_goto (q := 55) dX2_helpEachOther_51 (by decide) ?_
      -- at X2.helpEachOther 55: .ireturn
      refine vr_zret dX2_helpEachOther_55 rfl ?_ ?_
      · exact Or.inr rfl
      · exact kk _ (fk_t k2 f2)
/-- a row's telling lies ready: n lies, their nods -/
def tt_ (h : SH_) (p n : Int) (hc : SH_) : Prop := fk_ h hc ∧ hc 46 8 = n ∧ ∀ t, 0 ≤ t → t < n → hc 50 t = h 4 (p + 2 * t) ∧ hc 51 t = h 4 (p + 2 * t + 1)
theorem l_takeTelling {r i n : Int} (o : to_ h) (hr : 0 ≤ r ∧ r < 8) (hi : 0 ≤ i ∧ i + 2 * n ≤ 40) (hn : 0 ≤ n ∧ n ≤ 6) (kt : (∀ t, 0 ≤ t → t < n → 0 ≤ h 4 (r * 40 + i + 2 * t) ∧ h 4 (r * 40 + i + 2 * t) < h 7 2) → ∀ hc, tt_ h (r * 40 + i) n hc → Post (some (sv_i 1)) hc) (kf : ¬ (∀ t, 0 ≤ t → t < n → 0 ≤ h 4 (r * 40 + i + 2 * t) ∧ h 4 (r * 40 + i + 2 * t) < h 7 2) → ∀ hc, fk_ h hc → Post (some (sv_i 0)) hc) : ∀ (m j : Nat) (hc : SH_) (o6 : Option SV_), (j : Int) + m = n → (∀ t : Int, 0 ≤ t → t < j → 0 ≤ h 4 (r * 40 + i + 2 * t) ∧ h 4 (r * 40 + i + 2 * t) < h 7 2) → fk_ h hc → (∀ t : Int, 0 ≤ t → t < j → hc 50 t = h 4 (r * 40 + i + 2 * t) ∧ hc 51 t = h 4 (r * 40 + i + 2 * t + 1)) → V_ g (d + 1) mX2_takeTelling 3 [some (sv_r 4 2 46), some (sv_r 4 5 1), some (sv_i r), some (sv_i i), some (sv_i n), some (sv_i j), o6] [] hc Post := by
  intro m
  induction m with
  | zero =>
    intro j hc o6 hj hall hk hI
    have ej : (j : Int) = n := by omega
    rw [ej] at hall hI
    refine vr_iload (q := 5) dX2_takeTelling_3 rfl rfl ?_
    refine vr_iload (q := 7) dX2_takeTelling_5 rfl rfl ?_
    -- at X2.takeTelling 7: .if_icmp .ge 65
    refine vr_ic_ge (t := 72) (q := 10) dX2_takeTelling_7 (by decide) rfl (fun _ => ?_) (fun c9 => absurd c9 (by omega))
    refine vr_aload_n (q := 73) dX2_takeTelling_72 rfl rfl ?_
    refine vr_iload (q := 75) dX2_takeTelling_73 rfl rfl ?_
    refine vr_put (ji := 8) (q := 78) dX2_takeTelling_75 rfl pX2_37 rfl rfl ?_
    refine vr_iconst (q := 79) dX2_takeTelling_78 rfl ⟨by decide, by decide⟩ ?_
    -- at X2.takeTelling 79: .ireturn
    refine vr_zret dX2_takeTelling_79 rfl ?_ ?_
    · exact Or.inr rfl
    · refine kt hall _ ⟨fk_s ⟨by decide, by decide⟩ hk, hs_e _ _ _ _, fun t t0 t1 => ?_⟩
      rw [hs_k (by decide), hs_k (by decide)]
      exact hI t t0 t1
  | succ m ih =>
    intro j hc o6 hj hall hk hI
    have e4 := hk 4 (by omega)
    have e7 := hk 7 (by omega)
    have ep : r * 40 + (i + 2 * (j : Int)) = r * 40 + i + 2 * (j : Int) := by omega
    have ep1 : r * 40 + (i + 2 * (j : Int) + 1) = r * 40 + i + 2 * (j : Int) + 1 := by omega
    refine vr_iload (q := 5) dX2_takeTelling_3 rfl rfl ?_
    refine vr_iload (q := 7) dX2_takeTelling_5 rfl rfl ?_
    -- at X2.takeTelling 7: .if_icmp .ge 65
    refine vr_ic_ge (t := 72) (q := 10) dX2_takeTelling_7 (by decide) rfl (fun c9 => absurd c9 (by omega)) (fun _ => ?_)
    refine vr_aload_n (q := 11) dX2_takeTelling_10 rfl rfl ?_
    refine vr_iload_n (q := 12) dX2_takeTelling_11 rfl rfl ?_
    refine vr_iload_n (q := 13) dX2_takeTelling_12 rfl rfl ?_
    refine vr_iconst (q := 14) dX2_takeTelling_13 rfl ⟨by decide, by decide⟩ ?_
    refine vr_iload (q := 16) dX2_takeTelling_14 rfl rfl ?_
    refine vr_imulN (q := 17) dX2_takeTelling_16 rfl ⟨by omega, by omega⟩ ?_
    refine vr_iaddN (q := 18) dX2_takeTelling_17 rfl ⟨by omega, by omega⟩ ?_
    -- at X2.takeTelling 18: .invokevirtual 105
    refine vr_iv2 (q := 21) dX2_takeTelling_18 rfl vX2_105 (Nat.le_of_ble_eq_true rfl) ?_
    refine c_itemAt hr ⟨by omega, by omega⟩ ?_
    rw [e4, ep]
    refine vr_istore (q := 23) dX2_takeTelling_21 rfl (Nat.le_of_ble_eq_true rfl) rfl rfl ?_
    refine vr_aload_n (q := 24) dX2_takeTelling_23 rfl rfl ?_
    refine vr_getA (q := 27) dX2_takeTelling_24 rfl fX2_40 rfl ⟨by decide, by decide, rfl⟩ ?_
    refine vr_iload (q := 29) dX2_takeTelling_27 rfl rfl ?_
    -- at X2.takeTelling 29: .invokevirtual 111
    refine vr_iv1 (q := 32) dX2_takeTelling_29 rfl vX2_111 (Nat.le_of_ble_eq_true rfl) ?_
    refine c_hasLie (fun c1 => ?_) (fun c1 => ?_)
    · rw [e7] at c1
      refine vr_if_ne (t := 37) (q := 35) dX2_takeTelling_32 (by decide) rfl (fun _ => ?_) (fun c9 => absurd c9 (by omega))
      refine vr_aload_n (q := 38) dX2_takeTelling_37 rfl rfl ?_
      refine vr_getR (q := 41) dX2_takeTelling_38 rfl fX2_31 rfl y_X2_6 (by first | (simp only [Int.reduceAdd]; rfl) | rfl) ?_
      refine vr_iload (q := 43) dX2_takeTelling_41 rfl rfl ?_
      refine vr_iload (q := 45) dX2_takeTelling_43 rfl rfl ?_
      refine vr_iast (q := 46) dX2_takeTelling_45 rfl ⟨by omega, by omega⟩ ?_
      refine vr_aload_n (q := 47) dX2_takeTelling_46 rfl rfl ?_
      refine vr_getR (q := 50) dX2_takeTelling_47 rfl fX2_34 rfl y_X2_7 (by first | (simp only [Int.reduceAdd]; rfl) | rfl) ?_
      refine vr_iload (q := 52) dX2_takeTelling_50 rfl rfl ?_
      refine vr_aload_n (q := 53) dX2_takeTelling_52 rfl rfl ?_
      refine vr_iload_n (q := 54) dX2_takeTelling_53 rfl rfl ?_
      refine vr_iload_n (q := 55) dX2_takeTelling_54 rfl rfl ?_
      refine vr_iconst (q := 56) dX2_takeTelling_55 rfl ⟨by decide, by decide⟩ ?_
      refine vr_iload (q := 58) dX2_takeTelling_56 rfl rfl ?_
      refine vr_imulN (q := 59) dX2_takeTelling_58 rfl ⟨by omega, by omega⟩ ?_
      refine vr_iaddN (q := 60) dX2_takeTelling_59 rfl ⟨by omega, by omega⟩ ?_
      refine vr_iconst (q := 61) dX2_takeTelling_60 rfl ⟨by decide, by decide⟩ ?_
      refine vr_iaddN (q := 62) dX2_takeTelling_61 rfl ⟨by omega, by omega⟩ ?_
      -- at X2.takeTelling 62: .invokevirtual 105
      refine vr_iv2 (q := 65) dX2_takeTelling_62 rfl vX2_105 (Nat.le_of_ble_eq_true rfl) ?_
      refine c_itemAt hr ⟨by omega, by omega⟩ ?_
      rw [hs_k (by decide), e4, ep1]
      refine vr_iast (q := 66) dX2_takeTelling_65 rfl ⟨by omega, by omega⟩ ?_
      refine vr_iinc (q := 69) dX2_takeTelling_66 rfl rfl ⟨by omega, by omega⟩ (Nat.le_of_ble_eq_true rfl) rfl rfl ?_
      refine vr_goto (q := 3) dX2_takeTelling_69 (by decide) ?_
      -- at X2.takeTelling 3: .iload 5
      refine ih (j + 1) _ _ (by omega) (fun t t0 t1 => ?_) (fk_s ⟨by decide, by decide⟩ (fk_s ⟨by decide, by decide⟩ hk)) (fun t t0 t1 => ?_)
      · by_cases ht : t = j
        · rw [ht]; exact c1
        · exact hall t t0 (by omega)
      · by_cases ht : t = j
        · subst ht
          rw [hs_k (a := 50) (by decide), hs_e, hs_e]
          exact ⟨rfl, rfl⟩
        · rw [hs_k (a := 50) (by decide), hs_n (by omega), hs_n (by omega), hs_k (a := 51) (by decide)]
          exact hI t t0 (by omega)
    · rw [e7] at c1
      refine vr_if_ne (t := 37) (q := 35) dX2_takeTelling_32 (by decide) rfl (fun c9 => absurd c9 (by omega)) (fun _ => ?_)
      refine vr_iconst (q := 36) dX2_takeTelling_35 rfl ⟨by decide, by decide⟩ ?_
      -- at X2.takeTelling 36: .ireturn
      refine vr_zret dX2_takeTelling_36 rfl ?_ ?_
      · exact Or.inl rfl
      · exact kf (fun z => c1 (z j (by omega) (by omega))) _ hk
theorem c_takeTelling {r i n : Int} (o : to_ h) (hr : 0 ≤ r ∧ r < 8) (hi : 0 ≤ i ∧ i + 2 * n ≤ 40) (hn : 0 ≤ n ∧ n ≤ 6) (kt : (∀ t, 0 ≤ t → t < n → 0 ≤ h 4 (r * 40 + i + 2 * t) ∧ h 4 (r * 40 + i + 2 * t) < h 7 2) → ∀ hc, tt_ h (r * 40 + i) n hc → Post (some (sv_i 1)) hc) (kf : ¬ (∀ t, 0 ≤ t → t < n → 0 ≤ h 4 (r * 40 + i + 2 * t) ∧ h 4 (r * 40 + i + 2 * t) < h 7 2) → ∀ hc, fk_ h hc → Post (some (sv_i 0)) hc) : Ctr_ g (d + 1) mX2_takeTelling [sv_r 4 2 46, sv_r 4 5 1, sv_i r, sv_i i, sv_i n] h Post := by
  refine V_mk (by decide +kernel) (Or.inr (Or.inr (Or.inl ⟨rfl, rfl⟩))) (Nat.le_of_ble_eq_true rfl) (by simp [sv_c]) ?_
  show V_ _ _ _ 0 [_, _, _, _, _, _, _] [] _ _
  refine vr_iconst (q := 1) dX2_takeTelling_0 rfl ⟨by decide, by decide⟩ ?_
  refine vr_istore (q := 3) dX2_takeTelling_1 rfl (Nat.le_of_ble_eq_true rfl) rfl rfl ?_
  -- at X2.takeTelling 3: .iload 5
  exact l_takeTelling o hr hi hn kt kf n.toNat 0 h _ (by omega) (fun t t0 t1 => absurd t1 (by omega)) (fk_r h) (fun t t0 t1 => absurd t1 (by omega))
/-- whether it goes so: k more lies from t on -/
def gs_ (F : TF_) (L N : Int → Int) : Nat → Int → MU_ → Int
  | 0, _, _ => 1
  | k + 1, t, m => if nl_ F m (L t) = N t then gs_ F L N k (t + 1) (hl_ F m (L t)) else 0
theorem l_goesSo {s tr db n : Int} (o : to_ h) (hn : 0 ≤ n ∧ n ≤ 6) (e8 : h 46 8 = n) (hL : ∀ t, 0 ≤ t → t < n → 0 ≤ h 50 t ∧ h 50 t < h 7 2) : ∀ (k j : Nat) (m : MU_) (o6 : Option SV_), (j : Int) + k = n → mo_ (6 + j) m → (∀ m2, Post (some (sv_i (gs_ (tf_ h) (h 50) (h 51) k j m))) (ms_ h 52 m2)) → V_ g (d + 5) mX2_goesSo 22 [some (sv_r 4 2 46), some (sv_i s), some (sv_i tr), some (sv_i db), some (sv_r 4 3 52), some (sv_i j), o6] [] (ms_ h 52 m) Post := by
  intro k
  induction k with
  | zero =>
    intro j m o6 hj hm kk
    have e46 : ms_ h 52 m 46 = h 46 := ms_lo (by decide) (by decide)
    refine vr_iload (q := 24) dX2_goesSo_22 rfl rfl ?_
    refine vr_aload_n (q := 25) dX2_goesSo_24 rfl rfl ?_
    refine vr_getV (ji := 8) (q := 28) dX2_goesSo_25 rfl fX2_37 rfl rfl (by rw [e46, e8]) ?_
    -- at X2.goesSo 28: .if_icmp .ge 49
    refine vr_ic_ge (t := 77) (q := 31) dX2_goesSo_28 (by decide) rfl (fun _ => ?_) (fun c9 => absurd c9 (by omega))
    refine vr_iconst (q := 78) dX2_goesSo_77 rfl ⟨by decide, by decide⟩ ?_
    -- at X2.goesSo 78: .ireturn
    refine vr_zret dX2_goesSo_78 rfl ?_ ?_
    · exact Or.inr rfl
    · exact kk m
  | succ k ih =>
    intro j m o6 hj hm kk
    have o1 := o.1
    have e46 : ms_ h 52 m 46 = h 46 := ms_lo (by decide) (by decide)
    have f8 : ms_ h 52 m 8 = h 8 := ms_lo (by decide) (by decide)
    have f9 : ms_ h 52 m 9 = h 9 := ms_lo (by decide) (by decide)
    have f10 : ms_ h 52 m 10 = h 10 := ms_lo (by decide) (by decide)
    have hl := hL j (by omega) (by omega)
    have hlo := o.2.2.2.1 (h 50 j) hl.1 hl.2
    have e : gs_ (tf_ h) (h 50) (h 51) (k + 1) j m = if nl_ (tf_ h) m (h 50 j) = h 51 j then gs_ (tf_ h) (h 50) (h 51) k (j + 1) (hl_ (tf_ h) m (h 50 j)) else 0 := rfl
    have hm2 : mo_ (6 + ((j + 1 : Nat) : Int)) (hl_ (tf_ h) m (h 50 j)) := by
      have z := he_mo (b := nl_ (tf_ h) m (h 50 j)) hlo hm
      rw [show (6 : Int) + ((j + 1 : Nat) : Int) = 6 + (j : Int) + 1 by omega]
      exact z
    rw [e] at kk
    refine vr_iload (q := 24) dX2_goesSo_22 rfl rfl ?_
    refine vr_aload_n (q := 25) dX2_goesSo_24 rfl rfl ?_
    refine vr_getV (ji := 8) (q := 28) dX2_goesSo_25 rfl fX2_37 rfl rfl (by rw [e46, e8]) ?_
    -- at X2.goesSo 28: .if_icmp .ge 49
    refine vr_ic_ge (t := 77) (q := 31) dX2_goesSo_28 (by decide) rfl (fun c9 => absurd c9 (by omega)) (fun _ => ?_)
    refine vr_aload (q := 33) dX2_goesSo_31 rfl rfl ?_
    refine vr_aload_n (q := 34) dX2_goesSo_33 rfl rfl ?_
    refine vr_getA (q := 37) dX2_goesSo_34 rfl fX2_40 rfl ⟨by decide, by decide, rfl⟩ ?_
    refine vr_aload_n (q := 38) dX2_goesSo_37 rfl rfl ?_
    refine vr_getR (q := 41) dX2_goesSo_38 rfl fX2_31 rfl y_X2_6 (by first | (simp only [Int.reduceAdd]; rfl) | rfl) ?_
    refine vr_iload (q := 43) dX2_goesSo_41 rfl rfl ?_
    refine vr_ialdV (q := 44) dX2_goesSo_43 rfl ⟨by omega, by omega⟩ (by rw [ms_lo (by decide) (by decide)]) ?_
    -- at X2.goesSo 44: .invokevirtual 88
    refine vr_iv2 (q := 47) dX2_goesSo_44 rfl vX2_88 (Nat.le_of_ble_eq_true rfl) ?_
    refine c_hear (n := 6 + j) ⟨by omega, by omega⟩ (by decide) (by rw [f8, f9, f10]; exact hlo) (by rw [mu_ms]; exact hm) (by omega) ?_
    rw [f8, f9, f10, mu_ms, ms_ms]
    have hx : ∀ x : Int, x = nl_ (tf_ h) m (h 50 j) → V_ g (d + 5) mX2_goesSo 55 [some (sv_r 4 2 46), some (sv_i s), some (sv_i tr), some (sv_i db), some (sv_r 4 3 52), some (sv_i j), o6] [sv_i x] (ms_ h 52 (hl_ (tf_ h) m (h 50 j))) Post := by
      intro x hx
      refine vr_istore (q := 57) dX2_goesSo_55 rfl (Nat.le_of_ble_eq_true rfl) rfl rfl ?_
      refine vr_iload (q := 59) dX2_goesSo_57 rfl rfl ?_
      refine vr_aload_n (q := 60) dX2_goesSo_59 rfl rfl ?_
      refine vr_getR (q := 63) dX2_goesSo_60 rfl fX2_34 rfl y_X2_7 (by first | (simp only [Int.reduceAdd]; rfl) | rfl) ?_
      refine vr_iload (q := 65) dX2_goesSo_63 rfl rfl ?_
      refine vr_ialdV (q := 66) dX2_goesSo_65 rfl ⟨by omega, by omega⟩ (by rw [ms_lo (by decide) (by decide)]) ?_
      -- at X2.goesSo 66: .if_icmp .eq 5
      refine vr_ic_eq (t := 71) (q := 69) dX2_goesSo_66 (by decide) rfl (fun c1 => ?_) (fun c1 => ?_)
      · rw [hx] at c1
        rw [if_pos c1] at kk
        refine vr_iinc (q := 74) dX2_goesSo_71 rfl rfl ⟨by omega, by omega⟩ (Nat.le_of_ble_eq_true rfl) rfl rfl ?_
        refine vr_goto (q := 22) dX2_goesSo_74 (by decide) ?_
        -- at X2.goesSo 22: .iload 5
        exact ih (j + 1) _ _ (by omega) hm2 kk
      · rw [hx] at c1
        rw [if_neg c1] at kk
        refine vr_iconst (q := 70) dX2_goesSo_69 rfl ⟨by decide, by decide⟩ ?_
        -- at X2.goesSo 70: .ireturn
        refine vr_zret dX2_goesSo_70 rfl ?_ ?_
        · exact Or.inl rfl
        · exact kk _
    refine vr_if_eq (t := 54) (q := 50) dX2_goesSo_47 (by decide) rfl (fun c0 => ?_) (fun c0 => ?_)
    · refine vr_iconst (q := 55) dX2_goesSo_54 rfl ⟨by decide, by decide⟩ ?_
      -- at X2.goesSo 55: .istore 6
      exact hx 0 c0.symm
    · refine vr_iconst (q := 51) dX2_goesSo_50 rfl ⟨by decide, by decide⟩ ?_
      refine vr_goto (q := 55) dX2_goesSo_51 (by decide) ?_
      -- at X2.goesSo 55: .istore 6
      refine hx 1 ?_
      rcases nb_01 (h 8 (h 50 j)) (h 9 (h 50 j)) (h 10 (h 50 j)) m with z | z
      · exact absurd z c0
      · exact z.symm
theorem c_goesSo {s tr db n : Int} (o : to_ h) (hs : 0 ≤ s ∧ s < h 7 3) (ht : 0 ≤ tr ∧ tr ≤ 20) (hb : 0 ≤ db ∧ db < 16) (hn : 0 ≤ n ∧ n ≤ 6) (e8 : h 46 8 = n) (hL : ∀ t, 0 ≤ t → t < n → 0 ≤ h 50 t ∧ h 50 t < h 7 2) (kk : ∀ m2, Post (some (sv_i (gs_ (tf_ h) (h 50) (h 51) n.toNat 0 (tr, db, (en_ h s).2.2)))) (ms_ h 52 m2)) : Ctr_ g (d + 5) mX2_goesSo [sv_r 4 2 46, sv_i s, sv_i tr, sv_i db] h Post := by
  have hm := en_mo o hs
  refine V_mk (by decide +kernel) (Or.inr (Or.inr (Or.inl ⟨rfl, rfl⟩))) (Nat.le_of_ble_eq_true rfl) (by simp [sv_c]) ?_
  show V_ _ _ _ 0 [_, _, _, _, _, _, _] [] _ _
  refine vr_aload_n (q := 1) dX2_goesSo_0 rfl rfl ?_
  refine vr_iload_n (q := 2) dX2_goesSo_1 rfl rfl ?_
  -- at X2.goesSo 2: .invokevirtual 49
  refine vr_iv1 (q := 5) dX2_goesSo_2 rfl vX2_49 (Nat.le_of_ble_eq_true rfl) ?_
  refine c_mindOf o hs ?_
  refine vr_astore (q := 7) dX2_goesSo_5 rfl (Nat.le_of_ble_eq_true rfl) rfl rfl ?_
  refine vr_aload (q := 9) dX2_goesSo_7 rfl rfl ?_
  refine vr_iload_n (q := 10) dX2_goesSo_9 rfl rfl ?_
  refine vr_put (ji := 0) (q := 13) dX2_goesSo_10 rfl pX2_115 rfl rfl ?_
  refine vr_aload (q := 15) dX2_goesSo_13 rfl rfl ?_
  refine vr_iload_n (q := 16) dX2_goesSo_15 rfl rfl ?_
  refine vr_put (ji := 1) (q := 19) dX2_goesSo_16 rfl pX2_118 rfl rfl ?_
  -- at X2.goesSo 19: .iconst 0
  rw [ms_h0, ms_h1]
  refine vr_iconst (q := 20) dX2_goesSo_19 rfl ⟨by decide, by decide⟩ ?_
  refine vr_istore (q := 22) dX2_goesSo_20 rfl (Nat.le_of_ble_eq_true rfl) rfl rfl ?_
  -- at X2.goesSo 22: .iload 5
  exact l_goesSo o hn e8 hL n.toNat 0 _ _ (by omega) ⟨ht, hb, hm.2.2.1, hm.2.2.2⟩ kk
def pw_ : Nat → Int
  | 0 => 1
  | n + 1 => pw_ n * 10
theorem pw_r : ∀ n : Fin 7, 1 ≤ pw_ n ∧ pw_ n ≤ 1000000 := by decide +kernel
theorem pw_b {n : Nat} (h : n ≤ 6) : 1 ≤ pw_ n ∧ pw_ n ≤ 1000000 := pw_r ⟨n, by omega⟩
theorem l_waysInAll {n : Int} (hn : 0 ≤ n ∧ n ≤ 6) (e8 : h 46 8 = n) (kk : Post (some (sv_i (pw_ n.toNat))) h) : ∀ (k j : Nat), (j : Int) + k = n → V_ g d mX2_waysInAll 4 [some (sv_r 4 2 46), some (sv_i (pw_ j)), some (sv_i j)] [] h Post := by
  intro k
  induction k with
  | zero =>
    intro j hj
    rw [show n.toNat = j by omega] at kk
    refine vr_iload_n (q := 5) dX2_waysInAll_4 rfl rfl ?_
    refine vr_aload_n (q := 6) dX2_waysInAll_5 rfl rfl ?_
    refine vr_getV (ji := 8) (q := 9) dX2_waysInAll_6 rfl fX2_37 rfl rfl (e8) ?_
    -- at X2.waysInAll 9: .if_icmp .ge 14
    refine vr_ic_ge (t := 23) (q := 12) dX2_waysInAll_9 (by decide) rfl (fun _ => ?_) (fun c9 => absurd c9 (by omega))
    refine vr_iload_n (q := 24) dX2_waysInAll_23 rfl rfl ?_
    refine vr_iret dX2_waysInAll_24 rfl ?_
    first | exact kk | (exfalso; omega) | (repeat (first | exact kk | rw [if_pos (by omega)] at kk | rw [if_neg (by omega)] at kk))
  | succ k ih =>
    intro j hj
    have b := pw_b (n := j) (by omega)
    refine vr_iload_n (q := 5) dX2_waysInAll_4 rfl rfl ?_
    refine vr_aload_n (q := 6) dX2_waysInAll_5 rfl rfl ?_
    refine vr_getV (ji := 8) (q := 9) dX2_waysInAll_6 rfl fX2_37 rfl rfl (e8) ?_
    -- at X2.waysInAll 9: .if_icmp .ge 14
    refine vr_ic_ge (t := 23) (q := 12) dX2_waysInAll_9 (by decide) rfl (fun c9 => absurd c9 (by omega)) (fun _ => ?_)
    refine vr_iload_n (q := 13) dX2_waysInAll_12 rfl rfl ?_
    refine vr_bipush (q := 15) dX2_waysInAll_13 rfl ⟨by decide, by decide⟩ (by decide) ?_
    refine vr_imulN (q := 16) dX2_waysInAll_15 rfl ⟨by omega, by omega⟩ ?_
    refine vr_istore_n (q := 17) dX2_waysInAll_16 rfl rfl (Nat.le_of_ble_eq_true rfl) rfl rfl ?_
    refine vr_iinc (q := 20) dX2_waysInAll_17 rfl rfl ⟨by omega, by omega⟩ (Nat.le_of_ble_eq_true rfl) rfl rfl ?_
    refine vr_goto (q := 4) dX2_waysInAll_20 (by decide) ?_
    -- at X2.waysInAll 4: .iload_n 2
    exact ih (j + 1) (by omega)
theorem c_waysInAll {n : Int} (hn : 0 ≤ n ∧ n ≤ 6) (e8 : h 46 8 = n) (kk : Post (some (sv_i (pw_ n.toNat))) h) : Ctr_ g d mX2_waysInAll [sv_r 4 2 46] h Post := by
  refine V_mk (by decide +kernel) (Or.inr (Or.inl ⟨rfl, rfl⟩)) (Nat.le_of_ble_eq_true rfl) (by simp [sv_c]) ?_
  show V_ _ _ _ 0 [_, _, _] [] _ _
  refine vr_iconst (q := 1) dX2_waysInAll_0 rfl ⟨by decide, by decide⟩ ?_
  refine vr_istore_n (q := 2) dX2_waysInAll_1 rfl rfl (Nat.le_of_ble_eq_true rfl) rfl rfl ?_
  refine vr_iconst (q := 3) dX2_waysInAll_2 rfl ⟨by decide, by decide⟩ ?_
  refine vr_istore_n (q := 4) dX2_waysInAll_3 rfl rfl (Nat.le_of_ble_eq_true rfl) rfl rfl ?_
  -- at X2.waysInAll 4: .iload_n 2
  exact l_waysInAll hn e8 kk n.toNat 0 (by omega)
end PF2_
