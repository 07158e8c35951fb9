/-- but for what foretelling scratches, all is as it was -/
def fk_ (h hc : SH_) : Prop := ∀ a, (a < 46 ∨ 65 < a) → hc a = h a
theorem fk_r (h : SH_) : fk_ h h := fun _ _ => rfl
theorem fk_s {h hc : SH_} {a b v : Int} (ha : 46 ≤ a ∧ a ≤ 65) (k : fk_ h hc) : fk_ h (hs_ hc a b v) := fun x hx => by rw [hs_k (by omega)]; exact k x hx
theorem fk_m {h hc : SH_} {k : Int} {m : MU_} (hk : 52 ≤ k ∧ k ≤ 64) (f : fk_ h hc) : fk_ h (ms_ hc k m) := fun x hx => by rw [ms_n (by omega) (by omega)]; exact f x hx
theorem fk_t {h hc hd : SH_} (a : fk_ h hc) (b : fk_ hc hd) : fk_ h hd := fun x hx => (b x hx).trans (a x hx)
theorem fk_to {h hc : SH_} (k : fk_ h hc) (o : to_ h) : to_ hc := to_k (fun a _ _ => k a (by omega)) o
theorem fk_tf {h hc : SH_} (k : fk_ h hc) : tf_ hc = tf_ h := tf_k (fun a _ _ => k a (by omega))
/-- whether a told ahead brings b in -/
def bi_ (F : TF_) (m : MU_) (a b : Int) : Int := if nl_ F m b = 0 then nl_ F (hl_ F m a) b else 0
theorem bi_01 (F : TF_) (m : MU_) (a b : Int) : bi_ F m a b = 0 ∨ bi_ F m a b = 1 := by
  unfold bi_
  split
  · exact nb_01 _ _ _ _
  · exact Or.inl rfl
section PF2_
variable {g : SG_} {d : Nat} {h : SH_} {Post : Option SV_ → SH_ → Prop}
theorem c_bringsIn {a b : Int} (o : to_ h) (ha : 0 ≤ a ∧ a < h 7 2) (hb : 0 ≤ b ∧ b < h 7 2) (hm : mo_ 6 (mu_ h 52)) (kk : ∀ hc, fk_ h hc → mu_ hc 52 = mu_ h 52 → Post (some (sv_i (bi_ (tf_ h) (mu_ h 52) a b))) hc) : Ctr_ g (d + 6) mX2_bringsIn [sv_r 4 2 46, sv_r 4 6 7, sv_i a, sv_i b] h Post := by
  have o1 := o.1
  have la := o.2.2.2.1 a ha.1 ha.2
  have lb := o.2.2.2.1 b hb.1 hb.2
  have k1 : fk_ h (tn_ h 0 a) := fk_m ⟨by decide, by decide⟩ (fk_s ⟨by decide, by decide⟩ (fk_r h))
  have k2 : mu_ (tn_ h 0 a) 52 = mu_ h 52 := by
    unfold tn_
    rw [mu_n (by decide) (by decide) (by decide)]
    unfold mu_
    rw [hs_k (by decide), hs_k (by decide)]
  have e54 : mu_ (tn_ h 0 a) 54 = hl_ (tf_ h) (mu_ h 52) a := mu_ms (hs_ h 48 0 a) 54 (hl_ (tf_ h) (mu_ h 52) a)
  have e8 := k1 8 (by omega)
  have e9 := k1 9 (by omega)
  have e10 := k1 10 (by omega)
  unfold bi_ at kk
  refine V_mk (by decide +kernel) (Or.inr (Or.inr (Or.inl ⟨rfl, rfl⟩))) (Nat.le_of_ble_eq_true rfl) (by simp [sv_c]) ?_
  show V_ _ _ _ 0 [_, _, _, _] [] _ _
  refine vr_aload_n (q := 1) dX2_bringsIn_0 rfl rfl ?_
  refine vr_getR (q := 4) dX2_bringsIn_1 rfl fX2_13 rfl y_X2_0 (by first | (simp only [Int.reduceAdd]; rfl) | rfl) ?_
  refine vr_iconst (q := 5) dX2_bringsIn_4 rfl ⟨by decide, by decide⟩ ?_
  refine vr_aaMV (q := 6) dX2_bringsIn_5 rfl ⟨by omega, by omega⟩ (by first | (simp only [Int.reduceMul, Int.reduceAdd]; rfl) | rfl) ?_
  refine vr_aload_n (q := 7) dX2_bringsIn_6 rfl rfl ?_
  refine vr_iload_n (q := 8) dX2_bringsIn_7 rfl rfl ?_
  -- at X2.bringsIn 8: .invokevirtual 58
  refine vr_iv2 (q := 11) dX2_bringsIn_8 rfl vX2_58 (Nat.le_of_ble_eq_true rfl) ?_
  refine c_wouldNod (n := 6) ⟨by omega, by omega⟩ lb hm (by decide) ?_
  refine vr_if_eq (t := 16) (q := 14) dX2_bringsIn_11 (by decide) rfl (fun c1 => ?_) (fun c1 => ?_)
  · have c2 : nl_ (tf_ h) (mu_ h 52) b = 0 := c1
    rw [if_pos c2] at kk
    refine vr_aload_n (q := 17) dX2_bringsIn_16 rfl rfl ?_
    refine vr_aload_n (q := 18) dX2_bringsIn_17 rfl rfl ?_
    refine vr_iconst (q := 19) dX2_bringsIn_18 rfl ⟨by decide, by decide⟩ ?_
    refine vr_iload_n (q := 20) dX2_bringsIn_19 rfl rfl ?_
    -- at X2.bringsIn 20: .invokevirtual 76
    refine vr_iv3 (q := 23) dX2_bringsIn_20 rfl vX2_76 (Nat.le_of_ble_eq_true rfl) ?_
    refine c_tryNext (n := 6) ⟨by decide, by decide⟩ ⟨by omega, by omega⟩ la hm (by decide) ?_
    refine vr_pop (q := 24) dX2_bringsIn_23 rfl rfl ?_
    refine vr_aload_n (q := 25) dX2_bringsIn_24 rfl rfl ?_
    refine vr_getR (q := 28) dX2_bringsIn_25 rfl fX2_13 rfl y_X2_0 (by first | (simp only [Int.reduceAdd]; rfl) | rfl) ?_
    refine vr_iconst (q := 29) dX2_bringsIn_28 rfl ⟨by decide, by decide⟩ ?_
    refine vr_aaMV (q := 30) dX2_bringsIn_29 rfl ⟨by omega, by omega⟩ (by first | (simp only [Int.reduceMul, Int.reduceAdd]; rfl) | rfl) ?_
    refine vr_aload_n (q := 31) dX2_bringsIn_30 rfl rfl ?_
    refine vr_iload_n (q := 32) dX2_bringsIn_31 rfl rfl ?_
    -- at X2.bringsIn 32: .invokevirtual 58
    refine vr_iv2 (q := 35) dX2_bringsIn_32 rfl vX2_58 (Nat.le_of_ble_eq_true rfl) ?_
    refine c_wouldNod (n := 7) ⟨by omega, by omega⟩ (by rw [e8, e9, e10]; exact lb) (by rw [e54]; exact he_mo la hm) (by decide) ?_
    rw [e8, e9, e10, e54]
    refine vr_zret dX2_bringsIn_35 rfl ?_ ?_
    · exact nb_01 _ _ _ _
    · exact kk _ k1 k2
  · have c2 : ¬ nl_ (tf_ h) (mu_ h 52) b = 0 := c1
    rw [if_neg c2] at kk
    refine vr_iconst (q := 15) dX2_bringsIn_14 rfl ⟨by decide, by decide⟩ ?_
    -- at X2.bringsIn 15: .ireturn
    refine vr_zret dX2_bringsIn_15 rfl ?_ ?_
    · exact Or.inl rfl
    · exact kk _ (fk_r h) rfl
/-- whether a and b help each other with stranger s -/
def hp_ (h : SH_) (s a b : Int) : Int := if ¬ bt_ (h 13 s) a = 0 then 0 else if ¬ bt_ (h 13 s) b = 0 then 0 else if bi_ (tf_ h) (en_ h s) a b = 0 then bi_ (tf_ h) (en_ h s) b a else 1
theorem c_helpEachOther {s a b : Int} (o : to_ h) (hs : 0 ≤ s ∧ s < h 7 3) (ha : 0 ≤ a ∧ a < h 7 2) (hb : 0 ≤ b ∧ b < h 7 2) (kk : ∀ hc, fk_ h hc → Post (some (sv_i (hp_ h s a b))) hc) : Ctr_ g (d + 7) mX2_helpEachOther [sv_r 4 2 46, sv_r 4 6 7, sv_i s, sv_i a, sv_i b] h Post := by
  have o2 := o.2.1
  have k1 : fk_ h (ms_ h 52 (en_ h s)) := fk_m ⟨by decide, by decide⟩ (fk_r h)
  have o3 := fk_to k1 o
  have e7 := k1 7 (by omega)
  have em := mu_ms h 52 (en_ h s)
  unfold hp_ at kk
  refine V_mk (by decide +kernel) (Or.inr (Or.inr (Or.inl ⟨rfl, rfl⟩))) (Nat.le_of_ble_eq_true rfl) (by simp [sv_c]) ?_
  show V_ _ _ _ 0 [_, _, _, _, _] [] _ _
  refine vr_aload_n (q := 1) dX2_helpEachOther_0 rfl rfl ?_
  refine vr_iload_n (q := 2) dX2_helpEachOther_1 rfl rfl ?_
  refine vr_iload_n (q := 3) dX2_helpEachOther_2 rfl rfl ?_
  -- at X2.helpEachOther 3: .invokevirtual 96
  refine vr_iv2 (q := 6) dX2_helpEachOther_3 rfl vX2_96 (Nat.le_of_ble_eq_true rfl) ?_
  refine c_wasTold ⟨by omega, by omega⟩ (fun c1 => ?_) (fun c1 => ?_)
  · rw [if_pos c1] at kk
    refine vr_if_ne (t := 19) (q := 9) dX2_helpEachOther_6 (by decide) rfl (fun _ => ?_) (fun c9 => absurd c9 (by omega))
    refine vr_iconst (q := 20) dX2_helpEachOther_19 rfl ⟨by decide, by decide⟩ ?_
    -- at X2.helpEachOther 20: .ireturn
    refine vr_zret dX2_helpEachOther_20 rfl ?_ ?_
    · exact Or.inl rfl
    · exact kk _ (fk_r h)
  rw [if_neg (fun z => z c1)] at kk
  refine vr_if_ne (t := 19) (q := 9) dX2_helpEachOther_6 (by decide) rfl (fun c9 => absurd c9 (by omega)) (fun _ => ?_)
  refine vr_aload_n (q := 10) dX2_helpEachOther_9 rfl rfl ?_
  refine vr_iload_n (q := 11) dX2_helpEachOther_10 rfl rfl ?_
  refine vr_iload (q := 13) dX2_helpEachOther_11 rfl rfl ?_
  -- at X2.helpEachOther 13: .invokevirtual 96
  refine vr_iv2 (q := 16) dX2_helpEachOther_13 rfl vX2_96 (Nat.le_of_ble_eq_true rfl) ?_
  refine c_wasTold ⟨by omega, by omega⟩ (fun c2 => ?_) (fun c2 => ?_)
  · rw [if_pos c2] at kk
    refine vr_if_eq (t := 21) (q := 19) dX2_helpEachOther_16 (by decide) rfl (fun c9 => absurd c9 (by omega)) (fun _ => ?_)
    refine vr_iconst (q := 20) dX2_helpEachOther_19 rfl ⟨by decide, by decide⟩ ?_
    -- at X2.helpEachOther 20: .ireturn
    refine vr_zret dX2_helpEachOther_20 rfl ?_ ?_
    · exact Or.inl rfl
    · exact kk _ (fk_r h)
  rw [if_neg (fun z => z c2)] at kk
  refine vr_if_eq (t := 21) (q := 19) dX2_helpEachOther_16 (by decide) rfl (fun _ => ?_) (fun c9 => absurd c9 (by omega))
  refine vr_aload_n (q := 22) dX2_helpEachOther_21 rfl rfl ?_
  refine vr_aload_n (q := 23) dX2_helpEachOther_22 rfl rfl ?_
  refine vr_iload_n (q := 24) dX2_helpEachOther_23 rfl rfl ?_
  -- at X2.helpEachOther 24: .invokevirtual 45
  refine vr_iv2 (q := 27) dX2_helpEachOther_24 rfl vX2_45 (Nat.le_of_ble_eq_true rfl) ?_
  refine c_mindOf o hs ?_
  refine vr_pop (q := 28) dX2_helpEachOther_27 rfl rfl ?_
  refine vr_aload_n (q := 29) dX2_helpEachOther_28 rfl rfl ?_
  refine vr_aload_n (q := 30) dX2_helpEachOther_29 rfl rfl ?_
  refine vr_iload_n (q := 31) dX2_helpEachOther_30 rfl rfl ?_
  refine vr_iload (q := 33) dX2_helpEachOther_31 rfl rfl ?_
  -- at X2.helpEachOther 33: .invokevirtual 100
  refine vr_iv3 (q := 36) dX2_helpEachOther_33 rfl vX2_100 (Nat.le_of_ble_eq_true rfl) ?_
  refine c_bringsIn o3 (by rw [e7]; exact ha) (by rw [e7]; exact hb) (by rw [em]; exact en_mo o hs) (fun h1 f1 m1 => ?_)
  rw [em] at m1
  rw [em, fk_tf k1]
  have k2 := fk_t k1 f1
  have o4 := fk_to k2 o
  refine vr_if_ne (t := 50) (q := 39) dX2_helpEachOther_36 (by decide) rfl (fun c3 => ?_) (fun c3 => ?_)
  · rw [if_neg c3] at kk
    refine vr_iconst (q := 51) dX2_helpEachOther_50 rfl ⟨by decide, by decide⟩ ?_
    refine vr_goto (q := 55) dX2_helpEachOther_51 (by decide) ?_
    -- at X2.helpEachOther 55: .ireturn
    refine vr_zret dX2_helpEachOther_55 rfl ?_ ?_
    · exact Or.inr rfl
    · exact kk _ k2
  · rw [if_pos c3] at kk
    refine vr_aload_n (q := 40) dX2_helpEachOther_39 rfl rfl ?_
    refine vr_aload_n (q := 41) dX2_helpEachOther_40 rfl rfl ?_
    refine vr_iload (q := 43) dX2_helpEachOther_41 rfl rfl ?_
    refine vr_iload_n (q := 44) dX2_helpEachOther_43 rfl rfl ?_
    -- at X2.helpEachOther 44: .invokevirtual 100
    refine vr_iv3 (q := 47) dX2_helpEachOther_44 rfl vX2_100 (Nat.le_of_ble_eq_true rfl) ?_
    refine c_bringsIn o4 (by rw [k2 7 (by omega)]; exact hb) (by rw [k2 7 (by omega)]; exact ha) (by rw [m1]; exact en_mo o hs) (fun h2 f2 m2 => ?_)
    rw [m1, fk_tf k2]
    refine vr_if_eq (t := 54) (q := 50) dX2_helpEachOther_47 (by decide) rfl (fun c4 => ?_) (fun c4 => ?_)
    · rw [c4] at kk
      refine vr_iconst (q := 55) dX2_helpEachOther_54 rfl ⟨by decide, by decide⟩ ?_
      -- at X2.helpEachOther 55: .ireturn
      refine vr_zret dX2_helpEachOther_55 rfl ?_ ?_
      · exact Or.inl rfl
      · exact kk _ (fk_t k2 f2)
    · have c5 : bi_ (tf_ h) (en_ h s) b a = 1 := by
        rcases bi_01 (tf_ h) (en_ h s) b a with z | z
        · exact absurd z c4
        · exact z
      rw [c5] at kk
      refine vr_iconst (q := 51) dX2_helpEachOther_50 rfl ⟨by decide, by decide⟩ ?_
      refine vr_goto (q := 55) dX2_helpEachOther_51 (by decide) ?_
      -- at X2.helpEachOther 55: .ireturn
      refine vr_zret dX2_helpEachOther_55 rfl ?_ ?_
      · exact Or.inr rfl
      · exact kk _ (fk_t k2 f2)
/-- a row's telling lies ready: n lies, their nods -/
def tt_ (h : SH_) (p n : Int) (hc : SH_) : Prop := fk_ h hc ∧ hc 46 7 = n ∧ ∀ t, 0 ≤ t → t < n → hc 50 t = h 4 (p + 2 * t) ∧ hc 51 t = h 4 (p + 2 * t + 1)
theorem l_takeTelling {r i n : Int} (o : to_ h) (hr : 0 ≤ r ∧ r < 8) (hi : 0 ≤ i ∧ i + 2 * n ≤ 40) (hn : 0 ≤ n ∧ n ≤ 6) (kt : (∀ t, 0 ≤ t → t < n → 0 ≤ h 4 (r * 40 + i + 2 * t) ∧ h 4 (r * 40 + i + 2 * t) < h 7 2) → ∀ hc, tt_ h (r * 40 + i) n hc → Post (some (sv_i 1)) hc) (kf : ¬ (∀ t, 0 ≤ t → t < n → 0 ≤ h 4 (r * 40 + i + 2 * t) ∧ h 4 (r * 40 + i + 2 * t) < h 7 2) → ∀ hc, fk_ h hc → Post (some (sv_i 0)) hc) : ∀ (m j : Nat) (hc : SH_) (o6 : Option SV_), (j : Int) + m = n → (∀ t : Int, 0 ≤ t → t < j → 0 ≤ h 4 (r * 40 + i + 2 * t) ∧ h 4 (r * 40 + i + 2 * t) < h 7 2) → fk_ h hc → (∀ t : Int, 0 ≤ t → t < j → hc 50 t = h 4 (r * 40 + i + 2 * t) ∧ hc 51 t = h 4 (r * 40 + i + 2 * t + 1)) → V_ g (d + 1) mX2_takeTelling 3 [some (sv_r 4 2 46), some (sv_r 4 6 7), some (sv_r 4 5 1), some (sv_i r), some (sv_i i), some (sv_i n), some (sv_i j), o6] [] hc Post := by
  intro m
  induction m with
  | zero =>
    intro j hc o6 hj hall hk hI
    have ej : (j : Int) = n := by omega
    rw [ej] at hall hI
    refine vr_iload (q := 5) dX2_takeTelling_3 rfl rfl ?_
    refine vr_iload (q := 7) dX2_takeTelling_5 rfl rfl ?_
    -- at X2.takeTelling 7: .if_icmp .ge 64
    refine vr_ic_ge (t := 71) (q := 10) dX2_takeTelling_7 (by decide) rfl (fun _ => ?_) (fun c9 => absurd c9 (by omega))
    refine vr_aload_n (q := 72) dX2_takeTelling_71 rfl rfl ?_
    refine vr_iload (q := 74) dX2_takeTelling_72 rfl rfl ?_
    refine vr_put (ji := 7) (q := 77) dX2_takeTelling_74 rfl pX2_37 rfl rfl ?_
    refine vr_iconst (q := 78) dX2_takeTelling_77 rfl ⟨by decide, by decide⟩ ?_
    -- at X2.takeTelling 78: .ireturn
    refine vr_zret dX2_takeTelling_78 rfl ?_ ?_
    · exact Or.inr rfl
    · refine kt hall _ ⟨fk_s ⟨by decide, by decide⟩ hk, hs_e _ _ _ _, fun t t0 t1 => ?_⟩
      rw [hs_k (by decide), hs_k (by decide)]
      exact hI t t0 t1
  | succ m ih =>
    intro j hc o6 hj hall hk hI
    have e4 := hk 4 (by omega)
    have e7 := hk 7 (by omega)
    have ep : r * 40 + (i + 2 * (j : Int)) = r * 40 + i + 2 * (j : Int) := by omega
    have ep1 : r * 40 + (i + 2 * (j : Int) + 1) = r * 40 + i + 2 * (j : Int) + 1 := by omega
    refine vr_iload (q := 5) dX2_takeTelling_3 rfl rfl ?_
    refine vr_iload (q := 7) dX2_takeTelling_5 rfl rfl ?_
    -- at X2.takeTelling 7: .if_icmp .ge 64
    refine vr_ic_ge (t := 71) (q := 10) dX2_takeTelling_7 (by decide) rfl (fun c9 => absurd c9 (by omega)) (fun _ => ?_)
    refine vr_aload_n (q := 11) dX2_takeTelling_10 rfl rfl ?_
    refine vr_iload_n (q := 12) dX2_takeTelling_11 rfl rfl ?_
    refine vr_iload (q := 14) dX2_takeTelling_12 rfl rfl ?_
    refine vr_iconst (q := 15) dX2_takeTelling_14 rfl ⟨by decide, by decide⟩ ?_
    refine vr_iload (q := 17) dX2_takeTelling_15 rfl rfl ?_
    refine vr_imulN (q := 18) dX2_takeTelling_17 rfl ⟨by omega, by omega⟩ ?_
    refine vr_iaddN (q := 19) dX2_takeTelling_18 rfl ⟨by omega, by omega⟩ ?_
    -- at X2.takeTelling 19: .invokevirtual 103
    refine vr_iv2 (q := 22) dX2_takeTelling_19 rfl vX2_103 (Nat.le_of_ble_eq_true rfl) ?_
    refine c_itemAt hr ⟨by omega, by omega⟩ ?_
    rw [e4, ep]
    refine vr_istore (q := 24) dX2_takeTelling_22 rfl (Nat.le_of_ble_eq_true rfl) rfl rfl ?_
    refine vr_aload_n (q := 25) dX2_takeTelling_24 rfl rfl ?_
    refine vr_iload (q := 27) dX2_takeTelling_25 rfl rfl ?_
    -- at X2.takeTelling 27: .invokevirtual 109
    refine vr_iv1 (q := 30) dX2_takeTelling_27 rfl vX2_109 (Nat.le_of_ble_eq_true rfl) ?_
    refine c_hasLie (fun c1 => ?_) (fun c1 => ?_)
    · rw [e7] at c1
      refine vr_if_ne (t := 35) (q := 33) dX2_takeTelling_30 (by decide) rfl (fun _ => ?_) (fun c9 => absurd c9 (by omega))
      refine vr_aload_n (q := 36) dX2_takeTelling_35 rfl rfl ?_
      refine vr_getR (q := 39) dX2_takeTelling_36 rfl fX2_31 rfl y_X2_5 (by first | (simp only [Int.reduceAdd]; rfl) | rfl) ?_
      refine vr_iload (q := 41) dX2_takeTelling_39 rfl rfl ?_
      refine vr_iload (q := 43) dX2_takeTelling_41 rfl rfl ?_
      refine vr_iast (q := 44) dX2_takeTelling_43 rfl ⟨by omega, by omega⟩ ?_
      refine vr_aload_n (q := 45) dX2_takeTelling_44 rfl rfl ?_
      refine vr_getR (q := 48) dX2_takeTelling_45 rfl fX2_34 rfl y_X2_6 (by first | (simp only [Int.reduceAdd]; rfl) | rfl) ?_
      refine vr_iload (q := 50) dX2_takeTelling_48 rfl rfl ?_
      refine vr_aload_n (q := 51) dX2_takeTelling_50 rfl rfl ?_
      refine vr_iload_n (q := 52) dX2_takeTelling_51 rfl rfl ?_
      refine vr_iload (q := 54) dX2_takeTelling_52 rfl rfl ?_
      refine vr_iconst (q := 55) dX2_takeTelling_54 rfl ⟨by decide, by decide⟩ ?_
      refine vr_iload (q := 57) dX2_takeTelling_55 rfl rfl ?_
      refine vr_imulN (q := 58) dX2_takeTelling_57 rfl ⟨by omega, by omega⟩ ?_
      refine vr_iaddN (q := 59) dX2_takeTelling_58 rfl ⟨by omega, by omega⟩ ?_
      refine vr_iconst (q := 60) dX2_takeTelling_59 rfl ⟨by decide, by decide⟩ ?_
      refine vr_iaddN (q := 61) dX2_takeTelling_60 rfl ⟨by omega, by omega⟩ ?_
      -- at X2.takeTelling 61: .invokevirtual 103
      refine vr_iv2 (q := 64) dX2_takeTelling_61 rfl vX2_103 (Nat.le_of_ble_eq_true rfl) ?_
      refine c_itemAt hr ⟨by omega, by omega⟩ ?_
      rw [hs_k (by decide), e4, ep1]
      refine vr_iast (q := 65) dX2_takeTelling_64 rfl ⟨by omega, by omega⟩ ?_
      refine vr_iinc (q := 68) dX2_takeTelling_65 rfl rfl ⟨by omega, by omega⟩ (Nat.le_of_ble_eq_true rfl) rfl rfl ?_
      refine vr_goto (q := 3) dX2_takeTelling_68 (by decide) ?_
      -- at X2.takeTelling 3: .iload 6
      refine ih (j + 1) _ _ (by omega) (fun t t0 t1 => ?_) (fk_s ⟨by decide, by decide⟩ (fk_s ⟨by decide, by decide⟩ hk)) (fun t t0 t1 => ?_)
      · by_cases ht : t = j
        · rw [ht]; exact c1
        · exact hall t t0 (by omega)
      · by_cases ht : t = j
        · subst ht
          rw [hs_k (a := 50) (by decide), hs_e, hs_e]
          exact ⟨rfl, rfl⟩
        · rw [hs_k (a := 50) (by decide), hs_n (by omega), hs_n (by omega), hs_k (a := 51) (by decide)]
          exact hI t t0 (by omega)
    · rw [e7] at c1
      refine vr_if_ne (t := 35) (q := 33) dX2_takeTelling_30 (by decide) rfl (fun c9 => absurd c9 (by omega)) (fun _ => ?_)
      refine vr_iconst (q := 34) dX2_takeTelling_33 rfl ⟨by decide, by decide⟩ ?_
      -- at X2.takeTelling 34: .ireturn
      refine vr_zret dX2_takeTelling_34 rfl ?_ ?_
      · exact Or.inl rfl
      · exact kf (fun z => c1 (z j (by omega) (by omega))) _ hk
theorem c_takeTelling {r i n : Int} (o : to_ h) (hr : 0 ≤ r ∧ r < 8) (hi : 0 ≤ i ∧ i + 2 * n ≤ 40) (hn : 0 ≤ n ∧ n ≤ 6) (kt : (∀ t, 0 ≤ t → t < n → 0 ≤ h 4 (r * 40 + i + 2 * t) ∧ h 4 (r * 40 + i + 2 * t) < h 7 2) → ∀ hc, tt_ h (r * 40 + i) n hc → Post (some (sv_i 1)) hc) (kf : ¬ (∀ t, 0 ≤ t → t < n → 0 ≤ h 4 (r * 40 + i + 2 * t) ∧ h 4 (r * 40 + i + 2 * t) < h 7 2) → ∀ hc, fk_ h hc → Post (some (sv_i 0)) hc) : Ctr_ g (d + 1) mX2_takeTelling [sv_r 4 2 46, sv_r 4 6 7, sv_r 4 5 1, sv_i r, sv_i i, sv_i n] h Post := by
  refine V_mk (by decide +kernel) (Or.inr (Or.inr (Or.inl ⟨rfl, rfl⟩))) (Nat.le_of_ble_eq_true rfl) (by simp [sv_c]) ?_
  show V_ _ _ _ 0 [_, _, _, _, _, _, _, _] [] _ _
  refine vr_iconst (q := 1) dX2_takeTelling_0 rfl ⟨by decide, by decide⟩ ?_
  refine vr_istore (q := 3) dX2_takeTelling_1 rfl (Nat.le_of_ble_eq_true rfl) rfl rfl ?_
  -- at X2.takeTelling 3: .iload 6
  exact l_takeTelling o hr hi hn kt kf n.toNat 0 h _ (by omega) (fun t t0 t1 => absurd t1 (by omega)) (fk_r h) (fun t t0 t1 => absurd t1 (by omega))
/-- whether it goes so: k more lies from t on -/
def gs_ (F : TF_) (L N : Int → Int) : Nat → Int → MU_ → Int
  | 0, _, _ => 1
  | k + 1, t, m => if nl_ F m (L t) = N t then gs_ F L N k (t + 1) (hl_ F m (L t)) else 0
theorem l_goesSo {s tr db n : Int} (o : to_ h) (hn : 0 ≤ n ∧ n ≤ 6) (e8 : h 46 7 = n) (hL : ∀ t, 0 ≤ t → t < n → 0 ≤ h 50 t ∧ h 50 t < h 7 2) : ∀ (k j : Nat) (m : MU_) (o6 : Option SV_), (j : Int) + k = n → mo_ (6 + j) m → (∀ m2, Post (some (sv_i (gs_ (tf_ h) (h 50) (h 51) k j m))) (ms_ h 52 m2)) → V_ g (d + 5) mX2_goesSo 24 [some (sv_r 4 2 46), some (sv_r 4 6 7), some (sv_i s), some (sv_i tr), some (sv_i db), some (sv_r 4 3 52), some (sv_i j), o6] [] (ms_ h 52 m) Post := by
  intro k
  induction k with
  | zero =>
    intro j m o6 hj hm kk
    have e46 : ms_ h 52 m 46 = h 46 := ms_lo (by decide) (by decide)
    refine vr_iload (q := 26) dX2_goesSo_24 rfl rfl ?_
    refine vr_aload_n (q := 27) dX2_goesSo_26 rfl rfl ?_
    refine vr_getV (ji := 7) (q := 30) dX2_goesSo_27 rfl fX2_37 rfl rfl (by rw [e46, e8]) ?_
    -- at X2.goesSo 30: .if_icmp .ge 46
    refine vr_ic_ge (t := 76) (q := 33) dX2_goesSo_30 (by decide) rfl (fun _ => ?_) (fun c9 => absurd c9 (by omega))
    refine vr_iconst (q := 77) dX2_goesSo_76 rfl ⟨by decide, by decide⟩ ?_
    -- at X2.goesSo 77: .ireturn
    refine vr_zret dX2_goesSo_77 rfl ?_ ?_
    · exact Or.inr rfl
    · exact kk m
  | succ k ih =>
    intro j m o6 hj hm kk
    have o1 := o.1
    have e46 : ms_ h 52 m 46 = h 46 := ms_lo (by decide) (by decide)
    have f8 : ms_ h 52 m 8 = h 8 := ms_lo (by decide) (by decide)
    have f9 : ms_ h 52 m 9 = h 9 := ms_lo (by decide) (by decide)
    have f10 : ms_ h 52 m 10 = h 10 := ms_lo (by decide) (by decide)
    have hl := hL j (by omega) (by omega)
    have hlo := o.2.2.2.1 (h 50 j) hl.1 hl.2
    have e : gs_ (tf_ h) (h 50) (h 51) (k + 1) j m = if nl_ (tf_ h) m (h 50 j) = h 51 j then gs_ (tf_ h) (h 50) (h 51) k (j + 1) (hl_ (tf_ h) m (h 50 j)) else 0 := rfl
    have hm2 : mo_ (6 + ((j + 1 : Nat) : Int)) (hl_ (tf_ h) m (h 50 j)) := by
      have z := he_mo (b := nl_ (tf_ h) m (h 50 j)) hlo hm
      rw [show (6 : Int) + ((j + 1 : Nat) : Int) = 6 + (j : Int) + 1 by omega]
      exact z
    rw [e] at kk
    refine vr_iload (q := 26) dX2_goesSo_24 rfl rfl ?_
    refine vr_aload_n (q := 27) dX2_goesSo_26 rfl rfl ?_
    refine vr_getV (ji := 7) (q := 30) dX2_goesSo_27 rfl fX2_37 rfl rfl (by rw [e46, e8]) ?_
    -- at X2.goesSo 30: .if_icmp .ge 46
    refine vr_ic_ge (t := 76) (q := 33) dX2_goesSo_30 (by decide) rfl (fun c9 => absurd c9 (by omega)) (fun _ => ?_)
    refine vr_aload (q := 35) dX2_goesSo_33 rfl rfl ?_
    refine vr_aload_n (q := 36) dX2_goesSo_35 rfl rfl ?_
    refine vr_aload_n (q := 37) dX2_goesSo_36 rfl rfl ?_
    refine vr_getR (q := 40) dX2_goesSo_37 rfl fX2_31 rfl y_X2_5 (by first | (simp only [Int.reduceAdd]; rfl) | rfl) ?_
    refine vr_iload (q := 42) dX2_goesSo_40 rfl rfl ?_
    refine vr_ialdV (q := 43) dX2_goesSo_42 rfl ⟨by omega, by omega⟩ (by rw [ms_lo (by decide) (by decide)]) ?_
    -- at X2.goesSo 43: .invokevirtual 119
    refine vr_iv2 (q := 46) dX2_goesSo_43 rfl vX2_119 (Nat.le_of_ble_eq_true rfl) ?_
    refine c_hear (n := 6 + j) ⟨by omega, by omega⟩ (by decide) (by rw [f8, f9, f10]; exact hlo) (by rw [mu_ms]; exact hm) (by omega) ?_
    rw [f8, f9, f10, mu_ms, ms_ms]
    have hx : ∀ x : Int, x = nl_ (tf_ h) m (h 50 j) → V_ g (d + 5) mX2_goesSo 54 [some (sv_r 4 2 46), some (sv_r 4 6 7), some (sv_i s), some (sv_i tr), some (sv_i db), some (sv_r 4 3 52), some (sv_i j), o6] [sv_i x] (ms_ h 52 (hl_ (tf_ h) m (h 50 j))) Post := by
      intro x hx
      refine vr_istore (q := 56) dX2_goesSo_54 rfl (Nat.le_of_ble_eq_true rfl) rfl rfl ?_
      refine vr_iload (q := 58) dX2_goesSo_56 rfl rfl ?_
      refine vr_aload_n (q := 59) dX2_goesSo_58 rfl rfl ?_
      refine vr_getR (q := 62) dX2_goesSo_59 rfl fX2_34 rfl y_X2_6 (by first | (simp only [Int.reduceAdd]; rfl) | rfl) ?_
      refine vr_iload (q := 64) dX2_goesSo_62 rfl rfl ?_
      refine vr_ialdV (q := 65) dX2_goesSo_64 rfl ⟨by omega, by omega⟩ (by rw [ms_lo (by decide) (by decide)]) ?_
      -- at X2.goesSo 65: .if_icmp .eq 5
      refine vr_ic_eq (t := 70) (q := 68) dX2_goesSo_65 (by decide) rfl (fun c1 => ?_) (fun c1 => ?_)
      · rw [hx] at c1
        rw [if_pos c1] at kk
        refine vr_iinc (q := 73) dX2_goesSo_70 rfl rfl ⟨by omega, by omega⟩ (Nat.le_of_ble_eq_true rfl) rfl rfl ?_
        refine vr_goto (q := 24) dX2_goesSo_73 (by decide) ?_
        -- at X2.goesSo 24: .iload 6
        exact ih (j + 1) _ _ (by omega) hm2 kk
      · rw [hx] at c1
        rw [if_neg c1] at kk
        refine vr_iconst (q := 69) dX2_goesSo_68 rfl ⟨by decide, by decide⟩ ?_
        -- at X2.goesSo 69: .ireturn
        refine vr_zret dX2_goesSo_69 rfl ?_ ?_
        · exact Or.inl rfl
        · exact kk _
    refine vr_if_eq (t := 53) (q := 49) dX2_goesSo_46 (by decide) rfl (fun c0 => ?_) (fun c0 => ?_)
    · refine vr_iconst (q := 54) dX2_goesSo_53 rfl ⟨by decide, by decide⟩ ?_
      -- at X2.goesSo 54: .istore 7
      exact hx 0 c0.symm
    · refine vr_iconst (q := 50) dX2_goesSo_49 rfl ⟨by decide, by decide⟩ ?_
      refine vr_goto (q := 54) dX2_goesSo_50 (by decide) ?_
      -- at X2.goesSo 54: .istore 7
      refine hx 1 ?_
      rcases nb_01 (h 8 (h 50 j)) (h 9 (h 50 j)) (h 10 (h 50 j)) m with z | z
      · exact absurd z c0
      · exact z.symm
theorem c_goesSo {s tr db n : Int} (o : to_ h) (hs : 0 ≤ s ∧ s < h 7 3) (ht : 0 ≤ tr ∧ tr ≤ 20) (hb : 0 ≤ db ∧ db < 16) (hn : 0 ≤ n ∧ n ≤ 6) (e8 : h 46 7 = n) (hL : ∀ t, 0 ≤ t → t < n → 0 ≤ h 50 t ∧ h 50 t < h 7 2) (kk : ∀ m2, Post (some (sv_i (gs_ (tf_ h) (h 50) (h 51) n.toNat 0 (tr, db, (en_ h s).2.2)))) (ms_ h 52 m2)) : Ctr_ g (d + 5) mX2_goesSo [sv_r 4 2 46, sv_r 4 6 7, sv_i s, sv_i tr, sv_i db] h Post := by
  have hm := en_mo o hs
  refine V_mk (by decide +kernel) (Or.inr (Or.inr (Or.inl ⟨rfl, rfl⟩))) (Nat.le_of_ble_eq_true rfl) (by simp [sv_c]) ?_
  show V_ _ _ _ 0 [_, _, _, _, _, _, _, _] [] _ _
  refine vr_aload_n (q := 1) dX2_goesSo_0 rfl rfl ?_
  refine vr_aload_n (q := 2) dX2_goesSo_1 rfl rfl ?_
  refine vr_iload_n (q := 3) dX2_goesSo_2 rfl rfl ?_
  -- at X2.goesSo 3: .invokevirtual 45
  refine vr_iv2 (q := 6) dX2_goesSo_3 rfl vX2_45 (Nat.le_of_ble_eq_true rfl) ?_
  refine c_mindOf o hs ?_
  refine vr_astore (q := 8) dX2_goesSo_6 rfl (Nat.le_of_ble_eq_true rfl) rfl rfl ?_
  refine vr_aload (q := 10) dX2_goesSo_8 rfl rfl ?_
  refine vr_iload_n (q := 11) dX2_goesSo_10 rfl rfl ?_
  refine vr_put (ji := 0) (q := 14) dX2_goesSo_11 rfl pX2_113 rfl rfl ?_
  refine vr_aload (q := 16) dX2_goesSo_14 rfl rfl ?_
  refine vr_iload (q := 18) dX2_goesSo_16 rfl rfl ?_
  refine vr_put (ji := 1) (q := 21) dX2_goesSo_18 rfl pX2_116 rfl rfl ?_
  -- at X2.goesSo 21: .iconst 0
  rw [ms_h0, ms_h1]
  refine vr_iconst (q := 22) dX2_goesSo_21 rfl ⟨by decide, by decide⟩ ?_
  refine vr_istore (q := 24) dX2_goesSo_22 rfl (Nat.le_of_ble_eq_true rfl) rfl rfl ?_
  -- at X2.goesSo 24: .iload 6
  exact l_goesSo o hn e8 hL n.toNat 0 _ _ (by omega) ⟨ht, hb, hm.2.2.1, hm.2.2.2⟩ kk
def pw_ : Nat → Int
  | 0 => 1
  | n + 1 => pw_ n * 10
theorem pw_r : ∀ n : Fin 7, 1 ≤ pw_ n ∧ pw_ n ≤ 1000000 := by decide +kernel
theorem pw_b {n : Nat} (h : n ≤ 6) : 1 ≤ pw_ n ∧ pw_ n ≤ 1000000 := pw_r ⟨n, by omega⟩
theorem l_waysInAll {n : Int} (hn : 0 ≤ n ∧ n ≤ 6) (e8 : h 46 7 = n) (kk : Post (some (sv_i (pw_ n.toNat))) h) : ∀ (k j : Nat), (j : Int) + k = n → V_ g d mX2_waysInAll 4 [some (sv_r 4 2 46), some (sv_i (pw_ j)), some (sv_i j)] [] h Post := by
  intro k
  induction k with
  | zero =>
    intro j hj
    rw [show n.toNat = j by omega] at kk
    refine vr_iload_n (q := 5) dX2_waysInAll_4 rfl rfl ?_
    refine vr_aload_n (q := 6) dX2_waysInAll_5 rfl rfl ?_
    refine vr_getV (ji := 7) (q := 9) dX2_waysInAll_6 rfl fX2_37 rfl rfl (e8) ?_
    -- at X2.waysInAll 9: .if_icmp .ge 14
    refine vr_ic_ge (t := 23) (q := 12) dX2_waysInAll_9 (by decide) rfl (fun _ => ?_) (fun c9 => absurd c9 (by omega))
    refine vr_iload_n (q := 24) dX2_waysInAll_23 rfl rfl ?_
    refine vr_iret dX2_waysInAll_24 rfl ?_
    first | exact kk | (exfalso; omega) | (repeat (first | exact kk | rw [if_pos (by omega)] at kk | rw [if_neg (by omega)] at kk))
  | succ k ih =>
    intro j hj
    have b := pw_b (n := j) (by omega)
    refine vr_iload_n (q := 5) dX2_waysInAll_4 rfl rfl ?_
    refine vr_aload_n (q := 6) dX2_waysInAll_5 rfl rfl ?_
    refine vr_getV (ji := 7) (q := 9) dX2_waysInAll_6 rfl fX2_37 rfl rfl (e8) ?_
    -- at X2.waysInAll 9: .if_icmp .ge 14
    refine vr_ic_ge (t := 23) (q := 12) dX2_waysInAll_9 (by decide) rfl (fun c9 => absurd c9 (by omega)) (fun _ => ?_)
    refine vr_iload_n (q := 13) dX2_waysInAll_12 rfl rfl ?_
    refine vr_bipush (q := 15) dX2_waysInAll_13 rfl ⟨by decide, by decide⟩ (by decide) ?_
    refine vr_imulN (q := 16) dX2_waysInAll_15 rfl ⟨by omega, by omega⟩ ?_
    refine vr_istore_n (q := 17) dX2_waysInAll_16 rfl rfl (Nat.le_of_ble_eq_true rfl) rfl rfl ?_
    refine vr_iinc (q := 20) dX2_waysInAll_17 rfl rfl ⟨by omega, by omega⟩ (Nat.le_of_ble_eq_true rfl) rfl rfl ?_
    refine vr_goto (q := 4) dX2_waysInAll_20 (by decide) ?_
    -- at X2.waysInAll 4: .iload_n 2
    exact ih (j + 1) (by omega)
theorem c_waysInAll {n : Int} (hn : 0 ≤ n ∧ n ≤ 6) (e8 : h 46 7 = n) (kk : Post (some (sv_i (pw_ n.toNat))) h) : Ctr_ g d mX2_waysInAll [sv_r 4 2 46] h Post := by
  refine V_mk (by decide +kernel) (Or.inr (Or.inl ⟨rfl, rfl⟩)) (Nat.le_of_ble_eq_true rfl) (by simp [sv_c]) ?_
  show V_ _ _ _ 0 [_, _, _] [] _ _
  refine vr_iconst (q := 1) dX2_waysInAll_0 rfl ⟨by decide, by decide⟩ ?_
  refine vr_istore_n (q := 2) dX2_waysInAll_1 rfl rfl (Nat.le_of_ble_eq_true rfl) rfl rfl ?_
  refine vr_iconst (q := 3) dX2_waysInAll_2 rfl ⟨by decide, by decide⟩ ?_
  refine vr_istore_n (q := 4) dX2_waysInAll_3 rfl rfl (Nat.le_of_ble_eq_true rfl) rfl rfl ?_
  -- at X2.waysInAll 4: .iload_n 2
  exact l_waysInAll hn e8 kk n.toNat 0 (by omega)
end PF2_
