theorem cp_len {F : TF_} {n : Nat} {lie : Int} : ∀ (k : Nat) (m : MU_) (s : Int) (r : List Int), cp_ F n lie k m s = some r → r.length = k := by
  have fl : ∀ (f : Int → Option (List Int)) (k : Nat), (∀ i r, f i = some r → r.length = k) → ∀ (c : Nat) (i : Int) (r : List Int), fl_ f c i = some r → r.length = k := by
    intro f k hf c
    induction c with
    | zero => intro i r h; simp [fl_] at h
    | succ c ih =>
      intro i r h
      unfold fl_ at h
      cases e : f i with
      | some x => rw [e] at h; cases h; exact hf i _ e
      | none => rw [e] at h; exact ih (i + 1) r h
  intro k
  induction k with
  | zero =>
    intro m s r h
    unfold cp_ at h
    split at h
    · cases h
    · cases h; rfl
  | succ k ih =>
    intro m s r h
    unfold cp_ at h
    refine fl _ (k + 1) (fun i x hx => ?_) n 0 r h
    split at hx
    · cases hx
    · cases e : cp_ F n lie k (hl_ F m i) (dl_ s i) with
      | none => rw [e] at hx; cases hx
      | some y =>
        rw [e] at hx
        cases hx
        rw [List.length_cons, ih _ _ _ e]
theorem fw_len {h : SH_} {s l : Int} {i : Nat} {r : List Int} (e : fw_ h s l = some (i, r)) : r.length = i := by
  have fa : ∀ (f : Nat → Option (List Int)), (∀ i r, f i = some r → r.length = i) → ∀ (c j : Nat) (i : Nat) (r : List Int), fa_ f c j = some (i, r) → r.length = i := by
    intro f hf c
    induction c with
    | zero => intro j i r h; simp [fa_] at h
    | succ c ih =>
      intro j i r h
      unfold fa_ at h
      cases e : f j with
      | some x => rw [e] at h; cases h; exact hf _ _ e
      | none => rw [e] at h; exact ih (j + 1) i r h
  exact fa _ (fun i r h => cp_len _ _ _ _ h) _ _ _ _ e
/-- suppers: the first n of c from i on behind which it nods -/
def su_ (F : TF_) (l : Int) : Nat → Int → MU_ → Int
  | 0, _, _ => -1000000
  | c + 1, i, m => if nl_ F m l = 0 then su_ F l c (i + 1) (di_ m) else i
theorem di_mo {n : Int} {m : MU_} (hm : mo_ n m) : mo_ n (di_ m) := by
  obtain ⟨h1, h2, h3, h4⟩ := hm
  refine ⟨?_, h2, h3, h4⟩
  show 0 ≤ (if 20 < m.1 + 2 then 20 else m.1 + 2) ∧ (if 20 < m.1 + 2 then 20 else m.1 + 2) ≤ 20
  split <;> omega
section PN3_
variable {g : SG_} {d : Nat} {h : SH_} {Post : Option SV_ → SH_ → Prop}
theorem x_comesIn {s l w : Int} (o : to_ h) (k1 : ¬ ((0 ≤ s ∧ s < h 7 3) ∧ (0 ≤ l ∧ l < h 7 2) ∧ (0 ≤ w ∧ w ≤ 1)) → Post (some (sv_i (-1000001))) h) (k2 : ((0 ≤ s ∧ s < h 7 3) ∧ (0 ≤ l ∧ l < h 7 2) ∧ (0 ≤ w ∧ w ≤ 1)) → ¬ bt_ (h 13 s) l = 0 → Post (some (sv_i (-1000002))) h) (k3 : ((0 ≤ s ∧ s < h 7 3) ∧ (0 ≤ l ∧ l < h 7 2) ∧ (0 ≤ w ∧ w ≤ 1)) → bt_ (h 13 s) l = 0 → fw_ h s l = none → ∀ h2, fk_ h h2 → Post (some (sv_i (-1000000))) h2) (k4 : ((0 ≤ s ∧ s < h 7 3) ∧ (0 ≤ l ∧ l < h 7 2) ∧ (0 ≤ w ∧ w ≤ 1)) → bt_ (h 13 s) l = 0 → ∀ i r, fw_ h s l = some (i, r) → ∀ h2, fk_ h h2 → Post (some (sv_i (if w = 0 then (i : Int) else r.headD (-1000000)))) h2) : Ctr_ g (d + 14) mX8_comesIn [sv_r 4 7 0, sv_i s, sv_i l, sv_i w] h Post := by
  have o2 := o.2.1
  have r58 : ∀ (v : Int) (h2 : SH_), -1000000 ≤ v → v ≤ 6 → Post (some (sv_i (if w = 0 then v else if 0 < v then h2 48 0 else -1000000))) h2 → V_ g (d + 14) mX8_comesIn 62 [some (sv_r 4 7 0), some (sv_i s), some (sv_i l), some (sv_i w), none] [sv_i v] h2 Post := by
    intro v h2 hv1 hv2 kk
    refine vr_istore (q := 64) dX8_comesIn_62 rfl (Nat.le_of_ble_eq_true rfl) rfl rfl ?_
    refine vr_iload_n (q := 65) dX8_comesIn_64 rfl rfl ?_
    refine vr_if_ne (t := 71) (q := 68) dX8_comesIn_65 (by decide) rfl (fun c65 => ?_) (fun c65 => ?_)
    · refine vr_iload (q := 73) dX8_comesIn_71 rfl rfl ?_
      refine vr_if_le (t := 86) (q := 76) dX8_comesIn_73 (by decide) rfl (fun c73 => ?_) (fun c73 => ?_)
      · refine vr_ldc (x := -1000000) (q := 88) dX8_comesIn_86 rfl ⟨by decide, by decide⟩ qX8_235 ?_
        refine vr_iret dX8_comesIn_88 rfl ?_
        first | exact kk | (exfalso; omega) | (repeat (first | exact kk | rw [if_pos (by omega)] at kk | rw [if_neg (by omega)] at kk))
      · refine vr_aload_n (q := 77) dX8_comesIn_76 rfl rfl ?_
        refine vr_getA (q := 80) dX8_comesIn_77 rfl fX8_47 rfl ⟨by decide, by decide, rfl⟩ ?_
        refine vr_iv0 (q := 83) dX8_comesIn_80 rfl vX8_232 (Nat.le_of_ble_eq_true rfl) ?_
        refine c_firstAhead ?_
        refine vr_goto (q := 88) dX8_comesIn_83 (by decide) ?_
        refine vr_iret dX8_comesIn_88 rfl ?_
        first | exact kk | (exfalso; omega) | (repeat (first | exact kk | rw [if_pos (by omega)] at kk | rw [if_neg (by omega)] at kk))
    · refine vr_iload (q := 70) dX8_comesIn_68 rfl rfl ?_
      refine vr_iret dX8_comesIn_70 rfl ?_
      first | exact kk | (exfalso; omega) | (repeat (first | exact kk | rw [if_pos (by omega)] at kk | rw [if_neg (by omega)] at kk))
  refine V_mk (by decide +kernel) (Or.inr (Or.inl ⟨rfl, rfl⟩)) (Nat.le_of_ble_eq_true rfl) (by simp [sv_c]) ?_
  show V_ _ _ _ 0 [_, _, _, _, _] [] _ _
  refine vr_aload_n (q := 1) dX8_comesIn_0 rfl rfl ?_
  refine vr_getA (q := 4) dX8_comesIn_1 rfl fX8_26 rfl ⟨by decide, by decide, rfl⟩ ?_
  refine vr_iload_n (q := 5) dX8_comesIn_4 rfl rfl ?_
  refine vr_iv1 (q := 8) dX8_comesIn_5 rfl vX8_132 (Nat.le_of_ble_eq_true rfl) ?_
  refine c_hasStranger (fun c5 => ?_) (fun c5 => ?_)
  · refine vr_if_eq (t := 31) (q := 11) dX8_comesIn_8 (by decide) rfl (fun c9 => absurd c9 (by omega)) (fun _ => ?_)
    refine vr_aload_n (q := 12) dX8_comesIn_11 rfl rfl ?_
    refine vr_getA (q := 15) dX8_comesIn_12 rfl fX8_26 rfl ⟨by decide, by decide, rfl⟩ ?_
    refine vr_iload_n (q := 16) dX8_comesIn_15 rfl rfl ?_
    refine vr_iv1 (q := 19) dX8_comesIn_16 rfl vX8_135 (Nat.le_of_ble_eq_true rfl) ?_
    refine c_hasLie (fun c16 => ?_) (fun c16 => ?_)
    · refine vr_if_eq (t := 31) (q := 22) dX8_comesIn_19 (by decide) rfl (fun c9 => absurd c9 (by omega)) (fun _ => ?_)
      refine vr_iload_n (q := 23) dX8_comesIn_22 rfl rfl ?_
      refine vr_if_lt (t := 31) (q := 26) dX8_comesIn_23 (by decide) rfl (fun c23 => ?_) (fun c23 => ?_)
      · refine vr_ldc (x := -1000001) (q := 33) dX8_comesIn_31 rfl ⟨by decide, by decide⟩ qX8_69 ?_
        refine vr_iret dX8_comesIn_33 rfl ?_
        first | exact k1 (by omega) | exact k2 (by omega) (by assumption)
      · refine vr_iload_n (q := 27) dX8_comesIn_26 rfl rfl ?_
        refine vr_iconst (q := 28) dX8_comesIn_27 rfl ⟨by decide, by decide⟩ ?_
        refine vr_ic_le (t := 34) (q := 31) dX8_comesIn_28 (by decide) rfl (fun c28 => ?_) (fun c28 => ?_)
        · refine vr_aload_n (q := 35) dX8_comesIn_34 rfl rfl ?_
          refine vr_getA (q := 38) dX8_comesIn_35 rfl fX8_26 rfl ⟨by decide, by decide, rfl⟩ ?_
          refine vr_iload_n (q := 39) dX8_comesIn_38 rfl rfl ?_
          refine vr_iload_n (q := 40) dX8_comesIn_39 rfl rfl ?_
          refine vr_iv2 (q := 43) dX8_comesIn_40 rfl vX8_138 (Nat.le_of_ble_eq_true rfl) ?_
          refine c_wasTold ⟨by omega, by omega⟩ (fun c40 => ?_) (fun c40 => ?_)
          · refine vr_if_eq (t := 49) (q := 46) dX8_comesIn_43 (by decide) rfl (fun c9 => absurd c9 (by omega)) (fun _ => ?_)
            refine vr_ldc (x := -1000002) (q := 48) dX8_comesIn_46 rfl ⟨by decide, by decide⟩ qX8_142 ?_
            refine vr_iret dX8_comesIn_48 rfl ?_
            first | exact k1 (by omega) | exact k2 (by omega) (by assumption)
          · refine vr_if_eq (t := 49) (q := 46) dX8_comesIn_43 (by decide) rfl (fun _ => ?_) (fun c9 => absurd c9 (by omega))
            refine vr_aload_n (q := 50) dX8_comesIn_49 rfl rfl ?_
            refine vr_getA (q := 53) dX8_comesIn_50 rfl fX8_47 rfl ⟨by decide, by decide, rfl⟩ ?_
            refine vr_aload_n (q := 54) dX8_comesIn_53 rfl rfl ?_
            refine vr_getA (q := 57) dX8_comesIn_54 rfl fX8_26 rfl ⟨by decide, by decide, rfl⟩ ?_
            refine vr_iload_n (q := 58) dX8_comesIn_57 rfl rfl ?_
            refine vr_iload_n (q := 59) dX8_comesIn_58 rfl rfl ?_
            refine vr_iv3 (q := 62) dX8_comesIn_59 rfl vX8_228 (Nat.le_of_ble_eq_true rfl) ?_
            refine c_fewestAhead o ⟨by omega, by omega⟩ ⟨by omega, by omega⟩ (fun i r h2 e2 f2 p2 i6 => ?_) (fun h2 e2 f2 => ?_)
            · have k5 := k4 (by omega) (by assumption) i r e2 h2 f2
              have hlen := fw_len e2
              refine r58 i h2 (by omega) (by omega) ?_
              cases r with
              | nil =>
                have e0 : i = 0 := hlen.symm
                subst e0
                by_cases cw : w = 0
                · rw [if_pos cw] at k5 ⊢; exact k5
                · rw [if_neg cw] at k5 ⊢; exact k5
              | cons x r2 =>
                have e0 : 0 < i := by rw [← hlen]; simp
                have e1 := p2 x r2 rfl
                by_cases cw : w = 0
                · rw [if_pos cw] at k5 ⊢; exact k5
                · rw [if_neg cw] at k5 ⊢; rw [if_pos (by omega), e1]; exact k5
            have k5 := k3 (by omega) (by assumption) e2 h2 f2
            refine r58 (-1000000) h2 (by decide) (by decide) ?_
            by_cases cw : w = 0
            · rw [if_pos cw]; exact k5
            · rw [if_neg cw]; exact k5
        · refine vr_ldc (x := -1000001) (q := 33) dX8_comesIn_31 rfl ⟨by decide, by decide⟩ qX8_69 ?_
          refine vr_iret dX8_comesIn_33 rfl ?_
          first | exact k1 (by omega) | exact k2 (by omega) (by assumption)
    · refine vr_if_eq (t := 31) (q := 22) dX8_comesIn_19 (by decide) rfl (fun _ => ?_) (fun c9 => absurd c9 (by omega))
      refine vr_ldc (x := -1000001) (q := 33) dX8_comesIn_31 rfl ⟨by decide, by decide⟩ qX8_69 ?_
      refine vr_iret dX8_comesIn_33 rfl ?_
      first | exact k1 (by omega) | exact k2 (by omega) (by assumption)
  · refine vr_if_eq (t := 31) (q := 11) dX8_comesIn_8 (by decide) rfl (fun _ => ?_) (fun c9 => absurd c9 (by omega))
    refine vr_ldc (x := -1000001) (q := 33) dX8_comesIn_31 rfl ⟨by decide, by decide⟩ qX8_69 ?_
    refine vr_iret dX8_comesIn_33 rfl ?_
    first | exact k1 (by omega) | exact k2 (by omega) (by assumption)
theorem l_suppers {s l : Int} (o : to_ h) (hl : 0 ≤ l ∧ l < h 7 2) (hlo : lo_ (h 8 l) (h 9 l) (h 10 l)) : ∀ (c i : Nat) (m : MU_), i + c = 11 → mo_ 6 m → (∀ m2, Post (some (sv_i (su_ (tf_ h) l c i m))) (ms_ h 52 m2)) → V_ g (d + 4) mX8_suppers 56 [some (sv_r 4 7 0), some (sv_i s), some (sv_i l), some (sv_r 4 3 52), some (sv_i i)] [] (ms_ h 52 m) Post := by
  intro c
  have o1 := o.1
  induction c with
  | zero =>
    intro i m hi hm kk
    refine vr_iload (q := 58) dX8_suppers_56 rfl rfl ?_
    refine vr_bipush (q := 60) dX8_suppers_58 rfl ⟨by decide, by decide⟩ (by decide) ?_
    -- at X8.suppers 60: .if_icmp .gt 28
    refine vr_ic_gt (t := 88) (q := 63) dX8_suppers_60 (by decide) rfl (fun _ => ?_) (fun c9 => absurd c9 (by omega))
    refine vr_ldc (x := -1000000) (q := 90) dX8_suppers_88 rfl ⟨by decide, by decide⟩ qX8_235 ?_
    refine vr_iret dX8_suppers_90 rfl ?_
    exact kk m
  | succ c ih =>
    intro i m hi hm kk
    have e8 : ms_ h 52 m 8 = h 8 := ms_lo (by decide) (by decide)
    have e9 : ms_ h 52 m 9 = h 9 := ms_lo (by decide) (by decide)
    have e10 : ms_ h 52 m 10 = h 10 := ms_lo (by decide) (by decide)
    have t0 : ms_ h 52 m 52 0 = m.1 := congrArg (fun z : MU_ => z.1) (mu_ms h 52 m)
    have e : su_ (tf_ h) l (c + 1) i m = if nl_ (tf_ h) m l = 0 then su_ (tf_ h) l c (i + 1) (di_ m) else i := rfl
    rw [e] at kk
    refine vr_iload (q := 58) dX8_suppers_56 rfl rfl ?_
    refine vr_bipush (q := 60) dX8_suppers_58 rfl ⟨by decide, by decide⟩ (by decide) ?_
    -- at X8.suppers 60: .if_icmp .gt 28
    refine vr_ic_gt (t := 88) (q := 63) dX8_suppers_60 (by decide) rfl (fun c9 => absurd c9 (by omega)) (fun _ => ?_)
    refine vr_aload_n (q := 64) dX8_suppers_63 rfl rfl ?_
    refine vr_aload_n (q := 65) dX8_suppers_64 rfl rfl ?_
    refine vr_getA (q := 68) dX8_suppers_65 rfl fX8_26 rfl ⟨by decide, by decide, rfl⟩ ?_
    refine vr_iload_n (q := 69) dX8_suppers_68 rfl rfl ?_
    -- at X8.suppers 69: .invokevirtual 246
    refine vr_iv2 (q := 72) dX8_suppers_69 rfl vX8_246 (Nat.le_of_ble_eq_true rfl) ?_
    refine c_wouldNod (n := 6) ⟨by omega, by omega⟩ (by rw [e8, e9, e10]; exact hlo) (by rw [mu_ms]; exact hm) (by decide) ?_
    rw [e8, e9, e10, mu_ms]
    refine vr_if_eq (t := 78) (q := 75) dX8_suppers_72 (by decide) rfl (fun c1 => ?_) (fun c1 => ?_)
    · have c2 : nl_ (tf_ h) m l = 0 := c1
      rw [if_pos c2] at kk
      refine vr_aload_n (q := 79) dX8_suppers_78 rfl rfl ?_
      -- at X8.suppers 79: .invokevirtual 164
      refine vr_iv0 (q := 82) dX8_suppers_79 rfl vX8_164 (Nat.le_of_ble_eq_true rfl) ?_
      refine c_dine (by rw [t0]; exact hm.1) ?_
      rw [mu_ms, ms_ms]
      refine vr_iinc (q := 85) dX8_suppers_82 rfl rfl ⟨by omega, by omega⟩ (Nat.le_of_ble_eq_true rfl) rfl rfl ?_
      refine vr_goto (q := 56) dX8_suppers_85 (by decide) ?_
      -- at X8.suppers 56: .iload 4
      exact ih (i + 1) (di_ m) (by omega) (di_mo hm) kk
    · have c2 : ¬ nl_ (tf_ h) m l = 0 := c1
      rw [if_neg c2] at kk
      refine vr_iload (q := 77) dX8_suppers_75 rfl rfl ?_
      refine vr_iret dX8_suppers_77 rfl ?_
      exact kk m
theorem x_suppers {s l : Int} (o : to_ h) (k1 : ¬ ((0 ≤ s ∧ s < h 7 3) ∧ (0 ≤ l ∧ l < h 7 2)) → Post (some (sv_i (-1000001))) h) (k2 : ((0 ≤ s ∧ s < h 7 3) ∧ (0 ≤ l ∧ l < h 7 2)) → ¬ bt_ (h 13 s) l = 0 → Post (some (sv_i (-1000002))) h) (k3 : ((0 ≤ s ∧ s < h 7 3) ∧ (0 ≤ l ∧ l < h 7 2)) → bt_ (h 13 s) l = 0 → ∀ m2, Post (some (sv_i (su_ (tf_ h) l 11 0 (en_ h s)))) (ms_ h 52 m2)) : Ctr_ g (d + 4) mX8_suppers [sv_r 4 7 0, sv_i s, sv_i l] h Post := by
  have o2 := o.2.1
  refine V_mk (by decide +kernel) (Or.inr (Or.inl ⟨rfl, rfl⟩)) (Nat.le_of_ble_eq_true rfl) (by simp [sv_c]) ?_
  show V_ _ _ _ 0 [_, _, _, _, _] [] _ _
  refine vr_aload_n (q := 1) dX8_suppers_0 rfl rfl ?_
  refine vr_getA (q := 4) dX8_suppers_1 rfl fX8_26 rfl ⟨by decide, by decide, rfl⟩ ?_
  refine vr_iload_n (q := 5) dX8_suppers_4 rfl rfl ?_
  refine vr_iv1 (q := 8) dX8_suppers_5 rfl vX8_132 (Nat.le_of_ble_eq_true rfl) ?_
  refine c_hasStranger (fun c5 => ?_) (fun c5 => ?_)
  · refine vr_if_eq (t := 22) (q := 11) dX8_suppers_8 (by decide) rfl (fun c9 => absurd c9 (by omega)) (fun _ => ?_)
    refine vr_aload_n (q := 12) dX8_suppers_11 rfl rfl ?_
    refine vr_getA (q := 15) dX8_suppers_12 rfl fX8_26 rfl ⟨by decide, by decide, rfl⟩ ?_
    refine vr_iload_n (q := 16) dX8_suppers_15 rfl rfl ?_
    refine vr_iv1 (q := 19) dX8_suppers_16 rfl vX8_135 (Nat.le_of_ble_eq_true rfl) ?_
    refine c_hasLie (fun c16 => ?_) (fun c16 => ?_)
    · refine vr_if_ne (t := 25) (q := 22) dX8_suppers_19 (by decide) rfl (fun _ => ?_) (fun c9 => absurd c9 (by omega))
      refine vr_aload_n (q := 26) dX8_suppers_25 rfl rfl ?_
      refine vr_getA (q := 29) dX8_suppers_26 rfl fX8_26 rfl ⟨by decide, by decide, rfl⟩ ?_
      refine vr_iload_n (q := 30) dX8_suppers_29 rfl rfl ?_
      refine vr_iload_n (q := 31) dX8_suppers_30 rfl rfl ?_
      refine vr_iv2 (q := 34) dX8_suppers_31 rfl vX8_138 (Nat.le_of_ble_eq_true rfl) ?_
      refine c_wasTold ⟨by omega, by omega⟩ (fun c31 => ?_) (fun c31 => ?_)
      · refine vr_if_eq (t := 40) (q := 37) dX8_suppers_34 (by decide) rfl (fun c9 => absurd c9 (by omega)) (fun _ => ?_)
        refine vr_ldc (x := -1000002) (q := 39) dX8_suppers_37 rfl ⟨by decide, by decide⟩ qX8_142 ?_
        refine vr_iret dX8_suppers_39 rfl ?_
        first | exact k1 (by omega) | exact k2 (by omega) (by assumption)
      · refine vr_if_eq (t := 40) (q := 37) dX8_suppers_34 (by decide) rfl (fun _ => ?_) (fun c9 => absurd c9 (by omega))
        refine vr_aload_n (q := 41) dX8_suppers_40 rfl rfl ?_
        refine vr_getA (q := 44) dX8_suppers_41 rfl fX8_47 rfl ⟨by decide, by decide, rfl⟩ ?_
        refine vr_aload_n (q := 45) dX8_suppers_44 rfl rfl ?_
        refine vr_getA (q := 48) dX8_suppers_45 rfl fX8_26 rfl ⟨by decide, by decide, rfl⟩ ?_
        refine vr_iload_n (q := 49) dX8_suppers_48 rfl rfl ?_
        refine vr_iv2 (q := 52) dX8_suppers_49 rfl vX8_147 (Nat.le_of_ble_eq_true rfl) ?_
        refine c_mindOf o ⟨by omega, by omega⟩ ?_
        refine vr_astore_n (q := 53) dX8_suppers_52 rfl rfl (Nat.le_of_ble_eq_true rfl) rfl rfl ?_
        refine vr_iconst (q := 54) dX8_suppers_53 rfl ⟨by decide, by decide⟩ ?_
        refine vr_istore (q := 56) dX8_suppers_54 rfl (Nat.le_of_ble_eq_true rfl) rfl rfl ?_
        exact l_suppers o ⟨by omega, by omega⟩ (o.2.2.2.1 l (by omega) (by omega)) 11 0 _ rfl (en_mo o ⟨by omega, by omega⟩) (k3 (by omega) (by assumption))
    · refine vr_if_ne (t := 25) (q := 22) dX8_suppers_19 (by decide) rfl (fun c9 => absurd c9 (by omega)) (fun _ => ?_)
      refine vr_ldc (x := -1000001) (q := 24) dX8_suppers_22 rfl ⟨by decide, by decide⟩ qX8_69 ?_
      refine vr_iret dX8_suppers_24 rfl ?_
      first | exact k1 (by omega) | exact k2 (by omega) (by assumption)
  · refine vr_if_eq (t := 22) (q := 11) dX8_suppers_8 (by decide) rfl (fun _ => ?_) (fun c9 => absurd c9 (by omega))
    refine vr_ldc (x := -1000001) (q := 24) dX8_suppers_22 rfl ⟨by decide, by decide⟩ qX8_69 ?_
    refine vr_iret dX8_suppers_24 rfl ?_
    first | exact k1 (by omega) | exact k2 (by omega) (by assumption)
end PN3_
