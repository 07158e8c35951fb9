abbrev BR_ : Type := List Int × Int
def fo_ (f : Int → BR_ → BR_) : Nat → Int → BR_ → BR_
  | 0, _, b => b
  | c + 1, i, b => fo_ f c (i + 1) (f i b)
/-- the best order so far, behind all that begin with p -/
def so_ (F : TF_) (n : Nat) : Nat → MU_ → Int → Int → List Int → BR_ → BR_
  | 0, _, s, w, p, b => if b.2 < w + pc_ s then (p, w) else b
  | k + 1, m, s, w, p, b => if b.2 < w + pc_ s then (if s = 0 then (p, w) else fo_ (fun l y => if bt_ s l = 0 then y else so_ F n k (hl_ F m l) (dl_ s l) (if nl_ F m l = 0 then w else w + 1) (p ++ [l]) y) n 0 b) else b
def br_ (h : SH_) (b : BR_) : Prop := h 46 3 = b.1.length ∧ h 46 4 = b.2 ∧ b.1.length ≤ 6 ∧ (-1 ≤ b.2 ∧ b.2 ≤ 6) ∧ ∀ (i : Nat) (x : Int), b.1[i]? = some x → h 49 i = x
def pp_ (h : SH_) (p : List Int) : Prop := ∀ (i : Nat) (x : Int), p[i]? = some x → h 48 i = x
def sq_ (e : Int) (h hc : SH_) : Prop := (∀ a, a ≠ 46 → a ≠ 48 → a ≠ 49 → ¬ (54 + 2 * e ≤ a ∧ a ≤ 65) → hc a = h a) ∧ ∀ b, b < e → hc 48 b = h 48 b
theorem sq_r (e : Int) (h : SH_) : sq_ e h h := ⟨fun _ _ _ _ _ => rfl, fun _ _ => rfl⟩
theorem sq_t {e : Int} {h h1 h2 : SH_} (a : sq_ e h h1) (b : sq_ e h1 h2) : sq_ e h h2 := ⟨fun x x1 x2 x3 x4 => (b.1 x x1 x2 x3 x4).trans (a.1 x x1 x2 x3 x4), fun x hx => (b.2 x hx).trans (a.2 x hx)⟩
theorem sq_up {e : Int} {h h1 : SH_} (a : sq_ (e + 1) h h1) : sq_ e h h1 := ⟨fun x x1 x2 x3 x4 => a.1 x x1 x2 x3 (by omega), fun x hx => a.2 x (by omega)⟩
theorem sq_s {e : Int} {h h1 : SH_} (a : sd_ e h h1) : sq_ e h h1 := ⟨fun x _ x2 _ x4 => a.1 x x2 x4, a.2⟩
theorem sq_lo {e : Int} {h hc : SH_} (a : sq_ e h hc) (he : 0 ≤ e) {x : Int} (hx : x < 46 ∨ 65 < x ∨ (49 < x ∧ x < 54)) : hc x = h x := a.1 x (by omega) (by omega) (by omega) (by omega)
theorem sq_mu {e : Int} {h hc : SH_} (a : sq_ e h hc) (he : 0 ≤ e) : mu_ hc (52 + 2 * e) = mu_ h (52 + 2 * e) := by
  unfold mu_
  rw [a.1 _ (by omega) (by omega) (by omega) (by omega), a.1 _ (by omega) (by omega) (by omega) (by omega)]
theorem sq_to {e : Int} {h hc : SH_} (a : sq_ e h hc) (he : 0 ≤ e) (o : to_ h) : to_ hc := to_k (fun x _ _ => sq_lo a he (by omega)) o
theorem sq_tf {e : Int} {h hc : SH_} (a : sq_ e h hc) (he : 0 ≤ e) : tf_ hc = tf_ h := tf_k (fun x _ _ => sq_lo a he (by omega))
theorem sq_fk {e : Int} {h hc : SH_} (a : sq_ e h hc) (he : 0 ≤ e) : fk_ h hc := fun x hx => sq_lo a he (by omega)
theorem br_sd {e : Int} {h hc : SH_} {b : BR_} (a : sd_ e h hc) (he : 0 ≤ e) (hb : br_ h b) : br_ hc b := by
  unfold br_ at hb ⊢
  rw [sd_lo a he (x := 46) (by omega), sd_lo a he (x := 49) (by omega)]
  exact hb
theorem pp_e {e : Int} {h hc : SH_} {p : List Int} (he : e = p.length) (a : ∀ b, b < e → hc 48 b = h 48 b) (hp : pp_ h p) : pp_ hc p := fun i x hx => by
  have hi := (List.getElem?_eq_some_iff.mp hx).1
  rw [a i (by omega)]
  exact hp i x hx
theorem dl_c : ∀ s : Fin 64, ∀ l : Fin 6, 0 ≤ dl_ ((s : Nat) : Int) ((l : Nat) : Int) ∧ dl_ ((s : Nat) : Int) ((l : Nat) : Int) < 64 := by decide +kernel
theorem dl_r {s l : Int} (hs : 0 ≤ s ∧ s < 64) (hl : 0 ≤ l ∧ l < 6) : 0 ≤ dl_ s l ∧ dl_ s l < 64 := by
  have e := dl_c ⟨s.toNat, by omega⟩ ⟨l.toNat, by omega⟩
  rw [show (((⟨s.toNat, by omega⟩ : Fin 64) : Nat) : Int) = s from Int.toNat_of_nonneg hs.1, show (((⟨l.toNat, by omega⟩ : Fin 6) : Nat) : Int) = l from Int.toNat_of_nonneg hl.1] at e
  exact e
section PF5_
variable {g : SG_} {d : Nat} {h : SH_} {Post : Option SV_ → SH_ → Prop}
theorem l_keepBest {p : List Int} {w : Int} (hl : p.length ≤ 6) (hw : -1 ≤ w ∧ w ≤ 6) (hp : pp_ h p) (kk : ∀ hc, (∀ a, a ≠ 46 → a ≠ 49 → hc a = h a) → br_ hc (p, w) → Post none hc) : ∀ (k j : Nat) (hc : SH_), j + k = p.length → (∀ a, a ≠ 46 → a ≠ 49 → hc a = h a) → hc 46 3 = p.length → hc 46 4 = w → (∀ (i : Nat) (x : Int), i < j → p[i]? = some x → hc 49 i = x) → V_ g d mX2_keepBest 12 [some (sv_r 4 2 46), some (sv_i p.length), some (sv_i w), some (sv_i j)] [] hc Post := by
  intro k
  induction k with
  | zero =>
    intro j hc hj h1 h2 h3 h4
    refine vr_iload_n (q := 13) dX2_keepBest_12 rfl rfl ?_
    refine vr_iload_n (q := 14) dX2_keepBest_13 rfl rfl ?_
    -- at X2.keepBest 14: .if_icmp .ge 21
    refine vr_ic_ge (t := 35) (q := 17) dX2_keepBest_14 (by decide) rfl (fun _ => ?_) (fun c9 => absurd c9 (by omega))
    refine vr_vret dX2_keepBest_35 rfl ?_
    exact kk hc h1 ⟨h2, h3, hl, hw, fun i x hx => h4 i x (by have := (List.getElem?_eq_some_iff.mp hx).1; show i < j; have z : i < p.length := this; omega) hx⟩
  | succ k ih =>
    intro j hc hj h1 h2 h3 h4
    have e48 := h1 48 (by decide) (by decide)
    refine vr_iload_n (q := 13) dX2_keepBest_12 rfl rfl ?_
    refine vr_iload_n (q := 14) dX2_keepBest_13 rfl rfl ?_
    -- at X2.keepBest 14: .if_icmp .ge 21
    refine vr_ic_ge (t := 35) (q := 17) dX2_keepBest_14 (by decide) rfl (fun c9 => absurd c9 (by omega)) (fun _ => ?_)
    refine vr_aload_n (q := 18) dX2_keepBest_17 rfl rfl ?_
    refine vr_getR (q := 21) dX2_keepBest_18 rfl fX2_21 rfl y_X2_2 (by first | (simp only [Int.reduceAdd]; rfl) | rfl) ?_
    refine vr_iload_n (q := 22) dX2_keepBest_21 rfl rfl ?_
    refine vr_aload_n (q := 23) dX2_keepBest_22 rfl rfl ?_
    refine vr_getR (q := 26) dX2_keepBest_23 rfl fX2_17 rfl y_X2_1 (by first | (simp only [Int.reduceAdd]; rfl) | rfl) ?_
    refine vr_iload_n (q := 27) dX2_keepBest_26 rfl rfl ?_
    refine vr_ialdV (q := 28) dX2_keepBest_27 rfl ⟨by omega, by omega⟩ (by rw [e48]) ?_
    refine vr_iast (q := 29) dX2_keepBest_28 rfl ⟨by omega, by omega⟩ ?_
    refine vr_iinc (q := 32) dX2_keepBest_29 rfl rfl ⟨by omega, by omega⟩ (Nat.le_of_ble_eq_true rfl) rfl rfl ?_
    refine vr_goto (q := 12) dX2_keepBest_32 (by decide) ?_
    -- at X2.keepBest 12: .iload_n 3
    refine ih (j + 1) _ (by omega) (fun a a1 a2 => by rw [hs_k a2]; exact h1 a a1 a2) (by rw [hs_k (by decide)]; exact h2) (by rw [hs_k (by decide)]; exact h3) (fun i x hi hx => ?_)
    by_cases c : i = j
    · subst c
      rw [hs_e]
      exact hp i x hx
    · rw [hs_n (by omega)]
      exact h4 i x (by omega) hx
theorem c_keepBest {p : List Int} {e w : Int} (he : e = p.length) (hl : p.length ≤ 6) (hw : -1 ≤ w ∧ w ≤ 6) (hp : pp_ h p) (kk : ∀ hc, (∀ a, a ≠ 46 → a ≠ 49 → hc a = h a) → br_ hc (p, w) → Post none hc) : Ctr_ g d mX2_keepBest [sv_r 4 2 46, sv_i e, sv_i w] h Post := by
  subst he
  refine V_mk (by decide +kernel) (Or.inl ⟨rfl, rfl⟩) (Nat.le_of_ble_eq_true rfl) (by simp [sv_c]) ?_
  show V_ _ _ _ 0 [_, _, _, _] [] _ _
  refine vr_aload_n (q := 1) dX2_keepBest_0 rfl rfl ?_
  refine vr_iload_n (q := 2) dX2_keepBest_1 rfl rfl ?_
  refine vr_put (ji := 3) (q := 5) dX2_keepBest_2 rfl pX2_24 rfl rfl ?_
  refine vr_aload_n (q := 6) dX2_keepBest_5 rfl rfl ?_
  refine vr_iload_n (q := 7) dX2_keepBest_6 rfl rfl ?_
  refine vr_put (ji := 4) (q := 10) dX2_keepBest_7 rfl pX2_28 rfl rfl ?_
  refine vr_iconst (q := 11) dX2_keepBest_10 rfl ⟨by decide, by decide⟩ ?_
  refine vr_istore_n (q := 12) dX2_keepBest_11 rfl rfl (Nat.le_of_ble_eq_true rfl) rfl rfl ?_
  -- at X2.keepBest 12: .iload_n 3
  exact l_keepBest hl hw hp kk p.length 0 _ (by omega) (fun a a1 a2 => by rw [hs_k a1, hs_k a1]) (by rw [hs_n (by omega), hs_e]) (hs_e _ _ _ _) (fun i x hi => absurd hi (by omega))
end PF5_
section PF6_
variable {g : SG_} {d : Nat}
theorem c_seekOrderFrom : ∀ (k : Nat) (e s w : Int) (p : List Int) (b : BR_) (h : SH_) (Post : Option SV_ → SH_ → Prop), to_ h → e = p.length → e + k = 6 → (0 ≤ s ∧ s < 64) → (0 ≤ w ∧ w ≤ e) → mo_ (6 + e) (mu_ h (52 + 2 * e)) → pp_ h p → br_ h b →
    (∀ h2, sq_ e h h2 → br_ h2 (so_ (tf_ h) (h 7 2).toNat k (mu_ h (52 + 2 * e)) s w p b) → Post none h2) →
    Ctr_ g (d + k + 6) mX2_seekOrderFrom [sv_r 4 2 46, sv_r 4 6 7, sv_i e, sv_i s, sv_i w] h Post := by
  intro k
  induction k with
  | zero =>
    intro e s w p b h Post o ep hek hs hw hm hp hb kk
    have r1 := pc_r (x := s)
    unfold so_ at kk
    refine V_mk (by decide +kernel) (Or.inl ⟨rfl, rfl⟩) (Nat.le_of_ble_eq_true rfl) (by simp [sv_c]) ?_
    show V_ _ _ _ 0 [_, _, _, _, _, _, _] [] _ _
    refine vr_iload (q := 2) dX2_seekOrderFrom_0 rfl rfl ?_
    refine vr_iload_n (q := 3) dX2_seekOrderFrom_2 rfl rfl ?_
    -- at X2.seekOrderFrom 3: .invokestatic 67
    refine vr_is1 (q := 6) dX2_seekOrderFrom_3 rfl vX2_67 (Nat.le_of_ble_eq_true rfl) ?_
    refine c_bitCount hs ?_
    refine vr_iaddN (q := 7) dX2_seekOrderFrom_6 rfl ⟨by omega, by omega⟩ ?_
    refine vr_aload_n (q := 8) dX2_seekOrderFrom_7 rfl rfl ?_
    refine vr_getV (ji := 4) (q := 11) dX2_seekOrderFrom_8 rfl fX2_28 rfl rfl (hb.2.1) ?_
    -- at X2.seekOrderFrom 11: .if_icmp .gt 4
    refine vr_ic_gt (t := 15) (q := 14) dX2_seekOrderFrom_11 (by decide) rfl (fun c1 => ?_) (fun c1 => ?_)
    · rw [if_pos c1] at kk
      refine vr_iload_n (q := 16) dX2_seekOrderFrom_15 rfl rfl ?_
      -- at X2.seekOrderFrom 16: .ifCond .eq 9
      have fin : V_ g (d + 0 + 6) mX2_seekOrderFrom 25 [some (sv_r 4 2 46), some (sv_r 4 6 7), some (sv_i e), some (sv_i s), some (sv_i w), none, none] [] h Post := by
        refine vr_aload_n (q := 26) dX2_seekOrderFrom_25 rfl rfl ?_
        refine vr_iload_n (q := 27) dX2_seekOrderFrom_26 rfl rfl ?_
        refine vr_iload (q := 29) dX2_seekOrderFrom_27 rfl rfl ?_
        -- at X2.seekOrderFrom 29: .invokevirtual 72
        refine vr_iv2 (q := 32) dX2_seekOrderFrom_29 rfl vX2_72 (Nat.le_of_ble_eq_true rfl) ?_
        refine c_keepBest ep (by omega) ⟨by omega, by omega⟩ hp (fun hc k1 k2 => ?_)
        refine vr_vret dX2_seekOrderFrom_32 rfl ?_
        exact kk hc ⟨fun a a1 a2 a3 a4 => k1 a a1 a3, fun x _ => by rw [k1 48 (by decide) (by decide)]⟩ k2
      refine vr_if_eq (t := 25) (q := 19) dX2_seekOrderFrom_16 (by decide) rfl (fun c2 => ?_) (fun c2 => ?_)
      · exact fin
      · refine vr_iload_n (q := 20) dX2_seekOrderFrom_19 rfl rfl ?_
        refine vr_bipush (q := 22) dX2_seekOrderFrom_20 rfl ⟨by decide, by decide⟩ (by decide) ?_
        -- at X2.seekOrderFrom 22: .if_icmp .lt 11
        refine vr_ic_lt (t := 33) (q := 25) dX2_seekOrderFrom_22 (by decide) rfl (fun c9 => absurd c9 (by omega)) (fun _ => ?_)
        exact fin
    · rw [if_neg c1] at kk
      refine vr_vret dX2_seekOrderFrom_14 rfl ?_
      exact kk h (sq_r e h) hb
  | succ k ih =>
    intro e s w p b h Post o ep hek hs hw hm hp hb kk
    have o1 := o.1
    have he : 0 ≤ e := by omega
    have r1 := pc_r (x := s)
    unfold so_ at kk
    generalize hM : mu_ h (52 + 2 * e) = m at hm kk
    refine V_mk (by decide +kernel) (Or.inl ⟨rfl, rfl⟩) (Nat.le_of_ble_eq_true rfl) (by simp [sv_c]) ?_
    show V_ _ _ _ 0 [_, _, _, _, _, _, _] [] _ _
    refine vr_iload (q := 2) dX2_seekOrderFrom_0 rfl rfl ?_
    refine vr_iload_n (q := 3) dX2_seekOrderFrom_2 rfl rfl ?_
    -- at X2.seekOrderFrom 3: .invokestatic 67
    refine vr_is1 (q := 6) dX2_seekOrderFrom_3 rfl vX2_67 (Nat.le_of_ble_eq_true rfl) ?_
    refine c_bitCount hs ?_
    refine vr_iaddN (q := 7) dX2_seekOrderFrom_6 rfl ⟨by omega, by omega⟩ ?_
    refine vr_aload_n (q := 8) dX2_seekOrderFrom_7 rfl rfl ?_
    refine vr_getV (ji := 4) (q := 11) dX2_seekOrderFrom_8 rfl fX2_28 rfl rfl (hb.2.1) ?_
    -- at X2.seekOrderFrom 11: .if_icmp .gt 4
    refine vr_ic_gt (t := 15) (q := 14) dX2_seekOrderFrom_11 (by decide) rfl (fun c1 => ?_) (fun c1 => ?_)
    · rw [if_pos c1] at kk
      refine vr_iload_n (q := 16) dX2_seekOrderFrom_15 rfl rfl ?_
      -- at X2.seekOrderFrom 16: .ifCond .eq 9
      refine vr_if_eq (t := 25) (q := 19) dX2_seekOrderFrom_16 (by decide) rfl (fun c2 => ?_) (fun c2 => ?_)
      · rw [if_pos c2] at kk
        refine vr_aload_n (q := 26) dX2_seekOrderFrom_25 rfl rfl ?_
        refine vr_iload_n (q := 27) dX2_seekOrderFrom_26 rfl rfl ?_
        refine vr_iload (q := 29) dX2_seekOrderFrom_27 rfl rfl ?_
        -- at X2.seekOrderFrom 29: .invokevirtual 72
        refine vr_iv2 (q := 32) dX2_seekOrderFrom_29 rfl vX2_72 (Nat.le_of_ble_eq_true rfl) ?_
        refine c_keepBest ep (by omega) ⟨by omega, by omega⟩ hp (fun hc k1 k2 => ?_)
        refine vr_vret dX2_seekOrderFrom_32 rfl ?_
        exact kk hc ⟨fun a a1 a2 a3 a4 => k1 a a1 a3, fun x _ => by rw [k1 48 (by decide) (by decide)]⟩ k2
      · rw [if_neg c2] at kk
        refine vr_iload_n (q := 20) dX2_seekOrderFrom_19 rfl rfl ?_
        refine vr_bipush (q := 22) dX2_seekOrderFrom_20 rfl ⟨by decide, by decide⟩ (by decide) ?_
        -- at X2.seekOrderFrom 22: .if_icmp .lt 11
        refine vr_ic_lt (t := 33) (q := 25) dX2_seekOrderFrom_22 (by decide) rfl (fun _ => ?_) (fun c9 => absurd c9 (by omega))
        refine vr_iconst (q := 34) dX2_seekOrderFrom_33 rfl ⟨by decide, by decide⟩ ?_
        refine vr_istore (q := 36) dX2_seekOrderFrom_34 rfl (Nat.le_of_ble_eq_true rfl) rfl rfl ?_
        -- at X2.seekOrderFrom 36: .iload 5
        generalize hF : (fun (l : Int) (y : BR_) => if bt_ s l = 0 then y else so_ (tf_ h) (h 7 2).toNat k (hl_ (tf_ h) m l) (dl_ s l) (if nl_ (tf_ h) m l = 0 then w else w + 1) (p ++ [l]) y) = f at kk
        have lp : ∀ (c i : Nat) (y : BR_) (hq : SH_) (o5 : Option SV_), (i : Int) + c = h 7 2 → fo_ f (h 7 2).toNat 0 b = fo_ f c i y → sq_ e h hq → br_ hq y → V_ g (d + (k + 1) + 6) mX2_seekOrderFrom 36 [some (sv_r 4 2 46), some (sv_r 4 6 7), some (sv_i e), some (sv_i s), some (sv_i w), some (sv_i i), o5] [] hq Post := by
          intro c
          induction c with
          | zero =>
            intro i y hq o5 hi ef s1 b1
            have e7 := sq_lo s1 he (x := 7) (by omega)
            rw [ef] at kk
            refine vr_iload (q := 38) dX2_seekOrderFrom_36 rfl rfl ?_
            refine vr_aload_n (q := 39) dX2_seekOrderFrom_38 rfl rfl ?_
            refine vr_getV (ji := 2) (q := 42) dX2_seekOrderFrom_39 rfl fX2_55 rfl rfl (by rw [e7]) ?_
            -- at X2.seekOrderFrom 42: .if_icmp .ge 58
            refine vr_ic_ge (t := 100) (q := 45) dX2_seekOrderFrom_42 (by decide) rfl (fun _ => ?_) (fun c9 => absurd c9 (by omega))
            refine vr_vret dX2_seekOrderFrom_100 rfl ?_
            exact kk hq s1 b1
          | succ c ihc =>
            intro i y hq o5 hi ef s1 b1
            have e7 := sq_lo s1 he (x := 7) (by omega)
            have q8 := sq_lo s1 he (x := 8) (by omega)
            have q9 := sq_lo s1 he (x := 9) (by omega)
            have q10 := sq_lo s1 he (x := 10) (by omega)
            have hlo := o.2.2.2.1 i (by omega) (by omega)
            have ef2 : fo_ f (c + 1) i y = fo_ f c (i + 1) (f i y) := rfl
            have efi : f i y = if bt_ s i = 0 then y else so_ (tf_ h) (h 7 2).toNat k (hl_ (tf_ h) m i) (dl_ s i) (if nl_ (tf_ h) m i = 0 then w else w + 1) (p ++ [(i : Int)]) y := by rw [← hF]
            have mq : mu_ hq (52 + 2 * e) = m := by rw [sq_mu s1 he, hM]
            have hpq : pp_ hq p := pp_e ep s1.2 hp
            refine vr_iload (q := 38) dX2_seekOrderFrom_36 rfl rfl ?_
            refine vr_aload_n (q := 39) dX2_seekOrderFrom_38 rfl rfl ?_
            refine vr_getV (ji := 2) (q := 42) dX2_seekOrderFrom_39 rfl fX2_55 rfl rfl (by rw [e7]) ?_
            -- at X2.seekOrderFrom 42: .if_icmp .ge 58
            refine vr_ic_ge (t := 100) (q := 45) dX2_seekOrderFrom_42 (by decide) rfl (fun c9 => absurd c9 (by omega)) (fun _ => ?_)
            refine vr_iload_n (q := 46) dX2_seekOrderFrom_45 rfl rfl ?_
            refine vr_iload (q := 48) dX2_seekOrderFrom_46 rfl rfl ?_
            refine vr_ishr (q := 49) dX2_seekOrderFrom_48 rfl ?_
            refine vr_iconst (q := 50) dX2_seekOrderFrom_49 rfl ⟨by decide, by decide⟩ ?_
            refine vr_iand (q := 51) dX2_seekOrderFrom_50 rfl ?_
            -- at X2.seekOrderFrom 51: .ifCond .eq 43
            refine vr_if_eq (t := 94) (q := 54) dX2_seekOrderFrom_51 (by decide) rfl (fun c3 => ?_) (fun c3 => ?_)
            · have c4 : bt_ s i = 0 := c3
              rw [if_pos c4] at efi
              rw [efi] at ef2
              refine vr_iinc (q := 97) dX2_seekOrderFrom_94 rfl rfl ⟨by omega, by omega⟩ (Nat.le_of_ble_eq_true rfl) rfl rfl ?_
              refine vr_goto (q := 36) dX2_seekOrderFrom_97 (by decide) ?_
              -- at X2.seekOrderFrom 36: .iload 5
              exact ihc (i + 1) y hq _ (by omega) (ef.trans ef2) s1 b1
            · have c4 : ¬ bt_ s i = 0 := c3
              rw [if_neg c4] at efi
              refine vr_aload_n (q := 55) dX2_seekOrderFrom_54 rfl rfl ?_
              refine vr_aload_n (q := 56) dX2_seekOrderFrom_55 rfl rfl ?_
              refine vr_iload_n (q := 57) dX2_seekOrderFrom_56 rfl rfl ?_
              refine vr_iload (q := 59) dX2_seekOrderFrom_57 rfl rfl ?_
              -- at X2.seekOrderFrom 59: .invokevirtual 76
              refine vr_iv3 (q := 62) dX2_seekOrderFrom_59 rfl vX2_76 (Nat.le_of_ble_eq_true rfl) ?_
              refine c_tryNext (n := 6 + e) ⟨he, by omega⟩ ⟨by omega, by omega⟩ (by rw [q8, q9, q10]; exact hlo) (by rw [mq]; exact hm) (by omega) ?_
              rw [mq, sq_tf s1 he]
              have s2 : sd_ e hq (tn_ hq e i) := sd_n ⟨he, by omega⟩
              have m2 : mu_ (tn_ hq e i) (52 + 2 * (e + 1)) = hl_ (tf_ h) m i := by rw [tn_mu, mq, sq_tf s1 he]
              have p2 : tn_ hq e i 48 e = i := tn_p he
              generalize tn_ hq e i = h2 at s2 m2 p2 ⊢
              have s3 : sq_ e h h2 := sq_t s1 (sq_s s2)
              have b3 : br_ h2 y := br_sd s2 he b1
              have f7 := sq_lo s3 he (x := 7) (by omega)
              have hp3 : pp_ h2 (p ++ [(i : Int)]) := fun j x hx => by
                by_cases hj : j < p.length
                · rw [List.getElem?_append_left hj] at hx
                  rw [s2.2 j (by omega)]
                  exact hpq j x hx
                · rw [List.getElem?_append_right (by omega)] at hx
                  have hz : j - p.length < 1 := (List.getElem?_eq_some_iff.mp hx).1
                  rw [show j - p.length = 0 by omega] at hx
                  cases hx
                  rw [show (j : Int) = e by omega]
                  exact p2
              have rc0 : ∀ z : Int, z = (if nl_ (tf_ h) m i = 0 then w else w + 1) → (0 ≤ z ∧ z ≤ e + 1) → ∀ o5 : Option SV_, Ctr_ g (d + k + 6) mX2_seekOrderFrom [sv_r 4 2 46, sv_r 4 6 7, sv_i (e + 1), sv_i (dl_ s i), sv_i z] h2 (fun r h' => V_ g (d + (k + 1) + 6) mX2_seekOrderFrom 94 [some (sv_r 4 2 46), some (sv_r 4 6 7), some (sv_i e), some (sv_i s), some (sv_i w), some (sv_i i), o5] (so_p r []) h' Post) := by
                intro z hz hz2 o5
                refine ih (e + 1) (dl_ s i) z (p ++ [(i : Int)]) y h2 _ (sq_to s3 he o) (by simp; omega) (by omega) (dl_r hs ⟨by omega, by omega⟩) hz2 (by rw [m2, show 6 + (e + 1) = 6 + e + 1 by omega]; exact he_mo hlo hm) hp3 b3 (fun h4 s4 b4 => ?_)
                rw [m2, sq_tf s3 he, f7, hz, ← efi] at b4
                refine vr_iinc (q := 97) dX2_seekOrderFrom_94 rfl rfl ⟨by omega, by omega⟩ (Nat.le_of_ble_eq_true rfl) rfl rfl ?_
                refine vr_goto (q := 36) dX2_seekOrderFrom_97 (by decide) ?_
                -- at X2.seekOrderFrom 36: .iload 5
                exact ihc (i + 1) (f i y) h4 _ (by omega) (ef.trans ef2) (sq_t s3 (sq_up s4)) b4
              refine vr_istore (q := 64) dX2_seekOrderFrom_62 rfl (Nat.le_of_ble_eq_true rfl) rfl rfl ?_
              refine vr_aload_n (q := 65) dX2_seekOrderFrom_64 rfl rfl ?_
              refine vr_aload_n (q := 66) dX2_seekOrderFrom_65 rfl rfl ?_
              refine vr_iload_n (q := 67) dX2_seekOrderFrom_66 rfl rfl ?_
              refine vr_iconst (q := 68) dX2_seekOrderFrom_67 rfl ⟨by decide, by decide⟩ ?_
              refine vr_iaddN (q := 69) dX2_seekOrderFrom_68 rfl ⟨by omega, by omega⟩ ?_
              refine vr_iload_n (q := 70) dX2_seekOrderFrom_69 rfl rfl ?_
              refine vr_iconst (q := 71) dX2_seekOrderFrom_70 rfl ⟨by decide, by decide⟩ ?_
              refine vr_iload (q := 73) dX2_seekOrderFrom_71 rfl rfl ?_
              refine vr_ishl (q := 74) dX2_seekOrderFrom_73 rfl ?_
              refine vr_iconst (q := 75) dX2_seekOrderFrom_74 rfl ⟨by decide, by decide⟩ ?_
              refine vr_ixor (q := 76) dX2_seekOrderFrom_75 rfl ?_
              refine vr_iand (q := 77) dX2_seekOrderFrom_76 rfl ?_
              refine vr_iload (q := 79) dX2_seekOrderFrom_77 rfl rfl ?_
              -- at X2.seekOrderFrom 79: .ifCond .eq 10
              refine vr_if_eq (t := 89) (q := 82) dX2_seekOrderFrom_79 (by decide) rfl (fun c5 => ?_) (fun c5 => ?_)
              · refine vr_iload (q := 91) dX2_seekOrderFrom_89 rfl rfl ?_
                -- at X2.seekOrderFrom 91: .invokevirtual 62
                refine vr_iv4 (q := 94) dX2_seekOrderFrom_91 rfl vX2_62 (Nat.le_of_ble_eq_true rfl) ?_
                exact rc0 w (if_pos c5).symm ⟨by omega, by omega⟩ _
              · refine vr_iload (q := 84) dX2_seekOrderFrom_82 rfl rfl ?_
                refine vr_iconst (q := 85) dX2_seekOrderFrom_84 rfl ⟨by decide, by decide⟩ ?_
                refine vr_iaddN (q := 86) dX2_seekOrderFrom_85 rfl ⟨by omega, by omega⟩ ?_
                refine vr_goto (q := 91) dX2_seekOrderFrom_86 (by decide) ?_
                -- at X2.seekOrderFrom 91: .invokevirtual 62
                refine vr_iv4 (q := 94) dX2_seekOrderFrom_91 rfl vX2_62 (Nat.le_of_ble_eq_true rfl) ?_
                exact rc0 (w + 1) (if_neg c5).symm ⟨by omega, by omega⟩ _
        exact lp (h 7 2).toNat 0 b h none (by omega) rfl (sq_r e h) hb
    · rw [if_neg c1] at kk
      refine vr_vret dX2_seekOrderFrom_14 rfl ?_
      exact kk h (sq_r e h) hb
/-- the best order of a set for stranger s: the row, at how many it nods -/
def od_ (h : SH_) (s x : Int) : BR_ := so_ (tf_ h) (h 7 2).toNat 6 (en_ h s) x 0 [] ([], -1)
theorem c_seekOrder {h : SH_} {Post : Option SV_ → SH_ → Prop} {s x : Int} (o : to_ h) (hs : 0 ≤ s ∧ s < h 7 3) (hx : 0 ≤ x ∧ x < 64) (kk : ∀ h2, fk_ h h2 → br_ h2 (od_ h s x) → Post none h2) : Ctr_ g (d + 13) mX2_seekOrder [sv_r 4 2 46, sv_r 4 6 7, sv_i s, sv_i x] h Post := by
  have k1 : fk_ h (hs_ (hs_ (ms_ h 52 (en_ h s)) 46 3 0) 46 4 (-1)) := fk_s ⟨by decide, by decide⟩ (fk_s ⟨by decide, by decide⟩ (fk_m ⟨by decide, by decide⟩ (fk_r h)))
  have m1 : mu_ (hs_ (hs_ (ms_ h 52 (en_ h s)) 46 3 0) 46 4 (-1)) 52 = en_ h s := by
    have e := mu_ms h 52 (en_ h s)
    unfold mu_ at e ⊢
    rw [hs_k (by decide), hs_k (by decide), hs_k (by decide), hs_k (by decide)]
    exact e
  have b1 : br_ (hs_ (hs_ (ms_ h 52 (en_ h s)) 46 3 0) 46 4 (-1)) ([], -1) := ⟨by rw [hs_n (by omega), hs_e]; rfl, hs_e _ _ _ _, by decide, ⟨by decide, by decide⟩, fun i y hy => by simp at hy⟩
  refine V_mk (by decide +kernel) (Or.inl ⟨rfl, rfl⟩) (Nat.le_of_ble_eq_true rfl) (by simp [sv_c]) ?_
  show V_ _ _ _ 0 [_, _, _, _] [] _ _
  refine vr_aload_n (q := 1) dX2_seekOrder_0 rfl rfl ?_
  refine vr_aload_n (q := 2) dX2_seekOrder_1 rfl rfl ?_
  refine vr_iload_n (q := 3) dX2_seekOrder_2 rfl rfl ?_
  -- at X2.seekOrder 3: .invokevirtual 45
  refine vr_iv2 (q := 6) dX2_seekOrder_3 rfl vX2_45 (Nat.le_of_ble_eq_true rfl) ?_
  refine c_mindOf o hs ?_
  refine vr_pop (q := 7) dX2_seekOrder_6 rfl rfl ?_
  refine vr_aload_n (q := 8) dX2_seekOrder_7 rfl rfl ?_
  refine vr_iconst (q := 9) dX2_seekOrder_8 rfl ⟨by decide, by decide⟩ ?_
  refine vr_put (ji := 3) (q := 12) dX2_seekOrder_9 rfl pX2_24 rfl rfl ?_
  refine vr_aload_n (q := 13) dX2_seekOrder_12 rfl rfl ?_
  refine vr_iconst (q := 14) dX2_seekOrder_13 rfl ⟨by decide, by decide⟩ ?_
  refine vr_put (ji := 4) (q := 17) dX2_seekOrder_14 rfl pX2_28 rfl rfl ?_
  refine vr_aload_n (q := 18) dX2_seekOrder_17 rfl rfl ?_
  refine vr_aload_n (q := 19) dX2_seekOrder_18 rfl rfl ?_
  refine vr_iconst (q := 20) dX2_seekOrder_19 rfl ⟨by decide, by decide⟩ ?_
  refine vr_iload_n (q := 21) dX2_seekOrder_20 rfl rfl ?_
  refine vr_iconst (q := 22) dX2_seekOrder_21 rfl ⟨by decide, by decide⟩ ?_
  -- at X2.seekOrder 22: .invokevirtual 62
  generalize hs_ (hs_ (ms_ h 52 (en_ h s)) 46 3 0) 46 4 (-1) = h1 at k1 m1 b1 ⊢
  refine vr_iv4 (q := 25) dX2_seekOrder_22 rfl vX2_62 (Nat.le_of_ble_eq_true rfl) ?_
  refine c_seekOrderFrom (d := d) 6 0 x 0 [] ([], -1) h1 _ (fk_to k1 o) rfl (by decide) hx ⟨by decide, by decide⟩ (by rw [show (52 : Int) + 2 * 0 = 52 by decide, m1]; exact en_mo o hs) (fun i y hy => by simp at hy) b1 (fun h2 s2 b2 => ?_)
  rw [show (52 : Int) + 2 * 0 = 52 by decide, m1, fk_tf k1, k1 7 (by omega)] at b2
  refine vr_vret dX2_seekOrder_25 rfl ?_
  exact kk h2 (fk_t k1 (sq_fk s2 (by decide))) b2
/-- which lies are dead for stranger s -/
def dd_ (h : SH_) (s : Int) : Int := df_ (tf_ h) (h 7 2).toNat 6 (en_ h s) (ut_ (h 7 2) (h 13 s)) (ut_ (h 7 2) (h 13 s))
theorem c_deadLies {h : SH_} {Post : Option SV_ → SH_ → Prop} {s : Int} (o : to_ h) (hs : 0 ≤ s ∧ s < h 7 3) (kk : ∀ h2, fk_ h h2 → Post (some (sv_i (dd_ h s))) h2) : Ctr_ g (d + 13) mX2_deadLies [sv_r 4 2 46, sv_r 4 6 7, sv_i s] h Post := by
  have o2 := o.2.1
  have k1 : fk_ h (ms_ h 52 (en_ h s)) := fk_m ⟨by decide, by decide⟩ (fk_r h)
  have m1 := mu_ms h 52 (en_ h s)
  refine V_mk (by decide +kernel) (Or.inr (Or.inl ⟨rfl, rfl⟩)) (Nat.le_of_ble_eq_true rfl) (by simp [sv_c]) ?_
  show V_ _ _ _ 0 [_, _, _, _] [] _ _
  refine vr_aload_n (q := 1) dX2_deadLies_0 rfl rfl ?_
  refine vr_aload_n (q := 2) dX2_deadLies_1 rfl rfl ?_
  refine vr_iload_n (q := 3) dX2_deadLies_2 rfl rfl ?_
  -- at X2.deadLies 3: .invokevirtual 45
  refine vr_iv2 (q := 6) dX2_deadLies_3 rfl vX2_45 (Nat.le_of_ble_eq_true rfl) ?_
  refine c_mindOf o hs ?_
  refine vr_pop (q := 7) dX2_deadLies_6 rfl rfl ?_
  refine vr_aload_n (q := 8) dX2_deadLies_7 rfl rfl ?_
  refine vr_iload_n (q := 9) dX2_deadLies_8 rfl rfl ?_
  -- at X2.deadLies 9: .invokevirtual 49
  generalize ms_ h 52 (en_ h s) = h1 at k1 m1 ⊢
  refine vr_iv1 (q := 12) dX2_deadLies_9 rfl vX2_49 (Nat.le_of_ble_eq_true rfl) ?_
  refine c_untold ⟨by omega, by omega⟩ (by rw [k1 7 (by omega)]; exact o.1) ?_
  rw [k1 7 (by omega), k1 13 (by omega)]
  refine vr_istore_n (q := 13) dX2_deadLies_12 rfl rfl (Nat.le_of_ble_eq_true rfl) rfl rfl ?_
  refine vr_aload_n (q := 14) dX2_deadLies_13 rfl rfl ?_
  refine vr_aload_n (q := 15) dX2_deadLies_14 rfl rfl ?_
  refine vr_iconst (q := 16) dX2_deadLies_15 rfl ⟨by decide, by decide⟩ ?_
  refine vr_iload_n (q := 17) dX2_deadLies_16 rfl rfl ?_
  refine vr_iload_n (q := 18) dX2_deadLies_17 rfl rfl ?_
  -- at X2.deadLies 18: .invokevirtual 92
  refine vr_iv4 (q := 21) dX2_deadLies_18 rfl vX2_92 (Nat.le_of_ble_eq_true rfl) ?_
  refine c_deadFrom (d := d) 6 0 _ _ h1 _ (fk_to k1 o) (by decide) (by decide) (by rw [show (52 : Int) + 2 * 0 = 52 by decide, m1]; exact en_mo o hs) (fun h2 s2 => ?_)
  rw [show (52 : Int) + 2 * 0 = 52 by decide, m1, fk_tf k1, k1 7 (by omega)]
  refine vr_iret dX2_deadLies_21 rfl ?_
  exact kk h2 (fk_t k1 (sd_fk s2 (by decide)))
theorem c_waysToNod {h : SH_} {Post : Option SV_ → SH_ → Prop} {s w c n : Int} (o : to_ h) (hs : 0 ≤ s ∧ s < h 7 3) (hc : 0 ≤ c ∧ c ≤ 10) (hw : 0 ≤ w ∧ w ≤ 6) (hn : 0 ≤ n ∧ n ≤ 6) (e8 : h 46 7 = n) (hL : ∀ t, 0 ≤ t → t < n → 0 ≤ h 50 t ∧ h 50 t < h 7 2) (kk : ∀ h2, sd_ 0 (ms_ h 52 (en_ h s)) h2 → Post (some (sv_i (wf_ (tf_ h) (h 50) c n.toNat 0 (en_ h s) w))) h2) : Ctr_ g (d + n.toNat + 6) mX2_waysToNod [sv_r 4 2 46, sv_r 4 6 7, sv_i s, sv_i w, sv_i c] h Post := by
  have k1 : fk_ h (ms_ h 52 (en_ h s)) := fk_m ⟨by decide, by decide⟩ (fk_r h)
  have m1 := mu_ms h 52 (en_ h s)
  have e50 : ms_ h 52 (en_ h s) 50 = h 50 := ms_lo (by decide) (by decide)
  have e46 : ms_ h 52 (en_ h s) 46 = h 46 := ms_lo (by decide) (by decide)
  refine V_mk (by decide +kernel) (Or.inr (Or.inl ⟨rfl, rfl⟩)) (Nat.le_of_ble_eq_true rfl) (by simp [sv_c]) ?_
  show V_ _ _ _ 0 [_, _, _, _, _] [] _ _
  refine vr_aload_n (q := 1) dX2_waysToNod_0 rfl rfl ?_
  refine vr_aload_n (q := 2) dX2_waysToNod_1 rfl rfl ?_
  refine vr_iload_n (q := 3) dX2_waysToNod_2 rfl rfl ?_
  -- at X2.waysToNod 3: .invokevirtual 45
  refine vr_iv2 (q := 6) dX2_waysToNod_3 rfl vX2_45 (Nat.le_of_ble_eq_true rfl) ?_
  refine c_mindOf o hs ?_
  refine vr_pop (q := 7) dX2_waysToNod_6 rfl rfl ?_
  refine vr_aload_n (q := 8) dX2_waysToNod_7 rfl rfl ?_
  refine vr_aload_n (q := 9) dX2_waysToNod_8 rfl rfl ?_
  refine vr_iconst (q := 10) dX2_waysToNod_9 rfl ⟨by decide, by decide⟩ ?_
  refine vr_iload_n (q := 11) dX2_waysToNod_10 rfl rfl ?_
  refine vr_iload (q := 13) dX2_waysToNod_11 rfl rfl ?_
  -- at X2.waysToNod 13: .invokevirtual 122
  refine vr_iv4 (q := 16) dX2_waysToNod_13 rfl vX2_122 (Nat.le_of_ble_eq_true rfl) ?_
  refine c_waysFrom (d := d) hn hc n.toNat 0 w _ _ (fk_to k1 o) (by rw [e46]; exact e8) (by rw [e50, k1 7 (by omega)]; exact hL) (by decide) (by omega) (by rw [show (52 : Int) + 2 * 0 = 52 by decide, m1]; exact en_mo o hs) ⟨by omega, by omega⟩ (fun h2 s2 => ?_)
  rw [show (52 : Int) + 2 * 0 = 52 by decide, m1, fk_tf k1, e50]
  refine vr_iret dX2_waysToNod_16 rfl ?_
  exact kk h2 s2
end PF6_
