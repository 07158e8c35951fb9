/-- what the static rows hold -/
def sx_f (i : Nat) : Nat → Int := fun j => (if i = 0 then ([0, 0, 1, 1, 0, 4] : List Int) else if i = 1 then [10, 11, 12, 0, 13, 14] else [20, 21, 24, 22, 23, 0]).getD j 0
def sx_ (g : SG_) : Prop := ∀ i, i < 3 → sg_X g i = (6, sx_f i)
section PK0_
variable {g : SG_} {d : Nat} {M : MD_} {pc q : Nat} {ls : List (Option SV_)} {st : List SV_} {h : SH_} {Post : Option SV_ → SH_ → Prop}
theorem vr_xaldV {n : Nat} {k i x : Int} (hd : decode M.2.1 pc = .ok (.iaload, 1)) (hq : pc + 1 = q) (hi : 0 ≤ i ∧ i < (sg_X g n).1) (hx : (sg_X g n).2 i.toNat = x) (kk : V_ g d M q ls (sv_i x :: st) h Post) : V_ g d M pc ls (sv_i i :: sv_r 5 n k :: st) h Post := vr_xald hd hq hi (hx ▸ kk)
end PK0_
section PK_
variable {g : SG_} {d : Nat} {h : SH_} {Post : Option SV_ → SH_ → Prop}
theorem c_isKind {r : Int} (kt : (0 ≤ r ∧ r < 6) → Post (some (sv_i 1)) h) (kf : ¬ (0 ≤ r ∧ r < 6) → Post (some (sv_i 0)) h) : Ctr_ g d mX3_isKind [sv_i r] h Post := by
  refine V_mk (by decide +kernel) (Or.inr (Or.inr (Or.inl ⟨rfl, rfl⟩))) (Nat.le_of_ble_eq_true rfl) (by simp [sv_c]) ?_
  show V_ _ _ _ 0 [_] [] _ _
  refine vr_iload_n (q := 1) dX3_isKind_0 rfl rfl ?_
  refine vr_if_lt (t := 14) (q := 4) dX3_isKind_1 (by decide) rfl (fun c1 => ?_) (fun c1 => ?_)
  · refine vr_iconst (q := 15) dX3_isKind_14 rfl ⟨by decide, by decide⟩ ?_
    refine vr_zret dX3_isKind_15 rfl ?_ ?_
    · first | exact Or.inl rfl | exact Or.inr rfl | assumption
    · first | exact kt (by omega) | exact kf (by omega)
  · refine vr_iload_n (q := 5) dX3_isKind_4 rfl rfl ?_
    refine vr_bipush (q := 7) dX3_isKind_5 rfl ⟨by decide, by decide⟩ (by decide) ?_
    refine vr_ic_ge (t := 14) (q := 10) dX3_isKind_7 (by decide) rfl (fun c7 => ?_) (fun c7 => ?_)
    · refine vr_iconst (q := 15) dX3_isKind_14 rfl ⟨by decide, by decide⟩ ?_
      refine vr_zret dX3_isKind_15 rfl ?_ ?_
      · first | exact Or.inl rfl | exact Or.inr rfl | assumption
      · first | exact kt (by omega) | exact kf (by omega)
    · refine vr_iconst (q := 11) dX3_isKind_10 rfl ⟨by decide, by decide⟩ ?_
      refine vr_goto (q := 15) dX3_isKind_11 (by decide) ?_
      refine vr_zret dX3_isKind_15 rfl ?_ ?_
      · first | exact Or.inl rfl | exact Or.inr rfl | assumption
      · first | exact kt (by omega) | exact kf (by omega)
def ab_ (k : Int) : Int := sx_f 0 k.toNat
theorem c_above {k : Int} (hX : sx_ g) (hk : 0 ≤ k ∧ k < 6) (kk : Post (some (sv_i (ab_ k))) h) : Ctr_ g (d + 1) mX3_above [sv_i k] h Post := by
  have e0 := hX 0 (by decide)
  refine V_mk (by decide +kernel) (Or.inr (Or.inl ⟨rfl, rfl⟩)) (Nat.le_of_ble_eq_true rfl) (by simp [sv_c]) ?_
  show V_ _ _ _ 0 [_] [] _ _
  refine vr_iload_n (q := 1) dX3_above_0 rfl rfl ?_
  refine vr_is1 (q := 4) dX3_above_1 rfl vX3_13 (Nat.le_of_ble_eq_true rfl) ?_
  refine c_isKind (fun c1 => ?_) (fun c1 => ?_)
  · refine vr_if_eq (t := 15) (q := 7) dX3_above_4 (by decide) rfl (fun c9 => absurd c9 (by omega)) (fun _ => ?_)
    refine vr_gets (i := 0) (q := 10) dX3_above_7 rfl (by decide) gX3_17 ?_
    refine vr_iload_n (q := 11) dX3_above_10 rfl rfl ?_
    refine vr_xaldV (q := 12) dX3_above_11 rfl (by rw [e0]; exact hk) (by rw [e0]) ?_
    refine vr_goto (q := 16) dX3_above_12 (by decide) ?_
    refine vr_iret dX3_above_16 rfl ?_
    first | exact kk | (exfalso; omega) | (repeat (first | exact kk | rw [if_pos (by omega)] at kk | rw [if_neg (by omega)] at kk))
  · refine vr_if_eq (t := 15) (q := 7) dX3_above_4 (by decide) rfl (fun _ => ?_) (fun c9 => absurd c9 (by omega))
    refine vr_iconst (q := 16) dX3_above_15 rfl ⟨by decide, by decide⟩ ?_
    refine vr_iret dX3_above_16 rfl ?_
    first | exact kk | (exfalso; omega) | (repeat (first | exact kk | rw [if_pos (by omega)] at kk | rw [if_neg (by omega)] at kk))
/-- climbing from c towards w, n steps at most -/
def io_ (w : Int) : Nat → Int → Int
  | 0, c => c
  | n + 1, c => if c = w then c else io_ w n (ab_ c)
theorem ab_r : ∀ n : Fin 6, 0 ≤ ab_ ((n : Nat) : Int) ∧ ab_ ((n : Nat) : Int) < 6 := by decide +kernel
theorem ab_i {k : Int} (hk : 0 ≤ k ∧ k < 6) : 0 ≤ ab_ k ∧ ab_ k < 6 := by
  have e := ab_r ⟨k.toNat, by omega⟩
  rw [show (((⟨k.toNat, by omega⟩ : Fin 6) : Nat) : Int) = k from Int.toNat_of_nonneg hk.1] at e
  exact e
theorem l_isOne {k w : Int} (hX : sx_ g) (kk : Post (some (sv_i (if io_ w 6 k = w then 1 else 0))) h) : ∀ (n i : Nat) (c : Int), (i : Int) + n = 6 → 0 ≤ c ∧ c < 6 → io_ w n c = io_ w 6 k → V_ g (d + 2) mX3_isOne 4 [some (sv_i k), some (sv_i w), some (sv_i c), some (sv_i i)] [] h Post := by
  intro n
  induction n with
  | zero =>
    intro i c hi hc e
    have e2 : c = io_ w 6 k := e
    rw [← e2] at kk
    refine vr_iload_n (q := 5) dX3_isOne_4 rfl rfl ?_
    refine vr_bipush (q := 7) dX3_isOne_5 rfl ⟨by decide, by decide⟩ (by decide) ?_
    -- at X3.isOne 7: .if_icmp .ge 19
    refine vr_ic_ge (t := 26) (q := 10) dX3_isOne_7 (by decide) rfl (fun _ => ?_) (fun c9 => absurd c9 (by omega))
    refine vr_iload_n (q := 27) dX3_isOne_26 rfl rfl ?_
    refine vr_iload_n (q := 28) dX3_isOne_27 rfl rfl ?_
    refine vr_ic_ne (t := 35) (q := 31) dX3_isOne_28 (by decide) rfl (fun c28 => ?_) (fun c28 => ?_)
    · refine vr_iconst (q := 36) dX3_isOne_35 rfl ⟨by decide, by decide⟩ ?_
      refine vr_zret dX3_isOne_36 rfl ?_ ?_
      · first | exact Or.inl rfl | exact Or.inr rfl | assumption
      · first | exact kk | (exfalso; omega) | (repeat (first | exact kk | rw [if_pos (by omega)] at kk | rw [if_neg (by omega)] at kk))
    · refine vr_iconst (q := 32) dX3_isOne_31 rfl ⟨by decide, by decide⟩ ?_
      refine vr_goto (q := 36) dX3_isOne_32 (by decide) ?_
      refine vr_zret dX3_isOne_36 rfl ?_ ?_
      · first | exact Or.inl rfl | exact Or.inr rfl | assumption
      · first | exact kk | (exfalso; omega) | (repeat (first | exact kk | rw [if_pos (by omega)] at kk | rw [if_neg (by omega)] at kk))
  | succ n ih =>
    intro i c hi hc e
    refine vr_iload_n (q := 5) dX3_isOne_4 rfl rfl ?_
    refine vr_bipush (q := 7) dX3_isOne_5 rfl ⟨by decide, by decide⟩ (by decide) ?_
    -- at X3.isOne 7: .if_icmp .ge 19
    refine vr_ic_ge (t := 26) (q := 10) dX3_isOne_7 (by decide) rfl (fun c9 => absurd c9 (by omega)) (fun _ => ?_)
    refine vr_iload_n (q := 11) dX3_isOne_10 rfl rfl ?_
    refine vr_iload_n (q := 12) dX3_isOne_11 rfl rfl ?_
    -- at X3.isOne 12: .if_icmp .eq 14
    refine vr_ic_eq (t := 26) (q := 15) dX3_isOne_12 (by decide) rfl (fun c1 => ?_) (fun c1 => ?_)
    · have e2 : c = io_ w 6 k := by rw [← e]; show c = if c = w then c else _; rw [if_pos c1]
      rw [← e2] at kk
      refine vr_iload_n (q := 27) dX3_isOne_26 rfl rfl ?_
      refine vr_iload_n (q := 28) dX3_isOne_27 rfl rfl ?_
      refine vr_ic_ne (t := 35) (q := 31) dX3_isOne_28 (by decide) rfl (fun c28 => ?_) (fun c28 => ?_)
      · refine vr_iconst (q := 36) dX3_isOne_35 rfl ⟨by decide, by decide⟩ ?_
        refine vr_zret dX3_isOne_36 rfl ?_ ?_
        · first | exact Or.inl rfl | exact Or.inr rfl | assumption
        · first | exact kk | (exfalso; omega) | (repeat (first | exact kk | rw [if_pos (by omega)] at kk | rw [if_neg (by omega)] at kk))
      · refine vr_iconst (q := 32) dX3_isOne_31 rfl ⟨by decide, by decide⟩ ?_
        refine vr_goto (q := 36) dX3_isOne_32 (by decide) ?_
        refine vr_zret dX3_isOne_36 rfl ?_ ?_
        · first | exact Or.inl rfl | exact Or.inr rfl | assumption
        · first | exact kk | (exfalso; omega) | (repeat (first | exact kk | rw [if_pos (by omega)] at kk | rw [if_neg (by omega)] at kk))
    · have e2 : io_ w n (ab_ c) = io_ w 6 k := by rw [← e]; show _ = if c = w then c else _; rw [if_neg c1]
      refine vr_iload_n (q := 16) dX3_isOne_15 rfl rfl ?_
      -- at X3.isOne 16: .invokestatic 9
      refine vr_is1 (q := 19) dX3_isOne_16 rfl vX3_9 (Nat.le_of_ble_eq_true rfl) ?_
      refine c_above hX hc ?_
      refine vr_istore_n (q := 20) dX3_isOne_19 rfl rfl (Nat.le_of_ble_eq_true rfl) rfl rfl ?_
      refine vr_iinc (q := 23) dX3_isOne_20 rfl rfl ⟨by omega, by omega⟩ (Nat.le_of_ble_eq_true rfl) rfl rfl ?_
      refine vr_goto (q := 4) dX3_isOne_23 (by decide) ?_
      -- at X3.isOne 4: .iload_n 3
      exact ih (i + 1) (ab_ c) (by omega) (ab_i hc) e2
/-- whether a lie of kind k is one of kind w -/
def is_ (k w : Int) : Prop := w = 0 ∨ w = k ∨ (w = 1 ∧ (k = 2 ∨ k = 3)) ∨ (w = 4 ∧ k = 5)
theorem io_is {k w : Int} (hk : 1 ≤ k ∧ k ≤ 5) (hw : 0 ≤ w ∧ w < 6) : io_ w 6 k = w ↔ is_ k w := by
  unfold is_
  rcases (by omega : k = 1 ∨ k = 2 ∨ k = 3 ∨ k = 4 ∨ k = 5) with rfl | rfl | rfl | rfl | rfl <;> rcases (by omega : w = 0 ∨ w = 1 ∨ w = 2 ∨ w = 3 ∨ w = 4 ∨ w = 5) with rfl | rfl | rfl | rfl | rfl | rfl <;> decide +kernel
theorem c_isOne {k w : Int} (hX : sx_ g) (hk : 1 ≤ k ∧ k ≤ 5) (hw : 0 ≤ w ∧ w < 6) (kt : is_ k w → Post (some (sv_i 1)) h) (kf : ¬ is_ k w → Post (some (sv_i 0)) h) : Ctr_ g (d + 2) mX3_isOne [sv_i k, sv_i w] h Post := by
  refine V_mk (by decide +kernel) (Or.inr (Or.inr (Or.inl ⟨rfl, rfl⟩))) (Nat.le_of_ble_eq_true rfl) (by simp [sv_c]) ?_
  show V_ _ _ _ 0 [_, _, _, _] [] _ _
  refine vr_iload_n (q := 1) dX3_isOne_0 rfl rfl ?_
  refine vr_istore_n (q := 2) dX3_isOne_1 rfl rfl (Nat.le_of_ble_eq_true rfl) rfl rfl ?_
  refine vr_iconst (q := 3) dX3_isOne_2 rfl ⟨by decide, by decide⟩ ?_
  refine vr_istore_n (q := 4) dX3_isOne_3 rfl rfl (Nat.le_of_ble_eq_true rfl) rfl rfl ?_
  -- at X3.isOne 4: .iload_n 3
  refine l_isOne hX ?_ 6 0 k (by omega) (by omega) rfl
  by_cases c1 : io_ w 6 k = w
  · rw [if_pos c1]
    exact kt ((io_is hk hw).mp c1)
  · rw [if_neg c1]
    exact kf (fun z => c1 ((io_is hk hw).mpr z))
/-- the kind that a letter begins; 0 none -/
def kl_ (x : Int) : Int := if x = 101 then 1 else if x = 97 then 2 else if x = 104 then 3 else if x = 112 then 4 else if x = 108 then 5 else 0
theorem c_ofLetter {x : Int} (kk : Post (some (sv_i (kl_ x))) h) : Ctr_ g d mX3_ofLetter [sv_i x] h Post := by
  unfold kl_ at kk
  refine V_mk (by decide +kernel) (Or.inr (Or.inl ⟨rfl, rfl⟩)) (Nat.le_of_ble_eq_true rfl) (by simp [sv_c]) ?_
  show V_ _ _ _ 0 [_] [] _ _
  refine vr_iload_n (q := 1) dX3_ofLetter_0 rfl rfl ?_
  -- at X3.ofLetter 1: .lookupswitch 61 #[(97, 53), (101, 51), (104, 55), (108, 59), (112, 57)]
  by_cases c1 : x = 101
  · subst c1
    refine vr_lsw (q := 52) dX3_ofLetter_1 rfl rfl (by decide) ?_
    refine vr_iconst (q := 53) dX3_ofLetter_52 rfl ⟨by decide, by decide⟩ ?_
    refine vr_iret dX3_ofLetter_53 rfl ?_
    first | exact kk | (exfalso; omega) | (repeat (first | exact kk | rw [if_pos (by omega)] at kk | rw [if_neg (by omega)] at kk))
  by_cases c2 : x = 97
  · subst c2
    refine vr_lsw (q := 54) dX3_ofLetter_1 rfl rfl (by decide) ?_
    refine vr_iconst (q := 55) dX3_ofLetter_54 rfl ⟨by decide, by decide⟩ ?_
    refine vr_iret dX3_ofLetter_55 rfl ?_
    first | exact kk | (exfalso; omega) | (repeat (first | exact kk | rw [if_pos (by omega)] at kk | rw [if_neg (by omega)] at kk))
  by_cases c3 : x = 104
  · subst c3
    refine vr_lsw (q := 56) dX3_ofLetter_1 rfl rfl (by decide) ?_
    refine vr_iconst (q := 57) dX3_ofLetter_56 rfl ⟨by decide, by decide⟩ ?_
    refine vr_iret dX3_ofLetter_57 rfl ?_
    first | exact kk | (exfalso; omega) | (repeat (first | exact kk | rw [if_pos (by omega)] at kk | rw [if_neg (by omega)] at kk))
  by_cases c4 : x = 112
  · subst c4
    refine vr_lsw (q := 58) dX3_ofLetter_1 rfl rfl (by decide) ?_
    refine vr_iconst (q := 59) dX3_ofLetter_58 rfl ⟨by decide, by decide⟩ ?_
    refine vr_iret dX3_ofLetter_59 rfl ?_
    first | exact kk | (exfalso; omega) | (repeat (first | exact kk | rw [if_pos (by omega)] at kk | rw [if_neg (by omega)] at kk))
  by_cases c5 : x = 108
  · subst c5
    refine vr_lsw (q := 60) dX3_ofLetter_1 rfl rfl (by decide) ?_
    refine vr_iconst (q := 61) dX3_ofLetter_60 rfl ⟨by decide, by decide⟩ ?_
    refine vr_iret dX3_ofLetter_61 rfl ?_
    first | exact kk | (exfalso; omega) | (repeat (first | exact kk | rw [if_pos (by omega)] at kk | rw [if_neg (by omega)] at kk))
  rw [if_neg c1, if_neg c2, if_neg c3, if_neg c4, if_neg c5] at kk
  refine vr_lsw (q := 62) dX3_ofLetter_1 rfl (by simp only [Op.lookupswitch.offset_cons, Op.lookupswitch.offset_nil]; rw [if_neg (by omega), if_neg (by omega), if_neg (by omega), if_neg (by omega), if_neg (by omega)]) (by decide) ?_
  refine vr_iconst (q := 63) dX3_ofLetter_62 rfl ⟨by decide, by decide⟩ ?_
  refine vr_iret dX3_ofLetter_63 rfl ?_
  first | exact kk | (exfalso; omega) | (repeat (first | exact kk | rw [if_pos (by omega)] at kk | rw [if_neg (by omega)] at kk))
end PK_
