/-- at depth e: minds deeper than e and the path from e on are free -/
def sd_ (e : Int) (h hc : SH_) : Prop := (∀ a, a ≠ 48 → ¬ (54 + 2 * e ≤ a ∧ a ≤ 65) → hc a = h a) ∧ ∀ b, b < e → hc 48 b = h 48 b
theorem sd_r (e : Int) (h : SH_) : sd_ e h h := ⟨fun _ _ _ => rfl, fun _ _ => rfl⟩
theorem sd_t {e : Int} {h h1 h2 : SH_} (a : sd_ e h h1) (b : sd_ e h1 h2) : sd_ e h h2 := ⟨fun x x1 x2 => (b.1 x x1 x2).trans (a.1 x x1 x2), fun x hx => (b.2 x hx).trans (a.2 x hx)⟩
theorem sd_up {e : Int} {h h1 : SH_} (a : sd_ (e + 1) h h1) : sd_ e h h1 := ⟨fun x x1 x2 => a.1 x x1 (by omega), fun x hx => a.2 x (by omega)⟩
theorem sd_m {e : Int} {h : SH_} (he : 0 ≤ e ∧ e < 6) (m : MU_) : sd_ e h (ms_ h (52 + 2 * (e + 1)) m) := ⟨fun x x1 x2 => ms_n (by omega) (by omega), fun x hx => by rw [ms_n (by omega) (by omega)]⟩
theorem sd_n {e l : Int} {h : SH_} (he : 0 ≤ e ∧ e < 6) : sd_ e h (tn_ h e l) := by
  unfold tn_
  refine ⟨fun x x1 x2 => ?_, fun x hx => ?_⟩
  · rw [ms_n (by omega) (by omega), hs_k x1]
  · rw [ms_n (by omega) (by omega), hs_n (by omega)]
theorem sd_mu {e : Int} {h hc : SH_} (a : sd_ e h hc) (he : 0 ≤ e) : mu_ hc (52 + 2 * e) = mu_ h (52 + 2 * e) := by
  unfold mu_
  rw [a.1 _ (by omega) (by omega), a.1 _ (by omega) (by omega)]
theorem sd_lo {e : Int} {h hc : SH_} (a : sd_ e h hc) (he : 0 ≤ e) {x : Int} (hx : x < 48 ∨ 65 < x ∨ (48 < x ∧ x < 54)) : hc x = h x := a.1 x (by omega) (by omega)
theorem sd_to {e : Int} {h hc : SH_} (a : sd_ e h hc) (he : 0 ≤ e) (o : to_ h) : to_ hc := to_k (fun x _ _ => sd_lo a he (by omega)) o
theorem sd_tf {e : Int} {h hc : SH_} (a : sd_ e h hc) (he : 0 ≤ e) : tf_ hc = tf_ h := tf_k (fun x _ _ => sd_lo a he (by omega))
theorem sd_fk {e : Int} {h hc : SH_} (a : sd_ e h hc) (he : 0 ≤ e) : fk_ h hc := fun x hx => sd_lo a he (by omega)
/-- in how many of 10^k ways it nods w times or more -/
def wf_ (F : TF_) (L : Int → Int) (c : Int) : Nat → Int → MU_ → Int → Int
  | 0, _, _, w => if 0 < w then 0 else 1
  | k + 1, t, m, w => if nl_ F m (L t) = 0 then 10 * wf_ F L c k (t + 1) (he_ (F.2.1 (L t)) (F.2.2 (L t)) 0 m) w else c * wf_ F L c k (t + 1) (he_ (F.2.1 (L t)) (F.2.2 (L t)) 0 m) w + (10 - c) * wf_ F L c k (t + 1) (he_ (F.2.1 (L t)) (F.2.2 (L t)) 1 m) (w - 1)
theorem wf_r {F : TF_} {L : Int → Int} {c : Int} (hc : 0 ≤ c ∧ c ≤ 10) : ∀ (k : Nat) (t : Int) (m : MU_) (w : Int), 0 ≤ wf_ F L c k t m w ∧ wf_ F L c k t m w ≤ pw_ k := by
  intro k
  induction k with
  | zero =>
    intro t m w
    show 0 ≤ (if 0 < w then (0 : Int) else 1) ∧ (if 0 < w then (0 : Int) else 1) ≤ 1
    split <;> omega
  | succ k ih =>
    intro t m w
    have i1 := ih (t + 1) (he_ (F.2.1 (L t)) (F.2.2 (L t)) 0 m) w
    have i2 := ih (t + 1) (he_ (F.2.1 (L t)) (F.2.2 (L t)) 1 m) (w - 1)
    unfold wf_
    show _ ∧ _ ≤ pw_ k * 10
    split
    · omega
    · have a1 := Int.mul_nonneg hc.1 i1.1
      have a2 := Int.mul_nonneg (show 0 ≤ 10 - c by omega) i2.1
      have a3 := Int.mul_le_mul_of_nonneg_left i1.2 hc.1
      have a4 := Int.mul_le_mul_of_nonneg_left i2.2 (show 0 ≤ 10 - c by omega)
      have a5 : c * pw_ k + (10 - c) * pw_ k = pw_ k * 10 := by
        rw [← Int.add_mul, show c + (10 - c) = 10 by omega, Int.mul_comm]
      omega
/-- the first that isn't none, of c places from i on -/
def fl_ (f : Int → Option (List Int)) : Nat → Int → Option (List Int)
  | 0, _ => none
  | c + 1, i => match f i with
    | some r => some r
    | none => fl_ f c (i + 1)
/-- a set without l -/
def dl_ (s l : Int) : Int := sb_iand s (sb_ixor (sb_ishl 1 l) (-1))
/-- the first row of k lies of a set, told ahead of a lie, so that it nods at it -/
def cp_ (F : TF_) (n : Nat) (lie : Int) : Nat → MU_ → Int → Option (List Int)
  | 0, m, _ => if nl_ F m lie = 0 then none else some []
  | k + 1, m, s => fl_ (fun l => if bt_ s l = 0 then none else (cp_ F n lie k (hl_ F m l) (dl_ s l)).map (fun r => l :: r)) n 0
section PF3_
variable {g : SG_} {d : Nat} {Post : Option SV_ → SH_ → Prop}
theorem c_waysFrom {n c : Int} (hn : 0 ≤ n ∧ n ≤ 6) (hc : 0 ≤ c ∧ c ≤ 10) : ∀ (k : Nat) (e w : Int) (h : SH_) (Post : Option SV_ → SH_ → Prop), to_ h → h 46 7 = n → (∀ t, 0 ≤ t → t < n → 0 ≤ h 50 t ∧ h 50 t < h 7 2) → 0 ≤ e → e + k = n → mo_ (6 + e) (mu_ h (52 + 2 * e)) → (-10 ≤ w - k ∧ w ≤ 10) → (∀ h2, sd_ e h h2 → Post (some (sv_i (wf_ (tf_ h) (h 50) c k e (mu_ h (52 + 2 * e)) w))) h2) → Ctr_ g (d + k + 5) mX2_waysFrom [sv_r 4 2 46, sv_r 4 6 7, sv_i e, sv_i w, sv_i c] h Post := by
  intro k
  induction k with
  | zero =>
    intro e w h Post o e8 hL he hek hm hw kk
    unfold wf_ at kk
    refine V_mk (by decide +kernel) (Or.inr (Or.inl ⟨rfl, rfl⟩)) (Nat.le_of_ble_eq_true rfl) (by simp [sv_c]) ?_
    show V_ _ _ _ 0 [_, _, _, _, _, _, _, _] [] _ _
    refine vr_iload_n (q := 1) dX2_waysFrom_0 rfl rfl ?_
    refine vr_aload_n (q := 2) dX2_waysFrom_1 rfl rfl ?_
    refine vr_getV (ji := 7) (q := 5) dX2_waysFrom_2 rfl fX2_37 rfl rfl (e8) ?_
    -- at X2.waysFrom 5: .if_icmp .ge 9
    refine vr_ic_ge (t := 14) (q := 8) dX2_waysFrom_5 (by decide) rfl (fun _ => ?_) (fun c9 => absurd c9 (by omega))
    refine vr_iload_n (q := 15) dX2_waysFrom_14 rfl rfl ?_
    -- at X2.waysFrom 15: .ifCond .gt 7
    refine vr_if_gt (t := 22) (q := 18) dX2_waysFrom_15 (by decide) rfl (fun c1 => ?_) (fun c1 => ?_)
    · rw [if_pos c1] at kk
      refine vr_iconst (q := 23) dX2_waysFrom_22 rfl ⟨by decide, by decide⟩ ?_
      refine vr_iret dX2_waysFrom_23 rfl ?_
      exact kk _ (sd_r e h)
    · rw [if_neg c1] at kk
      refine vr_iconst (q := 19) dX2_waysFrom_18 rfl ⟨by decide, by decide⟩ ?_
      refine vr_goto (q := 23) dX2_waysFrom_19 (by decide) ?_
      refine vr_iret dX2_waysFrom_23 rfl ?_
      exact kk _ (sd_r e h)
  | succ k ih =>
    intro e w h Post o e8 hL he hek hm hw kk
    have o1 := o.1
    have hl := hL e he (by omega)
    have hlo := o.2.2.2.1 (h 50 e) hl.1 hl.2
    have r1 := wf_r (F := tf_ h) (L := h 50) hc k (e + 1) (he_ (h 9 (h 50 e)) (h 10 (h 50 e)) 0 (mu_ h (52 + 2 * e))) w
    have r2 := wf_r (F := tf_ h) (L := h 50) hc k (e + 1) (he_ (h 9 (h 50 e)) (h 10 (h 50 e)) 1 (mu_ h (52 + 2 * e))) (w - 1)
    have rp := pw_b (n := k) (by omega)
    generalize hM : mu_ h (52 + 2 * e) = m at hm kk r1 r2
    have hx : ∀ (b : Int) (hq : SH_), sd_ e h hq → ∀ (P : Option SV_ → SH_ → Prop), P none (ms_ hq (52 + 2 * (e + 1)) (he_ (h 9 (h 50 e)) (h 10 (h 50 e)) b m)) → Ctr_ g (d + k + 5) mX4_hearAs [sv_r 4 3 (52 + 2 * (e + 1)), sv_r 4 6 7, sv_i (h 50 e), sv_i b] (ms_ hq (52 + 2 * (e + 1)) m) P := by
      intro b hq s1 P hP
      have f8 : ms_ hq (52 + 2 * (e + 1)) m 8 = h 8 := by rw [ms_lo (by omega) (by decide), sd_lo s1 he (by omega)]
      have f9 : ms_ hq (52 + 2 * (e + 1)) m 9 = h 9 := by rw [ms_lo (by omega) (by decide), sd_lo s1 he (by omega)]
      have f10 : ms_ hq (52 + 2 * (e + 1)) m 10 = h 10 := by rw [ms_lo (by omega) (by decide), sd_lo s1 he (by omega)]
      refine c_hearAs (n := 6 + e) ⟨by omega, by omega⟩ (by omega) (by rw [f8, f9, f10]; exact hlo) (by rw [mu_ms]; exact hm) (by omega) ?_
      rw [f9, f10, mu_ms, ms_ms]
      exact hP
    unfold wf_ at kk
    refine V_mk (by decide +kernel) (Or.inr (Or.inl ⟨rfl, rfl⟩)) (Nat.le_of_ble_eq_true rfl) (by simp [sv_c]) ?_
    show V_ _ _ _ 0 [_, _, _, _, _, _, _, _] [] _ _
    refine vr_iload_n (q := 1) dX2_waysFrom_0 rfl rfl ?_
    refine vr_aload_n (q := 2) dX2_waysFrom_1 rfl rfl ?_
    refine vr_getV (ji := 7) (q := 5) dX2_waysFrom_2 rfl fX2_37 rfl rfl (e8) ?_
    -- at X2.waysFrom 5: .if_icmp .ge 9
    refine vr_ic_ge (t := 14) (q := 8) dX2_waysFrom_5 (by decide) rfl (fun c9 => absurd c9 (by omega)) (fun _ => ?_)
    refine vr_iload_n (q := 9) dX2_waysFrom_8 rfl rfl ?_
    refine vr_bipush (q := 11) dX2_waysFrom_9 rfl ⟨by decide, by decide⟩ (by decide) ?_
    -- at X2.waysFrom 11: .if_icmp .lt 13
    refine vr_ic_lt (t := 24) (q := 14) dX2_waysFrom_11 (by decide) rfl (fun _ => ?_) (fun c9 => absurd c9 (by omega))
    refine vr_aload_n (q := 25) dX2_waysFrom_24 rfl rfl ?_
    refine vr_getR (q := 28) dX2_waysFrom_25 rfl fX2_31 rfl y_X2_5 (by first | (simp only [Int.reduceAdd]; rfl) | rfl) ?_
    refine vr_iload_n (q := 29) dX2_waysFrom_28 rfl rfl ?_
    refine vr_iald (q := 30) dX2_waysFrom_29 rfl ⟨by omega, by omega⟩ ?_
    refine vr_istore (q := 32) dX2_waysFrom_30 rfl (Nat.le_of_ble_eq_true rfl) rfl rfl ?_
    refine vr_aload_n (q := 33) dX2_waysFrom_32 rfl rfl ?_
    refine vr_getR (q := 36) dX2_waysFrom_33 rfl fX2_13 rfl y_X2_0 (by first | (simp only [Int.reduceAdd]; rfl) | rfl) ?_
    refine vr_iload_n (q := 37) dX2_waysFrom_36 rfl rfl ?_
    refine vr_aaMV (q := 38) dX2_waysFrom_37 rfl ⟨by omega, by omega⟩ (by first | (simp only [Int.reduceMul, Int.reduceAdd]; rfl) | rfl) ?_
    refine vr_aload_n (q := 39) dX2_waysFrom_38 rfl rfl ?_
    refine vr_iload (q := 41) dX2_waysFrom_39 rfl rfl ?_
    -- at X2.waysFrom 41: .invokevirtual 58
    refine vr_iv2 (q := 44) dX2_waysFrom_41 rfl vX2_58 (Nat.le_of_ble_eq_true rfl) ?_
    refine c_wouldNod (n := 6 + e) ⟨by omega, by omega⟩ hlo (by rw [hM]; exact hm) (by omega) ?_
    rw [hM]
    refine vr_istore (q := 46) dX2_waysFrom_44 rfl (Nat.le_of_ble_eq_true rfl) rfl rfl ?_
    refine vr_aload_n (q := 47) dX2_waysFrom_46 rfl rfl ?_
    refine vr_getR (q := 50) dX2_waysFrom_47 rfl fX2_13 rfl y_X2_0 (by first | (simp only [Int.reduceAdd]; rfl) | rfl) ?_
    refine vr_iload_n (q := 51) dX2_waysFrom_50 rfl rfl ?_
    refine vr_iconst (q := 52) dX2_waysFrom_51 rfl ⟨by decide, by decide⟩ ?_
    refine vr_iaddN (q := 53) dX2_waysFrom_52 rfl ⟨by omega, by omega⟩ ?_
    refine vr_aaMV (q := 54) dX2_waysFrom_53 rfl ⟨by omega, by omega⟩ (by first | (simp only [Int.reduceMul, Int.reduceAdd]; rfl) | rfl) ?_
    refine vr_aload_n (q := 55) dX2_waysFrom_54 rfl rfl ?_
    refine vr_getR (q := 58) dX2_waysFrom_55 rfl fX2_13 rfl y_X2_0 (by first | (simp only [Int.reduceAdd]; rfl) | rfl) ?_
    refine vr_iload_n (q := 59) dX2_waysFrom_58 rfl rfl ?_
    refine vr_aaMV (q := 60) dX2_waysFrom_59 rfl ⟨by omega, by omega⟩ (by first | (simp only [Int.reduceMul, Int.reduceAdd]; rfl) | rfl) ?_
    -- at X2.waysFrom 60: .invokevirtual 80
    refine vr_iv1 (q := 63) dX2_waysFrom_60 rfl vX2_80 (Nat.le_of_ble_eq_true rfl) ?_
    refine c_become (by omega) ⟨by omega, by omega, by omega⟩ ?_
    rw [hM]
    refine vr_aload_n (q := 64) dX2_waysFrom_63 rfl rfl ?_
    refine vr_getR (q := 67) dX2_waysFrom_64 rfl fX2_13 rfl y_X2_0 (by first | (simp only [Int.reduceAdd]; rfl) | rfl) ?_
    refine vr_iload_n (q := 68) dX2_waysFrom_67 rfl rfl ?_
    refine vr_iconst (q := 69) dX2_waysFrom_68 rfl ⟨by decide, by decide⟩ ?_
    refine vr_iaddN (q := 70) dX2_waysFrom_69 rfl ⟨by omega, by omega⟩ ?_
    refine vr_aaMV (q := 71) dX2_waysFrom_70 rfl ⟨by omega, by omega⟩ (by first | (simp only [Int.reduceMul, Int.reduceAdd]; rfl) | rfl) ?_
    refine vr_aload_n (q := 72) dX2_waysFrom_71 rfl rfl ?_
    refine vr_iload (q := 74) dX2_waysFrom_72 rfl rfl ?_
    refine vr_iconst (q := 75) dX2_waysFrom_74 rfl ⟨by decide, by decide⟩ ?_
    -- at X2.waysFrom 75: .invokevirtual 84
    refine vr_iv3 (q := 78) dX2_waysFrom_75 rfl vX2_84 (Nat.le_of_ble_eq_true rfl) ?_
    refine hx 0 h (sd_r e h) _ ?_
    have s1 : sd_ e h (ms_ h (52 + 2 * (e + 1)) (he_ (h 9 (h 50 e)) (h 10 (h 50 e)) 0 m)) := sd_m ⟨he, by omega⟩ _
    have m1 : mu_ (ms_ h (52 + 2 * (e + 1)) (he_ (h 9 (h 50 e)) (h 10 (h 50 e)) 0 m)) (52 + 2 * (e + 1)) = he_ (h 9 (h 50 e)) (h 10 (h 50 e)) 0 m := mu_ms _ _ _
    generalize ms_ h (52 + 2 * (e + 1)) (he_ (h 9 (h 50 e)) (h 10 (h 50 e)) 0 m) = h1 at s1 m1 ⊢
    refine vr_aload_n (q := 79) dX2_waysFrom_78 rfl rfl ?_
    refine vr_aload_n (q := 80) dX2_waysFrom_79 rfl rfl ?_
    refine vr_iload_n (q := 81) dX2_waysFrom_80 rfl rfl ?_
    refine vr_iconst (q := 82) dX2_waysFrom_81 rfl ⟨by decide, by decide⟩ ?_
    refine vr_iaddN (q := 83) dX2_waysFrom_82 rfl ⟨by omega, by omega⟩ ?_
    refine vr_iload_n (q := 84) dX2_waysFrom_83 rfl rfl ?_
    refine vr_iload (q := 86) dX2_waysFrom_84 rfl rfl ?_
    -- at X2.waysFrom 86: .invokevirtual 122
    refine vr_iv4 (q := 89) dX2_waysFrom_86 rfl vX2_122 (Nat.le_of_ble_eq_true rfl) ?_
    refine ih (e + 1) w h1 _ (sd_to s1 he o) (by rw [sd_lo s1 he (by omega)]; exact e8) (by rw [sd_lo s1 he (x := 50) (by omega), sd_lo s1 he (x := 7) (by omega)]; exact hL) (by omega) (by omega) (by rw [m1, show 6 + (e + 1) = 6 + e + 1 by omega]; exact he_mo hlo hm) ⟨by omega, by omega⟩ (fun h2 s2 => ?_)
    rw [m1, sd_tf s1 he, sd_lo s1 he (x := 50) (by omega)]
    have s3 := sd_t s1 (sd_up s2)
    refine vr_istore (q := 91) dX2_waysFrom_89 rfl (Nat.le_of_ble_eq_true rfl) rfl rfl ?_
    refine vr_iload (q := 93) dX2_waysFrom_91 rfl rfl ?_
    -- at X2.waysFrom 93: .ifCond .ne 9
    refine vr_if_ne (t := 102) (q := 96) dX2_waysFrom_93 (by decide) rfl (fun c1 => ?_) (fun c1 => ?_)
    · have c2 : ¬ nl_ (tf_ h) m (h 50 e) = 0 := c1
      rw [if_neg c2] at kk
      have p1 := Int.mul_nonneg hc.1 r1.1
      have p2 := Int.mul_le_mul_of_nonneg_left r1.2 hc.1
      have p3 : c * pw_ k ≤ 10 * pw_ k := Int.mul_le_mul_of_nonneg_right hc.2 (by omega)
      have q1 := Int.mul_nonneg (show 0 ≤ 10 - c by omega) r2.1
      have q2 := Int.mul_le_mul_of_nonneg_left r2.2 (show 0 ≤ 10 - c by omega)
      have q3 : (10 - c) * pw_ k ≤ 10 * pw_ k := Int.mul_le_mul_of_nonneg_right (by omega) (by omega)
      refine vr_aload_n (q := 103) dX2_waysFrom_102 rfl rfl ?_
      refine vr_getR (q := 106) dX2_waysFrom_103 rfl fX2_13 rfl y_X2_0 (by first | (simp only [Int.reduceAdd]; rfl) | rfl) ?_
      refine vr_iload_n (q := 107) dX2_waysFrom_106 rfl rfl ?_
      refine vr_iconst (q := 108) dX2_waysFrom_107 rfl ⟨by decide, by decide⟩ ?_
      refine vr_iaddN (q := 109) dX2_waysFrom_108 rfl ⟨by omega, by omega⟩ ?_
      refine vr_aaMV (q := 110) dX2_waysFrom_109 rfl ⟨by omega, by omega⟩ (by first | (simp only [Int.reduceMul, Int.reduceAdd]; rfl) | rfl) ?_
      refine vr_aload_n (q := 111) dX2_waysFrom_110 rfl rfl ?_
      refine vr_getR (q := 114) dX2_waysFrom_111 rfl fX2_13 rfl y_X2_0 (by first | (simp only [Int.reduceAdd]; rfl) | rfl) ?_
      refine vr_iload_n (q := 115) dX2_waysFrom_114 rfl rfl ?_
      refine vr_aaMV (q := 116) dX2_waysFrom_115 rfl ⟨by omega, by omega⟩ (by first | (simp only [Int.reduceMul, Int.reduceAdd]; rfl) | rfl) ?_
      -- at X2.waysFrom 116: .invokevirtual 80
      refine vr_iv1 (q := 119) dX2_waysFrom_116 rfl vX2_80 (Nat.le_of_ble_eq_true rfl) ?_
      refine c_become (by omega) ⟨by omega, by omega, by omega⟩ ?_
      rw [sd_mu s3 he, hM]
      refine vr_aload_n (q := 120) dX2_waysFrom_119 rfl rfl ?_
      refine vr_getR (q := 123) dX2_waysFrom_120 rfl fX2_13 rfl y_X2_0 (by first | (simp only [Int.reduceAdd]; rfl) | rfl) ?_
      refine vr_iload_n (q := 124) dX2_waysFrom_123 rfl rfl ?_
      refine vr_iconst (q := 125) dX2_waysFrom_124 rfl ⟨by decide, by decide⟩ ?_
      refine vr_iaddN (q := 126) dX2_waysFrom_125 rfl ⟨by omega, by omega⟩ ?_
      refine vr_aaMV (q := 127) dX2_waysFrom_126 rfl ⟨by omega, by omega⟩ (by first | (simp only [Int.reduceMul, Int.reduceAdd]; rfl) | rfl) ?_
      refine vr_aload_n (q := 128) dX2_waysFrom_127 rfl rfl ?_
      refine vr_iload (q := 130) dX2_waysFrom_128 rfl rfl ?_
      refine vr_iconst (q := 131) dX2_waysFrom_130 rfl ⟨by decide, by decide⟩ ?_
      -- at X2.waysFrom 131: .invokevirtual 84
      refine vr_iv3 (q := 134) dX2_waysFrom_131 rfl vX2_84 (Nat.le_of_ble_eq_true rfl) ?_
      refine hx 1 h2 s3 _ ?_
      have s4 : sd_ e h (ms_ h2 (52 + 2 * (e + 1)) (he_ (h 9 (h 50 e)) (h 10 (h 50 e)) 1 m)) := sd_t s3 (sd_m ⟨he, by omega⟩ _)
      have m4 : mu_ (ms_ h2 (52 + 2 * (e + 1)) (he_ (h 9 (h 50 e)) (h 10 (h 50 e)) 1 m)) (52 + 2 * (e + 1)) = he_ (h 9 (h 50 e)) (h 10 (h 50 e)) 1 m := mu_ms _ _ _
      generalize ms_ h2 (52 + 2 * (e + 1)) (he_ (h 9 (h 50 e)) (h 10 (h 50 e)) 1 m) = h4 at s4 m4 ⊢
      refine vr_iload (q := 136) dX2_waysFrom_134 rfl rfl ?_
      refine vr_iload (q := 138) dX2_waysFrom_136 rfl rfl ?_
      refine vr_imulN (q := 139) dX2_waysFrom_138 rfl ⟨by omega, by omega⟩ ?_
      refine vr_bipush (q := 141) dX2_waysFrom_139 rfl ⟨by decide, by decide⟩ (by decide) ?_
      refine vr_iload (q := 143) dX2_waysFrom_141 rfl rfl ?_
      refine vr_isubN (q := 144) dX2_waysFrom_143 rfl ⟨by omega, by omega⟩ ?_
      refine vr_aload_n (q := 145) dX2_waysFrom_144 rfl rfl ?_
      refine vr_aload_n (q := 146) dX2_waysFrom_145 rfl rfl ?_
      refine vr_iload_n (q := 147) dX2_waysFrom_146 rfl rfl ?_
      refine vr_iconst (q := 148) dX2_waysFrom_147 rfl ⟨by decide, by decide⟩ ?_
      refine vr_iaddN (q := 149) dX2_waysFrom_148 rfl ⟨by omega, by omega⟩ ?_
      refine vr_iload_n (q := 150) dX2_waysFrom_149 rfl rfl ?_
      refine vr_iconst (q := 151) dX2_waysFrom_150 rfl ⟨by decide, by decide⟩ ?_
      refine vr_isubN (q := 152) dX2_waysFrom_151 rfl ⟨by omega, by omega⟩ ?_
      refine vr_iload (q := 154) dX2_waysFrom_152 rfl rfl ?_
      -- at X2.waysFrom 154: .invokevirtual 122
      refine vr_iv4 (q := 157) dX2_waysFrom_154 rfl vX2_122 (Nat.le_of_ble_eq_true rfl) ?_
      refine ih (e + 1) (w - 1) h4 _ (sd_to s4 he o) (by rw [sd_lo s4 he (by omega)]; exact e8) (by rw [sd_lo s4 he (x := 50) (by omega), sd_lo s4 he (x := 7) (by omega)]; exact hL) (by omega) (by omega) (by rw [m4, show 6 + (e + 1) = 6 + e + 1 by omega]; exact he_mo hlo hm) ⟨by omega, by omega⟩ (fun h5 s5 => ?_)
      rw [m4, sd_tf s4 he, sd_lo s4 he (x := 50) (by omega)]
      refine vr_imulN (q := 158) dX2_waysFrom_157 rfl ⟨by omega, by omega⟩ ?_
      refine vr_iaddN (q := 159) dX2_waysFrom_158 rfl ⟨by omega, by omega⟩ ?_
      refine vr_iret dX2_waysFrom_159 rfl ?_
      exact kk _ (sd_t s4 (sd_up s5))
    · have c2 : nl_ (tf_ h) m (h 50 e) = 0 := c1
      rw [if_pos c2] at kk
      refine vr_bipush (q := 98) dX2_waysFrom_96 rfl ⟨by decide, by decide⟩ (by decide) ?_
      refine vr_iload (q := 100) dX2_waysFrom_98 rfl rfl ?_
      refine vr_imulN (q := 101) dX2_waysFrom_100 rfl ⟨by omega, by omega⟩ ?_
      refine vr_iret dX2_waysFrom_101 rfl ?_
      exact kk _ s3
end PF3_
