/-- how many of the lowest n bits are set -/
def on_ (x : Int) : Nat → Int
  | 0 => 0
  | n + 1 => on_ x n + bt_ x n
theorem on_r (x : Int) (n : Nat) : 0 ≤ on_ x n ∧ on_ x n ≤ n := by
  induction n with
  | zero => exact ⟨Int.le_refl 0, Int.le_refl 0⟩
  | succ n ih =>
    have h := bt_01 x n
    show 0 ≤ on_ x n + bt_ x n ∧ on_ x n + bt_ x n ≤ ((n + 1 : Nat) : Int)
    omega
theorem on_f : ∀ x : Fin 64, on_ ((x : Nat) : Int) 8 = pc_ ((x : Nat) : Int) := by decide +kernel
theorem on_p {x : Int} (hx : 0 ≤ x ∧ x < 64) : on_ x 8 = pc_ x := by
  have h := on_f ⟨x.toNat, by omega⟩
  rw [show (((⟨x.toNat, by omega⟩ : Fin 64) : Nat) : Int) = x by show (x.toNat : Int) = x; omega] at h
  exact h
theorem hc_0 (h : SH_) (a i b j : Int) : hc_ h a i b j 0 = h := by
  funext x y
  unfold hc_
  rw [if_neg (by omega)]
theorem hc_s (h : SH_) {a i b j n : Int} (hab : a ≠ b) (hn : 0 ≤ n) : hs_ (hc_ h a i b j n) b (j + n) (hc_ h a i b j n a (i + n)) = hc_ h a i b j (n + 1) := by
  funext x y
  unfold hc_ hs_
  by_cases c1 : x = b ∧ y = j + n
  · rw [if_pos c1, if_neg (fun z => hab z.1), if_pos ⟨c1.1, by omega, by omega⟩, show i + (y - j) = i + n by omega]
  · rw [if_neg c1]
    dsimp only
    by_cases c2 : x = b ∧ j ≤ y ∧ y < j + n
    · rw [if_pos c2, if_pos ⟨c2.1, by omega, by omega⟩]
    · rw [if_neg c2, if_neg (fun z => c2 ⟨z.1, z.2.1, by have h1 := z.2.2; have h2 := z.1; omega⟩)]
/-- the reference's cut to a lane -/
def cu_ (lane v : Int) : Int := if lane = 0 then sb_ishr (sb_ishl v 24) 24 else if lane = 1 then sb_ishr (sb_ishl v 16) 16 else v
section PM1_
variable {g : SG_} {d : Nat} {h : SH_} {Post : Option SV_ → SH_ → Prop}
theorem m_in {v a b : Int} (kt : (a ≤ v ∧ v ≤ b) → Post (some (sv_i 1)) h) (kf : ¬ (a ≤ v ∧ v ≤ b) → Post (some (sv_i 0)) h) : Ctr_ g d mX9_in [sv_i v, sv_i a, sv_i b] h Post := by
  refine V_mk (by decide +kernel) (Or.inr (Or.inr (Or.inl ⟨rfl, rfl⟩))) (Nat.le_of_ble_eq_true rfl) (by simp [sv_c]) ?_
  show V_ _ _ _ 0 [_, _, _] [] _ _
  refine vr_iload_n (q := 1) dX9_in_0 rfl rfl ?_
  refine vr_iload_n (q := 2) dX9_in_1 rfl rfl ?_
  refine vr_ic_lt (t := 14) (q := 5) dX9_in_2 (by decide) rfl (fun c2 => ?_) (fun c2 => ?_)
  · refine vr_iconst (q := 15) dX9_in_14 rfl ⟨by decide, by decide⟩ ?_
    refine vr_zret dX9_in_15 rfl ?_ ?_
    · first | exact Or.inl rfl | exact Or.inr rfl | assumption
    · first | exact kt (by omega) | exact kf (by omega)
  · refine vr_iload_n (q := 6) dX9_in_5 rfl rfl ?_
    refine vr_iload_n (q := 7) dX9_in_6 rfl rfl ?_
    refine vr_ic_gt (t := 14) (q := 10) dX9_in_7 (by decide) rfl (fun c7 => ?_) (fun c7 => ?_)
    · refine vr_iconst (q := 15) dX9_in_14 rfl ⟨by decide, by decide⟩ ?_
      refine vr_zret dX9_in_15 rfl ?_ ?_
      · first | exact Or.inl rfl | exact Or.inr rfl | assumption
      · first | exact kt (by omega) | exact kf (by omega)
    · refine vr_iconst (q := 11) dX9_in_10 rfl ⟨by decide, by decide⟩ ?_
      refine vr_goto (q := 15) dX9_in_11 (by decide) ?_
      refine vr_zret dX9_in_15 rfl ?_ ?_
      · first | exact Or.inl rfl | exact Or.inr rfl | assumption
      · first | exact kt (by omega) | exact kf (by omega)
theorem m_has {x k : Int} (kt : ¬ bt_ x k = 0 → Post (some (sv_i 1)) h) (kf : bt_ x k = 0 → Post (some (sv_i 0)) h) : Ctr_ g d mX9_has [sv_i x, sv_i k] h Post := by
  have b := bt_01 x k
  unfold bt_ at b kt kf
  refine V_mk (by decide +kernel) (Or.inr (Or.inr (Or.inl ⟨rfl, rfl⟩))) (Nat.le_of_ble_eq_true rfl) (by simp [sv_c]) ?_
  show V_ _ _ _ 0 [_, _] [] _ _
  refine vr_iload_n (q := 1) dX9_has_0 rfl rfl ?_
  refine vr_iload_n (q := 2) dX9_has_1 rfl rfl ?_
  refine vr_ishr (q := 3) dX9_has_2 rfl ?_
  refine vr_iconst (q := 4) dX9_has_3 rfl ⟨by decide, by decide⟩ ?_
  refine vr_iand (q := 5) dX9_has_4 rfl ?_
  refine vr_iconst (q := 6) dX9_has_5 rfl ⟨by decide, by decide⟩ ?_
  refine vr_ic_ne (t := 13) (q := 9) dX9_has_6 (by decide) rfl (fun c6 => ?_) (fun c6 => ?_)
  · refine vr_iconst (q := 14) dX9_has_13 rfl ⟨by decide, by decide⟩ ?_
    refine vr_zret dX9_has_14 rfl ?_ ?_
    · first | exact Or.inl rfl | exact Or.inr rfl | assumption
    · first | exact kt (by omega) | exact kf (by omega)
  · refine vr_iconst (q := 10) dX9_has_9 rfl ⟨by decide, by decide⟩ ?_
    refine vr_goto (q := 14) dX9_has_10 (by decide) ?_
    refine vr_zret dX9_has_14 rfl ?_ ?_
    · first | exact Or.inl rfl | exact Or.inr rfl | assumption
    · first | exact kt (by omega) | exact kf (by omega)
theorem l_ones {x : Int} (hx : 0 ≤ x ∧ x < 64) (kk : Post (some (sv_i (pc_ x))) h) : ∀ (m i : Nat), i + m = 8 → V_ g d mX9_ones 4 [some (sv_i x), some (sv_i (on_ x i)), some (sv_i i)] [] h Post := by
  intro m
  induction m with
  | zero =>
    intro i hi
    rw [← on_p hx, show 8 = i by omega] at kk
    refine vr_iload_n (q := 5) dX9_ones_4 rfl rfl ?_
    refine vr_bipush (q := 7) dX9_ones_5 rfl ⟨by decide, by decide⟩ (by decide) ?_
    -- at X9.ones 7: .if_icmp .ge 17
    refine vr_ic_ge (t := 24) (q := 10) dX9_ones_7 (by decide) rfl (fun _ => ?_) (fun c9 => absurd c9 (by omega))
    refine vr_iload_n (q := 25) dX9_ones_24 rfl rfl ?_
    refine vr_iret dX9_ones_25 rfl ?_
    first | exact kk | (exfalso; omega) | (repeat (first | exact kk | rw [if_pos (by omega)] at kk | rw [if_neg (by omega)] at kk))
  | succ m ih =>
    intro i hi
    have r := on_r x i
    have b := bt_01 x i
    have e : on_ x (i + 1) = on_ x i + sb_iand (sb_ishr x i) 1 := rfl
    unfold bt_ at b
    have k2 := ih (i + 1) (by omega)
    rw [e] at k2
    refine vr_iload_n (q := 5) dX9_ones_4 rfl rfl ?_
    refine vr_bipush (q := 7) dX9_ones_5 rfl ⟨by decide, by decide⟩ (by decide) ?_
    -- at X9.ones 7: .if_icmp .ge 17
    refine vr_ic_ge (t := 24) (q := 10) dX9_ones_7 (by decide) rfl (fun c9 => absurd c9 (by omega)) (fun _ => ?_)
    refine vr_iload_n (q := 11) dX9_ones_10 rfl rfl ?_
    refine vr_iload_n (q := 12) dX9_ones_11 rfl rfl ?_
    refine vr_iload_n (q := 13) dX9_ones_12 rfl rfl ?_
    refine vr_ishr (q := 14) dX9_ones_13 rfl ?_
    refine vr_iconst (q := 15) dX9_ones_14 rfl ⟨by decide, by decide⟩ ?_
    refine vr_iand (q := 16) dX9_ones_15 rfl ?_
    refine vr_iaddN (q := 17) dX9_ones_16 rfl ⟨by omega, by omega⟩ ?_
    refine vr_istore_n (q := 18) dX9_ones_17 rfl rfl (Nat.le_of_ble_eq_true rfl) rfl rfl ?_
    refine vr_iinc (q := 21) dX9_ones_18 rfl rfl ⟨by omega, by omega⟩ (Nat.le_of_ble_eq_true rfl) rfl rfl ?_
    refine vr_goto (q := 4) dX9_ones_21 (by decide) ?_
    -- at X9.ones 4: .iload_n 2
    exact k2
theorem m_ones {x : Int} (hx : 0 ≤ x ∧ x < 64) (kk : Post (some (sv_i (pc_ x))) h) : Ctr_ g d mX9_ones [sv_i x] h Post := by
  refine V_mk (by decide +kernel) (Or.inr (Or.inl ⟨rfl, rfl⟩)) (Nat.le_of_ble_eq_true rfl) (by simp [sv_c]) ?_
  show V_ _ _ _ 0 [_, _, _] [] _ _
  refine vr_iconst (q := 1) dX9_ones_0 rfl ⟨by decide, by decide⟩ ?_
  refine vr_istore_n (q := 2) dX9_ones_1 rfl rfl (Nat.le_of_ble_eq_true rfl) rfl rfl ?_
  refine vr_iconst (q := 3) dX9_ones_2 rfl ⟨by decide, by decide⟩ ?_
  refine vr_istore_n (q := 4) dX9_ones_3 rfl rfl (Nat.le_of_ble_eq_true rfl) rfl rfl ?_
  -- at X9.ones 4: .iload_n 2
  exact l_ones hx kk 8 0 rfl
theorem m_found {v : Int} (hv : 0 ≤ v ∧ v ≤ 9) (kk : Post (some (sv_i (-1000010 - v))) (hs_ h 68 4 v)) : Ctr_ g d mX9_found [sv_r 4 8 68, sv_i v] h Post := by
  refine V_mk (by decide +kernel) (Or.inr (Or.inl ⟨rfl, rfl⟩)) (Nat.le_of_ble_eq_true rfl) (by simp [sv_c]) ?_
  show V_ _ _ _ 0 [_, _] [] _ _
  refine vr_aload_n (q := 1) dX9_found_0 rfl rfl ?_
  refine vr_iload_n (q := 2) dX9_found_1 rfl rfl ?_
  refine vr_put (ji := 4) (q := 5) dX9_found_2 rfl pX9_54 rfl rfl ?_
  refine vr_ldc (x := -1000010) (q := 7) dX9_found_5 rfl ⟨by decide, by decide⟩ qX9_58 ?_
  refine vr_iload_n (q := 8) dX9_found_7 rfl rfl ?_
  refine vr_isubN (q := 9) dX9_found_8 rfl ⟨by omega, by omega⟩ ?_
  refine vr_iret dX9_found_9 rfl ?_
  first | exact kk | (exfalso; omega) | (repeat (first | exact kk | rw [if_pos (by omega)] at kk | rw [if_neg (by omega)] at kk))
theorem m_well {v : Int} (kk : Post (some (sv_i v)) (hs_ h 68 4 0)) : Ctr_ g d mX9_well [sv_r 4 8 68, sv_i v] h Post := by
  refine V_mk (by decide +kernel) (Or.inr (Or.inl ⟨rfl, rfl⟩)) (Nat.le_of_ble_eq_true rfl) (by simp [sv_c]) ?_
  show V_ _ _ _ 0 [_, _] [] _ _
  refine vr_aload_n (q := 1) dX9_well_0 rfl rfl ?_
  refine vr_iconst (q := 2) dX9_well_1 rfl ⟨by decide, by decide⟩ ?_
  refine vr_put (ji := 4) (q := 5) dX9_well_2 rfl pX9_54 rfl rfl ?_
  refine vr_iload_n (q := 6) dX9_well_5 rfl rfl ?_
  refine vr_iret dX9_well_6 rfl ?_
  first | exact kk | (exfalso; omega) | (repeat (first | exact kk | rw [if_pos (by omega)] at kk | rw [if_neg (by omega)] at kk))
theorem l_copies {a i b j : Int} {n0 n1 : Nat} (hab : a ≠ b) (hi : 0 ≤ i ∧ i + 38 ≤ n0 ∧ i ≤ 1000) (hj : 0 ≤ j ∧ j + 38 ≤ n1 ∧ j ≤ 1000) (kk : Post none (hc_ h a i b j 38)) : ∀ (m k : Nat), k + m = 38 → V_ g d mX9_copies 3 [some (sv_r 0 n0 a), some (sv_i i), some (sv_r 0 n1 b), some (sv_i j), some (sv_i k)] [] (hc_ h a i b j k) Post := by
  intro m
  induction m with
  | zero =>
    intro k hk
    rw [show k = 38 by omega]
    refine vr_iload (q := 5) dX9_copies_3 rfl rfl ?_
    refine vr_bipush (q := 7) dX9_copies_5 rfl ⟨by decide, by decide⟩ (by decide) ?_
    -- at X9.copies 7: .if_icmp .ge 21
    refine vr_ic_ge (t := 28) (q := 10) dX9_copies_7 (by decide) rfl (fun _ => ?_) (fun c9 => absurd c9 (by omega))
    refine vr_vret dX9_copies_28 rfl ?_
    exact kk
  | succ m ih =>
    intro k hk
    have k2 := ih (k + 1) (by omega)
    rw [show ((k + 1 : Nat) : Int) = (k : Int) + 1 by omega, ← hc_s h hab (by omega)] at k2
    refine vr_iload (q := 5) dX9_copies_3 rfl rfl ?_
    refine vr_bipush (q := 7) dX9_copies_5 rfl ⟨by decide, by decide⟩ (by decide) ?_
    -- at X9.copies 7: .if_icmp .ge 21
    refine vr_ic_ge (t := 28) (q := 10) dX9_copies_7 (by decide) rfl (fun c9 => absurd c9 (by omega)) (fun _ => ?_)
    refine vr_aload_n (q := 11) dX9_copies_10 rfl rfl ?_
    refine vr_iload_n (q := 12) dX9_copies_11 rfl rfl ?_
    refine vr_iload (q := 14) dX9_copies_12 rfl rfl ?_
    refine vr_iaddN (q := 15) dX9_copies_14 rfl ⟨by omega, by omega⟩ ?_
    refine vr_aload_n (q := 16) dX9_copies_15 rfl rfl ?_
    refine vr_iload_n (q := 17) dX9_copies_16 rfl rfl ?_
    refine vr_iload (q := 19) dX9_copies_17 rfl rfl ?_
    refine vr_iaddN (q := 20) dX9_copies_19 rfl ⟨by omega, by omega⟩ ?_
    refine vr_iald (q := 21) dX9_copies_20 rfl ⟨by omega, by omega⟩ ?_
    refine vr_iast (q := 22) dX9_copies_21 rfl ⟨by omega, by omega⟩ ?_
    refine vr_iinc (q := 25) dX9_copies_22 rfl rfl ⟨by omega, by omega⟩ (Nat.le_of_ble_eq_true rfl) rfl rfl ?_
    refine vr_goto (q := 3) dX9_copies_25 (by decide) ?_
    -- at X9.copies 3: .iload 4
    exact k2
theorem m_copies {a i b j : Int} {n0 n1 : Nat} (hab : a ≠ b) (hi : 0 ≤ i ∧ i + 38 ≤ n0 ∧ i ≤ 1000) (hj : 0 ≤ j ∧ j + 38 ≤ n1 ∧ j ≤ 1000) (kk : Post none (hc_ h a i b j 38)) : Ctr_ g d mX9_copies [sv_r 0 n0 a, sv_i i, sv_r 0 n1 b, sv_i j] h Post := by
  have k2 := l_copies (g := g) (d := d) hab hi hj kk 38 0 rfl
  rw [show ((0 : Nat) : Int) = 0 from rfl, hc_0] at k2
  refine V_mk (by decide +kernel) (Or.inl ⟨rfl, rfl⟩) (Nat.le_of_ble_eq_true rfl) (by simp [sv_c]) ?_
  show V_ _ _ _ 0 [_, _, _, _, _] [] _ _
  refine vr_iconst (q := 1) dX9_copies_0 rfl ⟨by decide, by decide⟩ ?_
  refine vr_istore (q := 3) dX9_copies_1 rfl (Nat.le_of_ble_eq_true rfl) rfl rfl ?_
  -- at X9.copies 3: .iload 4
  exact k2
theorem m_isRow {r : Int} (kt : (0 ≤ r ∧ r < 8) → Post (some (sv_i 1)) h) (kf : ¬ (0 ≤ r ∧ r < 8) → Post (some (sv_i 0)) h) : Ctr_ g (d + 1) mX9_isRow [sv_i r] h Post := by
  refine V_mk (by decide +kernel) (Or.inr (Or.inr (Or.inl ⟨rfl, rfl⟩))) (Nat.le_of_ble_eq_true rfl) (by simp [sv_c]) ?_
  show V_ _ _ _ 0 [_] [] _ _
  refine vr_iload_n (q := 1) dX9_isRow_0 rfl rfl ?_
  refine vr_iconst (q := 2) dX9_isRow_1 rfl ⟨by decide, by decide⟩ ?_
  refine vr_bipush (q := 4) dX9_isRow_2 rfl ⟨by decide, by decide⟩ (by decide) ?_
  refine vr_is3 (q := 7) dX9_isRow_4 rfl vX9_59 (Nat.le_of_ble_eq_true rfl) ?_
  refine m_in (fun c4 => ?_) (fun c4 => ?_)
  · refine vr_zret dX9_isRow_7 rfl ?_ ?_
    · first | exact Or.inl rfl | exact Or.inr rfl | assumption
    · first | exact kt (by omega) | exact kf (by omega)
  · refine vr_zret dX9_isRow_7 rfl ?_ ?_
    · first | exact Or.inl rfl | exact Or.inr rfl | assumption
    · first | exact kt (by omega) | exact kf (by omega)
theorem m_isMissing {r : Int} (hr : 0 ≤ r ∧ r < 8) (kt : h 69 r = -1000000 → Post (some (sv_i 1)) h) (kf : ¬ h 69 r = -1000000 → Post (some (sv_i 0)) h) : Ctr_ g d mX9_isMissing [sv_r 4 8 68, sv_i r] h Post := by
  refine V_mk (by decide +kernel) (Or.inr (Or.inr (Or.inl ⟨rfl, rfl⟩))) (Nat.le_of_ble_eq_true rfl) (by simp [sv_c]) ?_
  show V_ _ _ _ 0 [_, _] [] _ _
  refine vr_aload_n (q := 1) dX9_isMissing_0 rfl rfl ?_
  refine vr_getR (q := 4) dX9_isMissing_1 rfl fX9_7 rfl y_X9_0 (by first | (simp only [Int.reduceAdd]; rfl) | rfl) ?_
  refine vr_iload_n (q := 5) dX9_isMissing_4 rfl rfl ?_
  refine vr_iald (q := 6) dX9_isMissing_5 rfl ⟨by omega, by omega⟩ ?_
  refine vr_ldc (x := -1000000) (q := 8) dX9_isMissing_6 rfl ⟨by decide, by decide⟩ qX9_53 ?_
  refine vr_ic_ne (t := 15) (q := 11) dX9_isMissing_8 (by decide) rfl (fun c8 => ?_) (fun c8 => ?_)
  · refine vr_iconst (q := 16) dX9_isMissing_15 rfl ⟨by decide, by decide⟩ ?_
    refine vr_zret dX9_isMissing_16 rfl ?_ ?_
    · first | exact Or.inl rfl | exact Or.inr rfl | assumption
    · first | exact kt (by omega) | exact kf (by omega)
  · refine vr_iconst (q := 12) dX9_isMissing_11 rfl ⟨by decide, by decide⟩ ?_
    refine vr_goto (q := 16) dX9_isMissing_12 (by decide) ?_
    refine vr_zret dX9_isMissing_16 rfl ?_ ?_
    · first | exact Or.inl rfl | exact Or.inr rfl | assumption
    · first | exact kt (by omega) | exact kf (by omega)
theorem m_cut {v lane : Int} (kk : Post (some (sv_i (cu_ lane v))) h) : Ctr_ g d mX9_cut [sv_i lane, sv_i v] h Post := by
  unfold cu_ at kk
  refine V_mk (by decide +kernel) (Or.inr (Or.inl ⟨rfl, rfl⟩)) (Nat.le_of_ble_eq_true rfl) (by simp [sv_c]) ?_
  show V_ _ _ _ 0 [_, _] [] _ _
  refine vr_iload_n (q := 1) dX9_cut_0 rfl rfl ?_
  refine vr_if_ne (t := 14) (q := 4) dX9_cut_1 (by decide) rfl (fun c1 => ?_) (fun c1 => ?_)
  · refine vr_iload_n (q := 15) dX9_cut_14 rfl rfl ?_
    refine vr_iconst (q := 16) dX9_cut_15 rfl ⟨by decide, by decide⟩ ?_
    refine vr_ic_ne (t := 29) (q := 19) dX9_cut_16 (by decide) rfl (fun c16 => ?_) (fun c16 => ?_)
    · refine vr_iload_n (q := 30) dX9_cut_29 rfl rfl ?_
      refine vr_iret dX9_cut_30 rfl ?_
      first | (rw [if_pos (by omega)] at kk; exact kk) | (rw [if_neg (by omega), if_pos (by omega)] at kk; exact kk) | (rw [if_neg (by omega), if_neg (by omega)] at kk; exact kk)
    · refine vr_iload_n (q := 20) dX9_cut_19 rfl rfl ?_
      refine vr_bipush (q := 22) dX9_cut_20 rfl ⟨by decide, by decide⟩ (by decide) ?_
      refine vr_ishl (q := 23) dX9_cut_22 rfl ?_
      refine vr_bipush (q := 25) dX9_cut_23 rfl ⟨by decide, by decide⟩ (by decide) ?_
      refine vr_ishr (q := 26) dX9_cut_25 rfl ?_
      refine vr_goto (q := 30) dX9_cut_26 (by decide) ?_
      refine vr_iret dX9_cut_30 rfl ?_
      first | (rw [if_pos (by omega)] at kk; exact kk) | (rw [if_neg (by omega), if_pos (by omega)] at kk; exact kk) | (rw [if_neg (by omega), if_neg (by omega)] at kk; exact kk)
  · refine vr_iload_n (q := 5) dX9_cut_4 rfl rfl ?_
    refine vr_bipush (q := 7) dX9_cut_5 rfl ⟨by decide, by decide⟩ (by decide) ?_
    refine vr_ishl (q := 8) dX9_cut_7 rfl ?_
    refine vr_bipush (q := 10) dX9_cut_8 rfl ⟨by decide, by decide⟩ (by decide) ?_
    refine vr_ishr (q := 11) dX9_cut_10 rfl ?_
    refine vr_goto (q := 30) dX9_cut_11 (by decide) ?_
    refine vr_iret dX9_cut_30 rfl ?_
    first | (rw [if_pos (by omega)] at kk; exact kk) | (rw [if_neg (by omega), if_pos (by omega)] at kk; exact kk) | (rw [if_neg (by omega), if_neg (by omega)] at kk; exact kk)
theorem m_byteAt {k : Int} (ht : h 68 6 ≤ 120) (hk : 0 ≤ k) (kt : k < h 68 6 → Post (some (sv_i (h 73 k))) h) (kf : ¬ k < h 68 6 → Post (some (sv_i (-1))) h) : Ctr_ g d mX9_byteAt [sv_r 4 8 68, sv_i k] h Post := by
  refine V_mk (by decide +kernel) (Or.inr (Or.inl ⟨rfl, rfl⟩)) (Nat.le_of_ble_eq_true rfl) (by simp [sv_c]) ?_
  show V_ _ _ _ 0 [_, _] [] _ _
  refine vr_iload_n (q := 1) dX9_byteAt_0 rfl rfl ?_
  refine vr_aload_n (q := 2) dX9_byteAt_1 rfl rfl ?_
  refine vr_getI (ji := 6) (q := 5) dX9_byteAt_2 rfl fX9_85 rfl rfl ?_
  refine vr_ic_ge (t := 17) (q := 8) dX9_byteAt_5 (by decide) rfl (fun c5 => ?_) (fun c5 => ?_)
  · refine vr_iconst (q := 18) dX9_byteAt_17 rfl ⟨by decide, by decide⟩ ?_
    refine vr_iret dX9_byteAt_18 rfl ?_
    first | exact kt (by omega) | exact kf (by omega)
  · refine vr_aload_n (q := 9) dX9_byteAt_8 rfl rfl ?_
    refine vr_getR (q := 12) dX9_byteAt_9 rfl fX9_22 rfl y_X9_5 (by first | (simp only [Int.reduceAdd]; rfl) | rfl) ?_
    refine vr_iload_n (q := 13) dX9_byteAt_12 rfl rfl ?_
    refine vr_iald (q := 14) dX9_byteAt_13 rfl ⟨by omega, by omega⟩ ?_
    refine vr_goto (q := 18) dX9_byteAt_14 (by decide) ?_
    refine vr_iret dX9_byteAt_18 rfl ?_
    first | exact kt (by omega) | exact kf (by omega)
theorem m_isPart {r i n : Int} (hr : 0 ≤ r ∧ r < 8) (hl : 0 ≤ h 70 r ∧ h 70 r ≤ 40) (kt : (0 ≤ i ∧ 0 ≤ n ∧ i ≤ h 70 r - n) → Post (some (sv_i 1)) h) (kf : ¬ (0 ≤ i ∧ 0 ≤ n ∧ i ≤ h 70 r - n) → Post (some (sv_i 0)) h) : Ctr_ g d mX9_isPart [sv_r 4 8 68, sv_i r, sv_i i, sv_i n] h Post := by
  refine V_mk (by decide +kernel) (Or.inr (Or.inr (Or.inl ⟨rfl, rfl⟩))) (Nat.le_of_ble_eq_true rfl) (by simp [sv_c]) ?_
  show V_ _ _ _ 0 [_, _, _, _] [] _ _
  refine vr_iload_n (q := 1) dX9_isPart_0 rfl rfl ?_
  refine vr_if_lt (t := 34) (q := 4) dX9_isPart_1 (by decide) rfl (fun c1 => ?_) (fun c1 => ?_)
  · refine vr_iconst (q := 35) dX9_isPart_34 rfl ⟨by decide, by decide⟩ ?_
    refine vr_zret dX9_isPart_35 rfl ?_ ?_
    · first | exact Or.inl rfl | exact Or.inr rfl | assumption
    · first | exact kt (by omega) | exact kf (by omega)
  · refine vr_iload_n (q := 5) dX9_isPart_4 rfl rfl ?_
    refine vr_if_lt (t := 34) (q := 8) dX9_isPart_5 (by decide) rfl (fun c5 => ?_) (fun c5 => ?_)
    · refine vr_iconst (q := 35) dX9_isPart_34 rfl ⟨by decide, by decide⟩ ?_
      refine vr_zret dX9_isPart_35 rfl ?_ ?_
      · first | exact Or.inl rfl | exact Or.inr rfl | assumption
      · first | exact kt (by omega) | exact kf (by omega)
    · refine vr_iload_n (q := 9) dX9_isPart_8 rfl rfl ?_
      refine vr_aload_n (q := 10) dX9_isPart_9 rfl rfl ?_
      refine vr_getR (q := 13) dX9_isPart_10 rfl fX9_13 rfl y_X9_1 (by first | (simp only [Int.reduceAdd]; rfl) | rfl) ?_
      refine vr_iload_n (q := 14) dX9_isPart_13 rfl rfl ?_
      refine vr_iald (q := 15) dX9_isPart_14 rfl ⟨by omega, by omega⟩ ?_
      refine vr_ic_gt (t := 34) (q := 18) dX9_isPart_15 (by decide) rfl (fun c15 => ?_) (fun c15 => ?_)
      · refine vr_iconst (q := 35) dX9_isPart_34 rfl ⟨by decide, by decide⟩ ?_
        refine vr_zret dX9_isPart_35 rfl ?_ ?_
        · first | exact Or.inl rfl | exact Or.inr rfl | assumption
        · first | exact kt (by omega) | exact kf (by omega)
      · refine vr_iload_n (q := 19) dX9_isPart_18 rfl rfl ?_
        refine vr_aload_n (q := 20) dX9_isPart_19 rfl rfl ?_
        refine vr_getR (q := 23) dX9_isPart_20 rfl fX9_13 rfl y_X9_1 (by first | (simp only [Int.reduceAdd]; rfl) | rfl) ?_
        refine vr_iload_n (q := 24) dX9_isPart_23 rfl rfl ?_
        refine vr_iald (q := 25) dX9_isPart_24 rfl ⟨by omega, by omega⟩ ?_
        refine vr_iload_n (q := 26) dX9_isPart_25 rfl rfl ?_
        refine vr_isubN (q := 27) dX9_isPart_26 rfl ⟨by omega, by omega⟩ ?_
        refine vr_ic_gt (t := 34) (q := 30) dX9_isPart_27 (by decide) rfl (fun c27 => ?_) (fun c27 => ?_)
        · refine vr_iconst (q := 35) dX9_isPart_34 rfl ⟨by decide, by decide⟩ ?_
          refine vr_zret dX9_isPart_35 rfl ?_ ?_
          · first | exact Or.inl rfl | exact Or.inr rfl | assumption
          · first | exact kt (by omega) | exact kf (by omega)
        · refine vr_iconst (q := 31) dX9_isPart_30 rfl ⟨by decide, by decide⟩ ?_
          refine vr_goto (q := 35) dX9_isPart_31 (by decide) ?_
          refine vr_zret dX9_isPart_35 rfl ?_ ?_
          · first | exact Or.inl rfl | exact Or.inr rfl | assumption
          · first | exact kt (by omega) | exact kf (by omega)
theorem m_isWell (kt : h 68 8 < 0 → Post (some (sv_i 1)) h) (kf : ¬ h 68 8 < 0 → Post (some (sv_i 0)) h) : Ctr_ g d mX9_isWell [sv_r 4 8 68] h Post := by
  refine V_mk (by decide +kernel) (Or.inr (Or.inr (Or.inl ⟨rfl, rfl⟩))) (Nat.le_of_ble_eq_true rfl) (by simp [sv_c]) ?_
  show V_ _ _ _ 0 [_] [] _ _
  refine vr_aload_n (q := 1) dX9_isWell_0 rfl rfl ?_
  refine vr_getI (ji := 8) (q := 4) dX9_isWell_1 rfl fX9_104 rfl rfl ?_
  refine vr_if_ge (t := 11) (q := 7) dX9_isWell_4 (by decide) rfl (fun c4 => ?_) (fun c4 => ?_)
  · refine vr_iconst (q := 12) dX9_isWell_11 rfl ⟨by decide, by decide⟩ ?_
    refine vr_zret dX9_isWell_12 rfl ?_ ?_
    · first | exact Or.inl rfl | exact Or.inr rfl | assumption
    · first | exact kt (by omega) | exact kf (by omega)
  · refine vr_iconst (q := 8) dX9_isWell_7 rfl ⟨by decide, by decide⟩ ?_
    refine vr_goto (q := 12) dX9_isWell_8 (by decide) ?_
    refine vr_zret dX9_isWell_12 rfl ?_ ?_
    · first | exact Or.inl rfl | exact Or.inr rfl | assumption
    · first | exact kt (by omega) | exact kf (by omega)
end PM1_
