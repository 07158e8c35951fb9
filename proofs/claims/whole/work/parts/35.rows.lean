/-- n slots of k from i on are 0 -/
def zf_ (h : SH_) (k i n : Int) : SH_ := fun a b => if a = k ∧ i ≤ b ∧ b < i + n then 0 else h a b
theorem zf_0 (h : SH_) (k i : Int) : zf_ h k i 0 = h := by
  funext a b
  unfold zf_
  rw [if_neg (by omega)]
theorem zf_s (h : SH_) (k i : Int) {n : Int} (hn : 0 ≤ n) : hs_ (zf_ h k i n) k (i + n) 0 = zf_ h k i (n + 1) := by
  funext a b
  unfold zf_ hs_
  by_cases c1 : a = k ∧ b = i + n
  · rw [if_pos c1, if_pos ⟨c1.1, by omega, by omega⟩]
  · rw [if_neg c1]
    dsimp only
    by_cases c2 : a = k ∧ i ≤ b ∧ b < i + n
    · rw [if_pos c2, if_pos ⟨c2.1, by omega, by omega⟩]
    · rw [if_neg c2, if_neg (fun z => c2 ⟨z.1, z.2.1, by have h1 := z.2.2; have h2 := z.1; omega⟩)]
def ct_ (lane v : Int) : Int := if lane = 0 then sb_i2b v else if lane = 1 then sb_i2s v else v
/-- how many of the first n aren't m -/
def pr_ (f : Int → Int) (m : Int) : Nat → Int
  | 0 => 0
  | n + 1 => pr_ f m n + (if f n = m then 0 else 1)
theorem pr_r (f : Int → Int) (m : Int) (n : Nat) : 0 ≤ pr_ f m n ∧ pr_ f m n ≤ n := by
  induction n with
  | zero => exact ⟨Int.le_refl 0, Int.le_refl 0⟩
  | succ n ih =>
    show 0 ≤ pr_ f m n + (if f n = m then 0 else 1) ∧ pr_ f m n + (if f n = m then 0 else 1) ≤ ((n + 1 : Nat) : Int)
    split <;> omega
theorem ac_w1 : Cond.methodLink RX6 23 arraycopyName ∈ lw_g := by decide +kernel
section PR_
variable {g : SG_} {d : Nat} {h : SH_} {Post : Option SV_ → SH_ → Prop}
theorem c_isRow {r : Int} (kt : (0 ≤ r ∧ r < 8) → Post (some (sv_i 1)) h) (kf : ¬ (0 ≤ r ∧ r < 8) → Post (some (sv_i 0)) h) : Ctr_ g d mX6_isRow [sv_i r] h Post := by
  refine V_mk (by decide +kernel) (Or.inr (Or.inr (Or.inl ⟨rfl, rfl⟩))) (Nat.le_of_ble_eq_true rfl) (by simp [sv_c]) ?_
  show V_ _ _ _ 0 [_] [] _ _
  refine vr_iload_n (q := 1) dX6_isRow_0 rfl rfl ?_
  refine vr_if_lt (t := 14) (q := 4) dX6_isRow_1 (by decide) rfl (fun c1 => ?_) (fun c1 => ?_)
  · refine vr_iconst (q := 15) dX6_isRow_14 rfl ⟨by decide, by decide⟩ ?_
    refine vr_zret dX6_isRow_15 rfl ?_ ?_
    · first | exact Or.inl rfl | exact Or.inr rfl | assumption
    · first | exact kt (by omega) | exact kf (by omega)
  · refine vr_iload_n (q := 5) dX6_isRow_4 rfl rfl ?_
    refine vr_bipush (q := 7) dX6_isRow_5 rfl ⟨by decide, by decide⟩ (by decide) ?_
    refine vr_ic_ge (t := 14) (q := 10) dX6_isRow_7 (by decide) rfl (fun c7 => ?_) (fun c7 => ?_)
    · refine vr_iconst (q := 15) dX6_isRow_14 rfl ⟨by decide, by decide⟩ ?_
      refine vr_zret dX6_isRow_15 rfl ?_ ?_
      · first | exact Or.inl rfl | exact Or.inr rfl | assumption
      · first | exact kt (by omega) | exact kf (by omega)
    · refine vr_iconst (q := 11) dX6_isRow_10 rfl ⟨by decide, by decide⟩ ?_
      refine vr_goto (q := 15) dX6_isRow_11 (by decide) ?_
      refine vr_zret dX6_isRow_15 rfl ?_ ?_
      · first | exact Or.inl rfl | exact Or.inr rfl | assumption
      · first | exact kt (by omega) | exact kf (by omega)
theorem c_isLane {r : Int} (kt : (0 ≤ r ∧ r ≤ 2) → Post (some (sv_i 1)) h) (kf : ¬ (0 ≤ r ∧ r ≤ 2) → Post (some (sv_i 0)) h) : Ctr_ g d mX6_isLane [sv_i r] h Post := by
  refine V_mk (by decide +kernel) (Or.inr (Or.inr (Or.inl ⟨rfl, rfl⟩))) (Nat.le_of_ble_eq_true rfl) (by simp [sv_c]) ?_
  show V_ _ _ _ 0 [_] [] _ _
  refine vr_iload_n (q := 1) dX6_isLane_0 rfl rfl ?_
  refine vr_if_lt (t := 13) (q := 4) dX6_isLane_1 (by decide) rfl (fun c1 => ?_) (fun c1 => ?_)
  · refine vr_iconst (q := 14) dX6_isLane_13 rfl ⟨by decide, by decide⟩ ?_
    refine vr_zret dX6_isLane_14 rfl ?_ ?_
    · first | exact Or.inl rfl | exact Or.inr rfl | assumption
    · first | exact kt (by omega) | exact kf (by omega)
  · refine vr_iload_n (q := 5) dX6_isLane_4 rfl rfl ?_
    refine vr_iconst (q := 6) dX6_isLane_5 rfl ⟨by decide, by decide⟩ ?_
    refine vr_ic_gt (t := 13) (q := 9) dX6_isLane_6 (by decide) rfl (fun c6 => ?_) (fun c6 => ?_)
    · refine vr_iconst (q := 14) dX6_isLane_13 rfl ⟨by decide, by decide⟩ ?_
      refine vr_zret dX6_isLane_14 rfl ?_ ?_
      · first | exact Or.inl rfl | exact Or.inr rfl | assumption
      · first | exact kt (by omega) | exact kf (by omega)
    · refine vr_iconst (q := 10) dX6_isLane_9 rfl ⟨by decide, by decide⟩ ?_
      refine vr_goto (q := 14) dX6_isLane_10 (by decide) ?_
      refine vr_zret dX6_isLane_14 rfl ?_ ?_
      · first | exact Or.inl rfl | exact Or.inr rfl | assumption
      · first | exact kt (by omega) | exact kf (by omega)
theorem c_isMissing {r : Int} (hr : 0 ≤ r ∧ r < 8) (kt : h 2 r = -1 → Post (some (sv_i 1)) h) (kf : ¬ h 2 r = -1 → Post (some (sv_i 0)) h) : Ctr_ g d mX6_isMissing [sv_r 4 5 1, sv_i r] h Post := by
  refine V_mk (by decide +kernel) (Or.inr (Or.inr (Or.inl ⟨rfl, rfl⟩))) (Nat.le_of_ble_eq_true rfl) (by simp [sv_c]) ?_
  show V_ _ _ _ 0 [_, _] [] _ _
  refine vr_aload_n (q := 1) dX6_isMissing_0 rfl rfl ?_
  refine vr_getR (q := 4) dX6_isMissing_1 rfl fX6_9 rfl y_X6_0 (by first | (simp only [Int.reduceAdd]; rfl) | rfl) ?_
  refine vr_iload_n (q := 5) dX6_isMissing_4 rfl rfl ?_
  refine vr_iald (q := 6) dX6_isMissing_5 rfl ⟨by omega, by omega⟩ ?_
  refine vr_iconst (q := 7) dX6_isMissing_6 rfl ⟨by decide, by decide⟩ ?_
  refine vr_ic_ne (t := 14) (q := 10) dX6_isMissing_7 (by decide) rfl (fun c7 => ?_) (fun c7 => ?_)
  · refine vr_iconst (q := 15) dX6_isMissing_14 rfl ⟨by decide, by decide⟩ ?_
    refine vr_zret dX6_isMissing_15 rfl ?_ ?_
    · first | exact Or.inl rfl | exact Or.inr rfl | assumption
    · first | exact kt (by omega) | exact kf (by omega)
  · refine vr_iconst (q := 11) dX6_isMissing_10 rfl ⟨by decide, by decide⟩ ?_
    refine vr_goto (q := 15) dX6_isMissing_11 (by decide) ?_
    refine vr_zret dX6_isMissing_15 rfl ?_ ?_
    · first | exact Or.inl rfl | exact Or.inr rfl | assumption
    · first | exact kt (by omega) | exact kf (by omega)
theorem c_laneOf {r : Int} (hr : 0 ≤ r ∧ r < 8) (kk : Post (some (sv_i (h 2 r))) h) : Ctr_ g d mX6_laneOf [sv_r 4 5 1, sv_i r] h Post := by
  refine V_mk (by decide +kernel) (Or.inr (Or.inl ⟨rfl, rfl⟩)) (Nat.le_of_ble_eq_true rfl) (by simp [sv_c]) ?_
  show V_ _ _ _ 0 [_, _] [] _ _
  refine vr_aload_n (q := 1) dX6_laneOf_0 rfl rfl ?_
  refine vr_getR (q := 4) dX6_laneOf_1 rfl fX6_9 rfl y_X6_0 (by first | (simp only [Int.reduceAdd]; rfl) | rfl) ?_
  refine vr_iload_n (q := 5) dX6_laneOf_4 rfl rfl ?_
  refine vr_iald (q := 6) dX6_laneOf_5 rfl ⟨by omega, by omega⟩ ?_
  refine vr_iret dX6_laneOf_6 rfl ?_
  first | exact kk | (exfalso; omega) | (repeat (first | exact kk | rw [if_pos (by omega)] at kk | rw [if_neg (by omega)] at kk))
theorem c_hasPlaces {r i n : Int} (hr : 0 ≤ r ∧ r < 8) (hl : 0 ≤ h 3 r ∧ h 3 r ≤ 40) (hn : n < 2147483648) (kt : (0 ≤ i ∧ 0 ≤ n ∧ i ≤ h 3 r - n) → Post (some (sv_i 1)) h) (kf : ¬ (0 ≤ i ∧ 0 ≤ n ∧ i ≤ h 3 r - n) → Post (some (sv_i 0)) h) : Ctr_ g d mX6_hasPlaces [sv_r 4 5 1, sv_i r, sv_i i, sv_i n] h Post := by
  refine V_mk (by decide +kernel) (Or.inr (Or.inr (Or.inl ⟨rfl, rfl⟩))) (Nat.le_of_ble_eq_true rfl) (by simp [sv_c]) ?_
  show V_ _ _ _ 0 [_, _, _, _] [] _ _
  refine vr_iload_n (q := 1) dX6_hasPlaces_0 rfl rfl ?_
  refine vr_if_lt (t := 24) (q := 4) dX6_hasPlaces_1 (by decide) rfl (fun c1 => ?_) (fun c1 => ?_)
  · refine vr_iconst (q := 25) dX6_hasPlaces_24 rfl ⟨by decide, by decide⟩ ?_
    refine vr_zret dX6_hasPlaces_25 rfl ?_ ?_
    · first | exact Or.inl rfl | exact Or.inr rfl | assumption
    · first | exact kt (by omega) | exact kf (by omega)
  · refine vr_iload_n (q := 5) dX6_hasPlaces_4 rfl rfl ?_
    refine vr_if_lt (t := 24) (q := 8) dX6_hasPlaces_5 (by decide) rfl (fun c5 => ?_) (fun c5 => ?_)
    · refine vr_iconst (q := 25) dX6_hasPlaces_24 rfl ⟨by decide, by decide⟩ ?_
      refine vr_zret dX6_hasPlaces_25 rfl ?_ ?_
      · first | exact Or.inl rfl | exact Or.inr rfl | assumption
      · first | exact kt (by omega) | exact kf (by omega)
    · refine vr_iload_n (q := 9) dX6_hasPlaces_8 rfl rfl ?_
      refine vr_aload_n (q := 10) dX6_hasPlaces_9 rfl rfl ?_
      refine vr_getR (q := 13) dX6_hasPlaces_10 rfl fX6_13 rfl y_X6_1 (by first | (simp only [Int.reduceAdd]; rfl) | rfl) ?_
      refine vr_iload_n (q := 14) dX6_hasPlaces_13 rfl rfl ?_
      refine vr_iald (q := 15) dX6_hasPlaces_14 rfl ⟨by omega, by omega⟩ ?_
      refine vr_iload_n (q := 16) dX6_hasPlaces_15 rfl rfl ?_
      refine vr_isubN (q := 17) dX6_hasPlaces_16 rfl ⟨by omega, by omega⟩ ?_
      refine vr_ic_gt (t := 24) (q := 20) dX6_hasPlaces_17 (by decide) rfl (fun c17 => ?_) (fun c17 => ?_)
      · refine vr_iconst (q := 25) dX6_hasPlaces_24 rfl ⟨by decide, by decide⟩ ?_
        refine vr_zret dX6_hasPlaces_25 rfl ?_ ?_
        · first | exact Or.inl rfl | exact Or.inr rfl | assumption
        · first | exact kt (by omega) | exact kf (by omega)
      · refine vr_iconst (q := 21) dX6_hasPlaces_20 rfl ⟨by decide, by decide⟩ ?_
        refine vr_goto (q := 25) dX6_hasPlaces_21 (by decide) ?_
        refine vr_zret dX6_hasPlaces_25 rfl ?_ ?_
        · first | exact Or.inl rfl | exact Or.inr rfl | assumption
        · first | exact kt (by omega) | exact kf (by omega)
theorem l_make {r lane n : Int} {h0 : SH_} (hr : 0 ≤ r ∧ r < 8) (hn : 0 ≤ n ∧ n ≤ 40) (kk : Post none (zf_ h0 4 (r * 40) n)) : ∀ (m i : Nat), (i : Int) + m = n → V_ g d mX6_make 17 [some (sv_r 4 5 1), some (sv_i r), some (sv_i lane), some (sv_i n), some (sv_i i)] [] (zf_ h0 4 (r * 40) i) Post := by
  intro m
  induction m with
  | zero =>
    intro i hi
    refine vr_iload (q := 19) dX6_make_17 rfl rfl ?_
    refine vr_iload_n (q := 20) dX6_make_19 rfl rfl ?_
    -- at X6.make 20: .if_icmp .ge 22
    refine vr_ic_ge (t := 42) (q := 23) dX6_make_20 (by decide) rfl (fun _ => ?_) (fun c9 => absurd c9 (by omega))
    refine vr_vret dX6_make_42 rfl ?_
    rw [show n = i by omega] at kk
    exact kk
  | succ m ih =>
    intro i hi
    refine vr_iload (q := 19) dX6_make_17 rfl rfl ?_
    refine vr_iload_n (q := 20) dX6_make_19 rfl rfl ?_
    -- at X6.make 20: .if_icmp .ge 22
    refine vr_ic_ge (t := 42) (q := 23) dX6_make_20 (by decide) rfl (fun c9 => absurd c9 (by omega)) (fun _ => ?_)
    refine vr_aload_n (q := 24) dX6_make_23 rfl rfl ?_
    refine vr_getR (q := 27) dX6_make_24 rfl fX6_16 rfl y_X6_2 (by first | (simp only [Int.reduceAdd]; rfl) | rfl) ?_
    refine vr_iload_n (q := 28) dX6_make_27 rfl rfl ?_
    refine vr_bipush (q := 30) dX6_make_28 rfl ⟨by decide, by decide⟩ (by decide) ?_
    refine vr_imulN (q := 31) dX6_make_30 rfl ⟨by omega, by omega⟩ ?_
    refine vr_iload (q := 33) dX6_make_31 rfl rfl ?_
    refine vr_iaddN (q := 34) dX6_make_33 rfl ⟨by omega, by omega⟩ ?_
    refine vr_iconst (q := 35) dX6_make_34 rfl ⟨by decide, by decide⟩ ?_
    refine vr_iast (q := 36) dX6_make_35 rfl ⟨by omega, by omega⟩ ?_
    refine vr_iinc (q := 39) dX6_make_36 rfl rfl ⟨by omega, by omega⟩ (Nat.le_of_ble_eq_true rfl) rfl rfl ?_
    refine vr_goto (q := 17) dX6_make_39 (by decide) ?_
    -- at X6.make 17: .iload 4
    rw [zf_s _ _ _ (by omega)]
    exact ih (i + 1) (by omega)
theorem c_make {r lane n : Int} (hr : 0 ≤ r ∧ r < 8) (hn : 0 ≤ n ∧ n ≤ 40) (kk : Post none (zf_ (hs_ (hs_ h 2 r lane) 3 r n) 4 (r * 40) n)) : Ctr_ g d mX6_make [sv_r 4 5 1, sv_i r, sv_i lane, sv_i n] h Post := by
  refine V_mk (by decide +kernel) (Or.inl ⟨rfl, rfl⟩) (Nat.le_of_ble_eq_true rfl) (by simp [sv_c]) ?_
  show V_ _ _ _ 0 [_, _, _, _, _] [] _ _
  refine vr_aload_n (q := 1) dX6_make_0 rfl rfl ?_
  refine vr_getR (q := 4) dX6_make_1 rfl fX6_9 rfl y_X6_0 (by first | (simp only [Int.reduceAdd]; rfl) | rfl) ?_
  refine vr_iload_n (q := 5) dX6_make_4 rfl rfl ?_
  refine vr_iload_n (q := 6) dX6_make_5 rfl rfl ?_
  refine vr_iast (q := 7) dX6_make_6 rfl ⟨by omega, by omega⟩ ?_
  refine vr_aload_n (q := 8) dX6_make_7 rfl rfl ?_
  refine vr_getR (q := 11) dX6_make_8 rfl fX6_13 rfl y_X6_1 (by first | (simp only [Int.reduceAdd]; rfl) | rfl) ?_
  refine vr_iload_n (q := 12) dX6_make_11 rfl rfl ?_
  refine vr_iload_n (q := 13) dX6_make_12 rfl rfl ?_
  refine vr_iast (q := 14) dX6_make_13 rfl ⟨by omega, by omega⟩ ?_
  refine vr_iconst (q := 15) dX6_make_14 rfl ⟨by decide, by decide⟩ ?_
  refine vr_istore (q := 17) dX6_make_15 rfl (Nat.le_of_ble_eq_true rfl) rfl rfl ?_
  -- at X6.make 17: .iload 4
  have k2 := l_make (g := g) (d := d) (lane := lane) hr hn kk n.toNat 0 (by omega)
  rw [show ((0 : Nat) : Int) = 0 from rfl, zf_0] at k2
  exact k2
theorem c_cutToLane {v lane : Int} (kk : Post (some (sv_i (ct_ lane v))) h) : Ctr_ g d mX6_cutToLane [sv_i v, sv_i lane] h Post := by
  unfold ct_ at kk
  refine V_mk (by decide +kernel) (Or.inr (Or.inl ⟨rfl, rfl⟩)) (Nat.le_of_ble_eq_true rfl) (by simp [sv_c]) ?_
  show V_ _ _ _ 0 [_, _] [] _ _
  refine vr_iload_n (q := 1) dX6_cutToLane_0 rfl rfl ?_
  -- at X6.cutToLane 1: .lookupswitch 33 #[(0, 27), (1, 30)]
  by_cases c0 : lane = 0
  · subst c0
    refine vr_lsw (q := 28) dX6_cutToLane_1 rfl rfl (by decide) ?_
    refine vr_iload_n (q := 29) dX6_cutToLane_28 rfl rfl ?_
    refine vr_i2b (q := 30) dX6_cutToLane_29 rfl ?_
    refine vr_iret dX6_cutToLane_30 rfl ?_
    first | exact kk | (exfalso; omega) | (repeat (first | exact kk | rw [if_pos (by omega)] at kk | rw [if_neg (by omega)] at kk))
  · by_cases c1 : lane = 1
    · subst c1
      refine vr_lsw (q := 31) dX6_cutToLane_1 rfl rfl (by decide) ?_
      refine vr_iload_n (q := 32) dX6_cutToLane_31 rfl rfl ?_
      refine vr_i2s (q := 33) dX6_cutToLane_32 rfl ?_
      refine vr_iret dX6_cutToLane_33 rfl ?_
      first | exact kk | (exfalso; omega) | (repeat (first | exact kk | rw [if_pos (by omega)] at kk | rw [if_neg (by omega)] at kk))
    · rw [if_neg c0, if_neg c1] at kk
      refine vr_lsw (q := 34) dX6_cutToLane_1 rfl (by simp only [Op.lookupswitch.offset_cons, Op.lookupswitch.offset_nil]; rw [if_neg (by omega), if_neg (by omega)]) (by decide) ?_
      refine vr_iload_n (q := 35) dX6_cutToLane_34 rfl rfl ?_
      refine vr_iret dX6_cutToLane_35 rfl ?_
      first | exact kk | (exfalso; omega) | (repeat (first | exact kk | rw [if_pos (by omega)] at kk | rw [if_neg (by omega)] at kk))
theorem c_put {r i v : Int} (hr : 0 ≤ r ∧ r < 8) (hi : 0 ≤ i ∧ i < 40) (kk : Post (some (sv_i (ct_ (h 2 r) v))) (hs_ h 4 (r * 40 + i) (ct_ (h 2 r) v))) : Ctr_ g (d + 1) mX6_put [sv_r 4 5 1, sv_i r, sv_i i, sv_i v] h Post := by
  refine V_mk (by decide +kernel) (Or.inr (Or.inl ⟨rfl, rfl⟩)) (Nat.le_of_ble_eq_true rfl) (by simp [sv_c]) ?_
  show V_ _ _ _ 0 [_, _, _, _, _] [] _ _
  refine vr_iload_n (q := 1) dX6_put_0 rfl rfl ?_
  refine vr_aload_n (q := 2) dX6_put_1 rfl rfl ?_
  refine vr_getR (q := 5) dX6_put_2 rfl fX6_9 rfl y_X6_0 (by first | (simp only [Int.reduceAdd]; rfl) | rfl) ?_
  refine vr_iload_n (q := 6) dX6_put_5 rfl rfl ?_
  refine vr_iald (q := 7) dX6_put_6 rfl ⟨by omega, by omega⟩ ?_
  refine vr_is2 (q := 10) dX6_put_7 rfl vX6_19 (Nat.le_of_ble_eq_true rfl) ?_
  refine c_cutToLane ?_
  refine vr_istore (q := 12) dX6_put_10 rfl (Nat.le_of_ble_eq_true rfl) rfl rfl ?_
  refine vr_aload_n (q := 13) dX6_put_12 rfl rfl ?_
  refine vr_getR (q := 16) dX6_put_13 rfl fX6_16 rfl y_X6_2 (by first | (simp only [Int.reduceAdd]; rfl) | rfl) ?_
  refine vr_iload_n (q := 17) dX6_put_16 rfl rfl ?_
  refine vr_bipush (q := 19) dX6_put_17 rfl ⟨by decide, by decide⟩ (by decide) ?_
  refine vr_imulN (q := 20) dX6_put_19 rfl ⟨by omega, by omega⟩ ?_
  refine vr_iload_n (q := 21) dX6_put_20 rfl rfl ?_
  refine vr_iaddN (q := 22) dX6_put_21 rfl ⟨by omega, by omega⟩ ?_
  refine vr_iload (q := 24) dX6_put_22 rfl rfl ?_
  refine vr_iast (q := 25) dX6_put_24 rfl ⟨by omega, by omega⟩ ?_
  refine vr_iload (q := 27) dX6_put_25 rfl rfl ?_
  refine vr_iret dX6_put_27 rfl ?_
  first | exact kk | (exfalso; omega) | (repeat (first | exact kk | rw [if_pos (by omega)] at kk | rw [if_neg (by omega)] at kk))
theorem c_itemAt {r i : Int} (hr : 0 ≤ r ∧ r < 8) (hi : 0 ≤ i ∧ i < 40) (kk : Post (some (sv_i (h 4 (r * 40 + i)))) h) : Ctr_ g d mX6_itemAt [sv_r 4 5 1, sv_i r, sv_i i] h Post := by
  refine V_mk (by decide +kernel) (Or.inr (Or.inl ⟨rfl, rfl⟩)) (Nat.le_of_ble_eq_true rfl) (by simp [sv_c]) ?_
  show V_ _ _ _ 0 [_, _, _] [] _ _
  refine vr_aload_n (q := 1) dX6_itemAt_0 rfl rfl ?_
  refine vr_getR (q := 4) dX6_itemAt_1 rfl fX6_16 rfl y_X6_2 (by first | (simp only [Int.reduceAdd]; rfl) | rfl) ?_
  refine vr_iload_n (q := 5) dX6_itemAt_4 rfl rfl ?_
  refine vr_bipush (q := 7) dX6_itemAt_5 rfl ⟨by decide, by decide⟩ (by decide) ?_
  refine vr_imulN (q := 8) dX6_itemAt_7 rfl ⟨by omega, by omega⟩ ?_
  refine vr_iload_n (q := 9) dX6_itemAt_8 rfl rfl ?_
  refine vr_iaddN (q := 10) dX6_itemAt_9 rfl ⟨by omega, by omega⟩ ?_
  refine vr_iald (q := 11) dX6_itemAt_10 rfl ⟨by omega, by omega⟩ ?_
  refine vr_iret dX6_itemAt_11 rfl ?_
  first | exact kk | (exfalso; omega) | (repeat (first | exact kk | rw [if_pos (by omega)] at kk | rw [if_neg (by omega)] at kk))
theorem c_move {a i b j n : Int} (ha : 0 ≤ a ∧ a < 8) (hb : 0 ≤ b ∧ b < 8) (hi : 0 ≤ i ∧ 0 ≤ j ∧ 0 ≤ n ∧ i + n ≤ 40 ∧ j + n ≤ 40) (kk : Post none (hc_ h 4 (a * 40 + i) 4 (b * 40 + j) n)) : Ctr_ g (d + 1) mX6_move [sv_r 4 5 1, sv_i a, sv_i i, sv_i b, sv_i j, sv_i n] h Post := by
  refine V_mk (by decide +kernel) (Or.inl ⟨rfl, rfl⟩) (Nat.le_of_ble_eq_true rfl) (by simp [sv_c]) ?_
  show V_ _ _ _ 0 [_, _, _, _, _, _] [] _ _
  refine vr_aload_n (q := 1) dX6_move_0 rfl rfl ?_
  refine vr_getR (q := 4) dX6_move_1 rfl fX6_16 rfl y_X6_2 (by first | (simp only [Int.reduceAdd]; rfl) | rfl) ?_
  refine vr_iload_n (q := 5) dX6_move_4 rfl rfl ?_
  refine vr_bipush (q := 7) dX6_move_5 rfl ⟨by decide, by decide⟩ (by decide) ?_
  refine vr_imulN (q := 8) dX6_move_7 rfl ⟨by omega, by omega⟩ ?_
  refine vr_iload_n (q := 9) dX6_move_8 rfl rfl ?_
  refine vr_iaddN (q := 10) dX6_move_9 rfl ⟨by omega, by omega⟩ ?_
  refine vr_aload_n (q := 11) dX6_move_10 rfl rfl ?_
  refine vr_getR (q := 14) dX6_move_11 rfl fX6_16 rfl y_X6_2 (by first | (simp only [Int.reduceAdd]; rfl) | rfl) ?_
  refine vr_iload_n (q := 15) dX6_move_14 rfl rfl ?_
  refine vr_bipush (q := 17) dX6_move_15 rfl ⟨by decide, by decide⟩ (by decide) ?_
  refine vr_imulN (q := 18) dX6_move_17 rfl ⟨by omega, by omega⟩ ?_
  refine vr_iload (q := 20) dX6_move_18 rfl rfl ?_
  refine vr_iaddN (q := 21) dX6_move_20 rfl ⟨by omega, by omega⟩ ?_
  refine vr_iload (q := 23) dX6_move_21 rfl rfl ?_
  -- at X6.move 23: .invokestatic 23
  refine vr_acopy (q := 26) dX6_move_23 rfl ac_w1 (Nat.le_of_ble_eq_true rfl) ⟨by omega, by omega, by omega, by omega, by omega⟩ ?_
  refine vr_vret dX6_move_26 rfl ?_
  exact kk
theorem c_remove {r : Int} (hr : 0 ≤ r ∧ r < 8) (kk : Post (some (sv_i (h 3 r))) (hs_ (hs_ h 2 r (-1)) 3 r 0)) : Ctr_ g d mX6_remove [sv_r 4 5 1, sv_i r] h Post := by
  refine V_mk (by decide +kernel) (Or.inr (Or.inl ⟨rfl, rfl⟩)) (Nat.le_of_ble_eq_true rfl) (by simp [sv_c]) ?_
  show V_ _ _ _ 0 [_, _, _] [] _ _
  refine vr_aload_n (q := 1) dX6_remove_0 rfl rfl ?_
  refine vr_getR (q := 4) dX6_remove_1 rfl fX6_13 rfl y_X6_1 (by first | (simp only [Int.reduceAdd]; rfl) | rfl) ?_
  refine vr_iload_n (q := 5) dX6_remove_4 rfl rfl ?_
  refine vr_iald (q := 6) dX6_remove_5 rfl ⟨by omega, by omega⟩ ?_
  refine vr_istore_n (q := 7) dX6_remove_6 rfl rfl (Nat.le_of_ble_eq_true rfl) rfl rfl ?_
  refine vr_aload_n (q := 8) dX6_remove_7 rfl rfl ?_
  refine vr_getR (q := 11) dX6_remove_8 rfl fX6_9 rfl y_X6_0 (by first | (simp only [Int.reduceAdd]; rfl) | rfl) ?_
  refine vr_iload_n (q := 12) dX6_remove_11 rfl rfl ?_
  refine vr_iconst (q := 13) dX6_remove_12 rfl ⟨by decide, by decide⟩ ?_
  refine vr_iast (q := 14) dX6_remove_13 rfl ⟨by omega, by omega⟩ ?_
  refine vr_aload_n (q := 15) dX6_remove_14 rfl rfl ?_
  refine vr_getR (q := 18) dX6_remove_15 rfl fX6_13 rfl y_X6_1 (by first | (simp only [Int.reduceAdd]; rfl) | rfl) ?_
  refine vr_iload_n (q := 19) dX6_remove_18 rfl rfl ?_
  refine vr_iconst (q := 20) dX6_remove_19 rfl ⟨by decide, by decide⟩ ?_
  refine vr_iast (q := 21) dX6_remove_20 rfl ⟨by omega, by omega⟩ ?_
  refine vr_iload_n (q := 22) dX6_remove_21 rfl rfl ?_
  refine vr_iret dX6_remove_22 rfl ?_
  first | exact kk | (exfalso; omega) | (repeat (first | exact kk | rw [if_pos (by omega)] at kk | rw [if_neg (by omega)] at kk))
theorem l_present (kk : Post (some (sv_i (pr_ (h 2) (-1) 8))) h) : ∀ (m i : Nat), (i : Int) + m = 8 → V_ g d mX6_present 4 [some (sv_r 4 5 1), some (sv_i (pr_ (h 2) (-1) i)), some (sv_i i)] [] h Post := by
  intro m
  induction m with
  | zero =>
    intro i hi
    refine vr_iload_n (q := 5) dX6_present_4 rfl rfl ?_
    refine vr_bipush (q := 7) dX6_present_5 rfl ⟨by decide, by decide⟩ (by decide) ?_
    -- at X6.present 7: .if_icmp .ge 27
    refine vr_ic_ge (t := 34) (q := 10) dX6_present_7 (by decide) rfl (fun _ => ?_) (fun c9 => absurd c9 (by omega))
    refine vr_iload_n (q := 35) dX6_present_34 rfl rfl ?_
    -- at X6.present 35: .ireturn
    refine vr_iret dX6_present_35 rfl ?_
    rw [show i = 8 by omega]
    exact kk
  | succ m ih =>
    intro i hi
    have h2 := pr_r (h 2) (-1) i
    have k2 := ih (i + 1) (by omega)
    have e : pr_ (h 2) (-1) (i + 1) = pr_ (h 2) (-1) i + (if h 2 i = -1 then 0 else 1) := rfl
    rw [e] at k2
    refine vr_iload_n (q := 5) dX6_present_4 rfl rfl ?_
    refine vr_bipush (q := 7) dX6_present_5 rfl ⟨by decide, by decide⟩ (by decide) ?_
    -- at X6.present 7: .if_icmp .ge 27
    refine vr_ic_ge (t := 34) (q := 10) dX6_present_7 (by decide) rfl (fun c9 => absurd c9 (by omega)) (fun _ => ?_)
    refine vr_iload_n (q := 11) dX6_present_10 rfl rfl ?_
    refine vr_aload_n (q := 12) dX6_present_11 rfl rfl ?_
    refine vr_getR (q := 15) dX6_present_12 rfl fX6_9 rfl y_X6_0 (by first | (simp only [Int.reduceAdd]; rfl) | rfl) ?_
    refine vr_iload_n (q := 16) dX6_present_15 rfl rfl ?_
    refine vr_iald (q := 17) dX6_present_16 rfl ⟨by omega, by omega⟩ ?_
    refine vr_iconst (q := 18) dX6_present_17 rfl ⟨by decide, by decide⟩ ?_
    -- at X6.present 18: .if_icmp .ne 7
    refine vr_ic_ne (t := 25) (q := 21) dX6_present_18 (by decide) rfl (fun c1 => ?_) (fun c1 => ?_)
    · rw [if_neg c1] at k2
      refine vr_iconst (q := 26) dX6_present_25 rfl ⟨by decide, by decide⟩ ?_
      refine vr_iaddN (q := 27) dX6_present_26 rfl ⟨by omega, by omega⟩ ?_
      refine vr_istore_n (q := 28) dX6_present_27 rfl rfl (Nat.le_of_ble_eq_true rfl) rfl rfl ?_
      refine vr_iinc (q := 31) dX6_present_28 rfl rfl ⟨by omega, by omega⟩ (Nat.le_of_ble_eq_true rfl) rfl rfl ?_
      refine vr_goto (q := 4) dX6_present_31 (by decide) ?_
      -- at X6.present 4: .iload_n 2
      exact k2
    · rw [if_pos (by omega)] at k2
      refine vr_iconst (q := 22) dX6_present_21 rfl ⟨by decide, by decide⟩ ?_
      refine vr_goto (q := 26) dX6_present_22 (by decide) ?_
      refine vr_iaddN (q := 27) dX6_present_26 rfl ⟨by omega, by omega⟩ ?_
      refine vr_istore_n (q := 28) dX6_present_27 rfl rfl (Nat.le_of_ble_eq_true rfl) rfl rfl ?_
      refine vr_iinc (q := 31) dX6_present_28 rfl rfl ⟨by omega, by omega⟩ (Nat.le_of_ble_eq_true rfl) rfl rfl ?_
      refine vr_goto (q := 4) dX6_present_31 (by decide) ?_
      -- at X6.present 4: .iload_n 2
      exact k2
theorem c_present (kk : Post (some (sv_i (pr_ (h 2) (-1) 8))) h) : Ctr_ g d mX6_present [sv_r 4 5 1] h Post := by
  refine V_mk (by decide +kernel) (Or.inr (Or.inl ⟨rfl, rfl⟩)) (Nat.le_of_ble_eq_true rfl) (by simp [sv_c]) ?_
  show V_ _ _ _ 0 [_, _, _] [] _ _
  refine vr_iconst (q := 1) dX6_present_0 rfl ⟨by decide, by decide⟩ ?_
  refine vr_istore_n (q := 2) dX6_present_1 rfl rfl (Nat.le_of_ble_eq_true rfl) rfl rfl ?_
  refine vr_iconst (q := 3) dX6_present_2 rfl ⟨by decide, by decide⟩ ?_
  refine vr_istore_n (q := 4) dX6_present_3 rfl rfl (Nat.le_of_ble_eq_true rfl) rfl rfl ?_
  -- at X6.present 4: .iload_n 2
  exact l_present kk 8 0 (by omega)
end PR_
