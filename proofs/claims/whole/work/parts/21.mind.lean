section PM_
variable {g : SG_} {d : Nat} {h : SH_} {Post : Option SV_ → SH_ → Prop}
theorem c_max {x y : Int} (k : Post (some (sv_i (if x < y then y else x))) h) : Ctr_ g d mJ9_max_7cf53 [sv_i x, sv_i y] h Post := by
  refine V_mk (by decide +kernel) (Or.inr (Or.inl ⟨rfl, rfl⟩)) (Nat.le_of_ble_eq_true rfl) (by simp [sv_c]) ?_
  show V_ _ _ _ 0 [_, _] [] _ _
  refine vr_iload_n (q := 1) dJ9_max_7cf53_0 rfl rfl ?_
  refine vr_iload_n (q := 2) dJ9_max_7cf53_1 rfl rfl ?_
  -- at J9.max 2: .if_icmp .lt 7
  refine vr_ic_lt (t := 9) (q := 5) dJ9_max_7cf53_2 (by decide) rfl (fun c1 => ?_) (fun c1 => ?_)
  · refine vr_iload_n (q := 10) dJ9_max_7cf53_9 rfl rfl ?_
    -- at J9.max 10: .ireturn
    refine vr_iret dJ9_max_7cf53_10 rfl ?_
    rw [if_pos c1] at k
    exact k
  · refine vr_iload_n (q := 6) dJ9_max_7cf53_5 rfl rfl ?_
    refine vr_goto (q := 10) dJ9_max_7cf53_6 (by decide) ?_
    -- at J9.max 10: .ireturn
    refine vr_iret dJ9_max_7cf53_10 rfl ?_
    rw [if_neg c1] at k
    exact k
theorem c_min {x y : Int} (k : Post (some (sv_i (if y < x then y else x))) h) : Ctr_ g d mJ9_min_7cf53 [sv_i x, sv_i y] h Post := by
  refine V_mk (by decide +kernel) (Or.inr (Or.inl ⟨rfl, rfl⟩)) (Nat.le_of_ble_eq_true rfl) (by simp [sv_c]) ?_
  show V_ _ _ _ 0 [_, _] [] _ _
  refine vr_iload_n (q := 1) dJ9_min_7cf53_0 rfl rfl ?_
  refine vr_iload_n (q := 2) dJ9_min_7cf53_1 rfl rfl ?_
  -- at J9.min 2: .if_icmp .gt 7
  refine vr_ic_gt (t := 9) (q := 5) dJ9_min_7cf53_2 (by decide) rfl (fun c1 => ?_) (fun c1 => ?_)
  · refine vr_iload_n (q := 10) dJ9_min_7cf53_9 rfl rfl ?_
    -- at J9.min 10: .ireturn
    refine vr_iret dJ9_min_7cf53_10 rfl ?_
    rw [if_pos c1] at k
    exact k
  · refine vr_iload_n (q := 6) dJ9_min_7cf53_5 rfl rfl ?_
    refine vr_goto (q := 10) dJ9_min_7cf53_6 (by decide) ?_
    -- at J9.min 10: .ireturn
    refine vr_iret dJ9_min_7cf53_10 rfl ?_
    rw [if_neg c1] at k
    exact k
def b1_ (x : Int) : Int := sw_32 (x - sb_iand (sb_iushr x 1) 1431655765)
def b2_ (y : Int) : Int := sw_32 (sb_iand y 858993459 + sb_iand (sb_iushr y 2) 858993459)
def b3_ (y : Int) : Int := sb_iand (sw_32 (y + sb_iushr y 4)) 252645135
def b4_ (y : Int) : Int := sw_32 (y + sb_iushr y 8)
def b5_ (y : Int) : Int := sw_32 (y + sb_iushr y 16)
theorem bc_ok : ∀ n : Fin 64, sb_iand (b5_ (b4_ (b3_ (b2_ (b1_ ((n : Nat) : Int)))))) 63 = pc_ ((n : Nat) : Int) := by decide +kernel
theorem c_bitCount {x : Int} (hx : 0 ≤ x ∧ x < 64) (k : Post (some (sv_i (pc_ x))) h) : Ctr_ g d mJ6_bitCount_0f7a4 [sv_i x] h Post := by
  refine V_mk (by decide +kernel) (Or.inr (Or.inl ⟨rfl, rfl⟩)) (Nat.le_of_ble_eq_true rfl) (by simp [sv_c]) ?_
  show V_ _ _ _ 0 [_] [] _ _
  refine vr_iload_n (q := 1) dJ6_bitCount_0f7a4_0 rfl rfl ?_
  refine vr_iload_n (q := 2) dJ6_bitCount_0f7a4_1 rfl rfl ?_
  refine vr_iconst (q := 3) dJ6_bitCount_0f7a4_2 rfl ⟨by decide, by decide⟩ ?_
  refine vr_iushr (q := 4) dJ6_bitCount_0f7a4_3 rfl ?_
  refine vr_ldcw (x := 1431655765) (q := 7) dJ6_bitCount_0f7a4_4 rfl ⟨by decide, by decide⟩ qJ6_265 ?_
  refine vr_iand (q := 8) dJ6_bitCount_0f7a4_7 rfl ?_
  refine vr_isub (q := 9) dJ6_bitCount_0f7a4_8 rfl ?_
  refine vr_istore_n (q := 10) dJ6_bitCount_0f7a4_9 rfl rfl (Nat.le_of_ble_eq_true rfl) rfl rfl ?_
  refine vr_iload_n (q := 11) dJ6_bitCount_0f7a4_10 rfl rfl ?_
  refine vr_ldcw (x := 858993459) (q := 14) dJ6_bitCount_0f7a4_11 rfl ⟨by decide, by decide⟩ qJ6_266 ?_
  refine vr_iand (q := 15) dJ6_bitCount_0f7a4_14 rfl ?_
  refine vr_iload_n (q := 16) dJ6_bitCount_0f7a4_15 rfl rfl ?_
  refine vr_iconst (q := 17) dJ6_bitCount_0f7a4_16 rfl ⟨by decide, by decide⟩ ?_
  refine vr_iushr (q := 18) dJ6_bitCount_0f7a4_17 rfl ?_
  refine vr_ldcw (x := 858993459) (q := 21) dJ6_bitCount_0f7a4_18 rfl ⟨by decide, by decide⟩ qJ6_266 ?_
  refine vr_iand (q := 22) dJ6_bitCount_0f7a4_21 rfl ?_
  refine vr_iadd (q := 23) dJ6_bitCount_0f7a4_22 rfl ?_
  refine vr_istore_n (q := 24) dJ6_bitCount_0f7a4_23 rfl rfl (Nat.le_of_ble_eq_true rfl) rfl rfl ?_
  refine vr_iload_n (q := 25) dJ6_bitCount_0f7a4_24 rfl rfl ?_
  refine vr_iload_n (q := 26) dJ6_bitCount_0f7a4_25 rfl rfl ?_
  refine vr_iconst (q := 27) dJ6_bitCount_0f7a4_26 rfl ⟨by decide, by decide⟩ ?_
  refine vr_iushr (q := 28) dJ6_bitCount_0f7a4_27 rfl ?_
  refine vr_iadd (q := 29) dJ6_bitCount_0f7a4_28 rfl ?_
  refine vr_ldcw (x := 252645135) (q := 32) dJ6_bitCount_0f7a4_29 rfl ⟨by decide, by decide⟩ qJ6_267 ?_
  refine vr_iand (q := 33) dJ6_bitCount_0f7a4_32 rfl ?_
  refine vr_istore_n (q := 34) dJ6_bitCount_0f7a4_33 rfl rfl (Nat.le_of_ble_eq_true rfl) rfl rfl ?_
  refine vr_iload_n (q := 35) dJ6_bitCount_0f7a4_34 rfl rfl ?_
  refine vr_iload_n (q := 36) dJ6_bitCount_0f7a4_35 rfl rfl ?_
  refine vr_bipush (q := 38) dJ6_bitCount_0f7a4_36 rfl ⟨by decide, by decide⟩ (by decide) ?_
  refine vr_iushr (q := 39) dJ6_bitCount_0f7a4_38 rfl ?_
  refine vr_iadd (q := 40) dJ6_bitCount_0f7a4_39 rfl ?_
  refine vr_istore_n (q := 41) dJ6_bitCount_0f7a4_40 rfl rfl (Nat.le_of_ble_eq_true rfl) rfl rfl ?_
  refine vr_iload_n (q := 42) dJ6_bitCount_0f7a4_41 rfl rfl ?_
  refine vr_iload_n (q := 43) dJ6_bitCount_0f7a4_42 rfl rfl ?_
  refine vr_bipush (q := 45) dJ6_bitCount_0f7a4_43 rfl ⟨by decide, by decide⟩ (by decide) ?_
  refine vr_iushr (q := 46) dJ6_bitCount_0f7a4_45 rfl ?_
  refine vr_iadd (q := 47) dJ6_bitCount_0f7a4_46 rfl ?_
  refine vr_istore_n (q := 48) dJ6_bitCount_0f7a4_47 rfl rfl (Nat.le_of_ble_eq_true rfl) rfl rfl ?_
  refine vr_iload_n (q := 49) dJ6_bitCount_0f7a4_48 rfl rfl ?_
  refine vr_bipush (q := 51) dJ6_bitCount_0f7a4_49 rfl ⟨by decide, by decide⟩ (by decide) ?_
  refine vr_iand (q := 52) dJ6_bitCount_0f7a4_51 rfl ?_
  -- at J6.bitCount 52: .ireturn
  refine vr_iret dJ6_bitCount_0f7a4_52 rfl ?_
  have e := bc_ok ⟨x.toNat, by omega⟩
  rw [show (((⟨x.toNat, by omega⟩ : Fin 64) : Nat) : Int) = x from Int.toNat_of_nonneg hx.1] at e
  show Post (some (sv_i (sb_iand (b5_ (b4_ (b3_ (b2_ (b1_ x))))) 63))) h
  rw [e]
  exact k
theorem c_undoubtedNeed {k kd w n : Int} (hk : 1 ≤ kd ∧ kd ≤ 5) (hw : 1 ≤ w ∧ w ≤ 20) (hn : 0 ≤ n ∧ n ≤ 100) (kk : Post (some (sv_i (un_ kd w n (h k 2)))) h) : Ctr_ g (d + 1) mX4_undoubtedNeed [sv_r 4 3 k, sv_i kd, sv_i w, sv_i n] h Post := by
  refine V_mk (by decide +kernel) (Or.inr (Or.inl ⟨rfl, rfl⟩)) (Nat.le_of_ble_eq_true rfl) (by simp [sv_c]) ?_
  show V_ _ _ _ 0 [_, _, _, _] [] _ _
  refine vr_iload_n (q := 1) dX4_undoubtedNeed_0 rfl rfl ?_
  -- at X4.undoubtedNeed 1: .tableswitch 74 2 5 #[31, 35, 45, 45]
  rcases (by omega : kd = 1 ∨ kd = 2 ∨ kd = 3 ∨ kd = 4 ∨ kd = 5) with rfl | rfl | rfl | rfl | rfl
  · refine vr_tsO (q := 75) dX4_undoubtedNeed_1 (by omega) (by decide) ?_
    refine vr_iload_n (q := 76) dX4_undoubtedNeed_75 rfl rfl ?_
    -- at X4.undoubtedNeed 76: .ireturn
    refine vr_iret dX4_undoubtedNeed_76 rfl ?_
    exact kk
  · refine vr_tsI (q := 32) dX4_undoubtedNeed_1 (by decide) (by decide) rfl (by decide) ?_
    refine vr_iconst (q := 33) dX4_undoubtedNeed_32 rfl ⟨by decide, by decide⟩ ?_
    refine vr_iload_n (q := 34) dX4_undoubtedNeed_33 rfl rfl ?_
    refine vr_imulN (q := 35) dX4_undoubtedNeed_34 rfl ⟨by omega, by omega⟩ ?_
    -- at X4.undoubtedNeed 35: .ireturn
    refine vr_iret dX4_undoubtedNeed_35 rfl ?_
    exact kk
  · refine vr_tsI (q := 36) dX4_undoubtedNeed_1 (by decide) (by decide) rfl (by decide) ?_
    refine vr_iload_n (q := 37) dX4_undoubtedNeed_36 rfl rfl ?_
    refine vr_iconst (q := 38) dX4_undoubtedNeed_37 rfl ⟨by decide, by decide⟩ ?_
    refine vr_iload_n (q := 39) dX4_undoubtedNeed_38 rfl rfl ?_
    refine vr_imulN (q := 40) dX4_undoubtedNeed_39 rfl ⟨by omega, by omega⟩ ?_
    refine vr_isubN (q := 41) dX4_undoubtedNeed_40 rfl ⟨by omega, by omega⟩ ?_
    refine vr_iconst (q := 42) dX4_undoubtedNeed_41 rfl ⟨by decide, by decide⟩ ?_
    -- at X4.undoubtedNeed 42: .invokestatic 76
    refine vr_is2 (q := 45) dX4_undoubtedNeed_42 rfl vX4_76 (Nat.le_of_ble_eq_true rfl) ?_
    refine c_max ?_
    refine vr_iret dX4_undoubtedNeed_45 rfl ?_
    exact kk
  · refine vr_tsI (q := 46) dX4_undoubtedNeed_1 (by decide) (by decide) rfl (by decide) ?_
    refine vr_iload_n (q := 47) dX4_undoubtedNeed_46 rfl rfl ?_
    refine vr_iconst (q := 48) dX4_undoubtedNeed_47 rfl ⟨by decide, by decide⟩ ?_
    -- at X4.undoubtedNeed 48: .if_icmp .ne 14
    refine vr_ic_ne (t := 62) (q := 51) dX4_undoubtedNeed_48 (by decide) rfl (fun _ => ?_) (fun c9 => absurd c9 (by omega))
    refine vr_iload_n (q := 63) dX4_undoubtedNeed_62 rfl rfl ?_
    -- at X4.undoubtedNeed 63: .ifCond .le 7
    refine vr_if_le (t := 70) (q := 66) dX4_undoubtedNeed_63 (by decide) rfl (fun c2 => ?_) (fun c2 => ?_)
    · refine vr_bipush (q := 72) dX4_undoubtedNeed_70 rfl ⟨by decide, by decide⟩ (by decide) ?_
      refine vr_iload_n (q := 73) dX4_undoubtedNeed_72 rfl rfl ?_
      refine vr_iaddN (q := 74) dX4_undoubtedNeed_73 rfl ⟨by omega, by omega⟩ ?_
      -- at X4.undoubtedNeed 74: .ireturn
      refine vr_iret dX4_undoubtedNeed_74 rfl ?_
      have e : un_ 4 w n (h k 2) = 20 + w := by
        unfold un_ pn_
        rw [if_neg (by omega), if_neg (by omega), if_pos rfl, if_neg (by omega)]
      rw [e] at kk
      exact kk
    · refine vr_iconst (q := 67) dX4_undoubtedNeed_66 rfl ⟨by decide, by decide⟩ ?_
      refine vr_goto (q := 74) dX4_undoubtedNeed_67 (by decide) ?_
      -- at X4.undoubtedNeed 74: .ireturn
      refine vr_iret dX4_undoubtedNeed_74 rfl ?_
      have e : un_ 4 w n (h k 2) = 0 := by
        unfold un_ pn_
        rw [if_neg (by omega), if_neg (by omega), if_pos rfl, if_pos (by omega)]
      rw [e] at kk
      exact kk
  · refine vr_tsI (q := 46) dX4_undoubtedNeed_1 (by decide) (by decide) rfl (by decide) ?_
    refine vr_iload_n (q := 47) dX4_undoubtedNeed_46 rfl rfl ?_
    refine vr_iconst (q := 48) dX4_undoubtedNeed_47 rfl ⟨by decide, by decide⟩ ?_
    -- at X4.undoubtedNeed 48: .if_icmp .ne 14
    refine vr_ic_ne (t := 62) (q := 51) dX4_undoubtedNeed_48 (by decide) rfl (fun c9 => absurd c9 (by omega)) (fun _ => ?_)
    refine vr_aload_n (q := 52) dX4_undoubtedNeed_51 rfl rfl ?_
    refine vr_getI (ji := 2) (q := 55) dX4_undoubtedNeed_52 rfl fX4_16 rfl rfl ?_
    refine vr_iconst (q := 56) dX4_undoubtedNeed_55 rfl ⟨by decide, by decide⟩ ?_
    -- at X4.undoubtedNeed 56: .if_icmp .ge 6
    refine vr_ic_ge (t := 62) (q := 59) dX4_undoubtedNeed_56 (by decide) rfl (fun c1 => ?_) (fun c1 => ?_)
    · refine vr_iload_n (q := 63) dX4_undoubtedNeed_62 rfl rfl ?_
      -- at X4.undoubtedNeed 63: .ifCond .le 7
      refine vr_if_le (t := 70) (q := 66) dX4_undoubtedNeed_63 (by decide) rfl (fun c2 => ?_) (fun c2 => ?_)
      · refine vr_bipush (q := 72) dX4_undoubtedNeed_70 rfl ⟨by decide, by decide⟩ (by decide) ?_
        refine vr_iload_n (q := 73) dX4_undoubtedNeed_72 rfl rfl ?_
        refine vr_iaddN (q := 74) dX4_undoubtedNeed_73 rfl ⟨by omega, by omega⟩ ?_
        -- at X4.undoubtedNeed 74: .ireturn
        refine vr_iret dX4_undoubtedNeed_74 rfl ?_
        have e : un_ 5 w n (h k 2) = 20 + w := by
          unfold un_ pn_
          rw [if_neg (by omega), if_neg (by omega), if_neg (by omega), if_pos rfl, if_neg (by omega), if_neg (by omega)]
        rw [e] at kk
        exact kk
      · refine vr_iconst (q := 67) dX4_undoubtedNeed_66 rfl ⟨by decide, by decide⟩ ?_
        refine vr_goto (q := 74) dX4_undoubtedNeed_67 (by decide) ?_
        -- at X4.undoubtedNeed 74: .ireturn
        refine vr_iret dX4_undoubtedNeed_74 rfl ?_
        have e : un_ 5 w n (h k 2) = 0 := by
          unfold un_ pn_
          rw [if_neg (by omega), if_neg (by omega), if_neg (by omega), if_pos rfl, if_neg (by omega), if_pos (by omega)]
        rw [e] at kk
        exact kk
    · refine vr_bipush (q := 61) dX4_undoubtedNeed_59 rfl ⟨by decide, by decide⟩ (by decide) ?_
      -- at X4.undoubtedNeed 61: .ireturn
      refine vr_iret dX4_undoubtedNeed_61 rfl ?_
      have e : un_ 5 w n (h k 2) = 99 := by
        unfold un_
        rw [if_neg (by omega), if_neg (by omega), if_neg (by omega), if_pos rfl, if_pos (by omega)]
      rw [e] at kk
      exact kk
theorem un_r {k w n t : Int} (hk : 1 ≤ k ∧ k ≤ 5) (hw : 1 ≤ w ∧ w ≤ 20) (hn : 0 ≤ n ∧ n ≤ 100) : 0 ≤ un_ k w n t ∧ un_ k w n t ≤ 99 := by
  unfold un_ pn_
  repeat' split
  all_goals omega
/-- a mind's cell, and the current town's -/
theorem c_needOf {k l : Int} {n : Int} (hl : 0 ≤ l ∧ l < 6) (hlo : lo_ (h 8 l) (h 9 l) (h 10 l)) (hm : mo_ n (mu_ h k)) (hn : n ≤ 100) (kk : Post (some (sv_i (nd_ (h 8 l) (h 9 l) (h 10 l) (mu_ h k)))) h) : Ctr_ g (d + 2) mX4_needOf [sv_r 4 3 k, sv_r 4 6 7, sv_i l] h Post := by
  obtain ⟨hk, hw, ht⟩ := hlo
  have hq := hm.2.2.2 (h 10 l) ht.1 ht.2
  have e4 : q4_ (mu_ h k).2.2.2 (h 10 l) = h (k + 1) (h 10 l) := q4_a ht
  rw [e4] at hq
  unfold nd_ at kk
  rw [e4] at kk
  have hu := un_r (t := h k 2) hk hw ⟨hq.1, by omega⟩
  refine V_mk (by decide +kernel) (Or.inr (Or.inl ⟨rfl, rfl⟩)) (Nat.le_of_ble_eq_true rfl) (by simp [sv_c]) ?_
  show V_ _ _ _ 0 [_, _, _, _, _] [] _ _
  refine vr_aload_n (q := 1) dX4_needOf_0 rfl rfl ?_
  refine vr_getR (q := 4) dX4_needOf_1 rfl fX4_42 rfl y_X7_6 (by first | (simp only [Int.reduceAdd]; rfl) | rfl) ?_
  refine vr_iload_n (q := 5) dX4_needOf_4 rfl rfl ?_
  refine vr_iald (q := 6) dX4_needOf_5 rfl ⟨by omega, by omega⟩ ?_
  refine vr_istore_n (q := 7) dX4_needOf_6 rfl rfl (Nat.le_of_ble_eq_true rfl) rfl rfl ?_
  refine vr_aload_n (q := 8) dX4_needOf_7 rfl rfl ?_
  refine vr_getI (ji := 1) (q := 11) dX4_needOf_8 rfl fX4_13 rfl rfl ?_
  refine vr_iload_n (q := 12) dX4_needOf_11 rfl rfl ?_
  refine vr_ishr (q := 13) dX4_needOf_12 rfl ?_
  refine vr_iconst (q := 14) dX4_needOf_13 rfl ⟨by decide, by decide⟩ ?_
  refine vr_iand (q := 15) dX4_needOf_14 rfl ?_
  -- at X4.needOf 15: .ifCond .eq 7
  refine vr_if_eq (t := 22) (q := 18) dX4_needOf_15 (by decide) rfl (fun c1 => ?_) (fun c1 => ?_)
  · have c2 : bt_ (mu_ h k).2.1 (h 10 l) = 0 := c1
    rw [if_pos c2] at kk
    refine vr_iconst (q := 23) dX4_needOf_22 rfl ⟨by decide, by decide⟩ ?_
    refine vr_istore (q := 25) dX4_needOf_23 rfl (Nat.le_of_ble_eq_true rfl) rfl rfl ?_
    refine vr_iload (q := 27) dX4_needOf_25 rfl rfl ?_
    refine vr_aload_n (q := 28) dX4_needOf_27 rfl rfl ?_
    refine vr_aload_n (q := 29) dX4_needOf_28 rfl rfl ?_
    refine vr_getR (q := 32) dX4_needOf_29 rfl fX4_48 rfl y_X7_4 (by first | (simp only [Int.reduceAdd]; rfl) | rfl) ?_
    refine vr_iload_n (q := 33) dX4_needOf_32 rfl rfl ?_
    refine vr_iald (q := 34) dX4_needOf_33 rfl ⟨by omega, by omega⟩ ?_
    refine vr_aload_n (q := 35) dX4_needOf_34 rfl rfl ?_
    refine vr_getR (q := 38) dX4_needOf_35 rfl fX4_51 rfl y_X7_5 (by first | (simp only [Int.reduceAdd]; rfl) | rfl) ?_
    refine vr_iload_n (q := 39) dX4_needOf_38 rfl rfl ?_
    refine vr_iald (q := 40) dX4_needOf_39 rfl ⟨by omega, by omega⟩ ?_
    refine vr_aload_n (q := 41) dX4_needOf_40 rfl rfl ?_
    refine vr_getR (q := 44) dX4_needOf_41 rfl fX4_21 rfl y_X4_3 (by first | (simp only [Int.reduceAdd]; rfl) | rfl) ?_
    refine vr_iload_n (q := 45) dX4_needOf_44 rfl rfl ?_
    refine vr_iald (q := 46) dX4_needOf_45 rfl ⟨by omega, by omega⟩ ?_
    -- at X4.needOf 46: .invokevirtual 54
    refine vr_iv3 (q := 49) dX4_needOf_46 rfl vX4_54 (Nat.le_of_ble_eq_true rfl) ?_
    refine c_undoubtedNeed hk hw ⟨hq.1, by omega⟩ ?_
    refine vr_iaddN (q := 50) dX4_needOf_49 rfl ⟨by omega, by omega⟩ ?_
    -- at X4.needOf 50: .ireturn
    refine vr_iret dX4_needOf_50 rfl ?_
    exact kk
  · have c2 : ¬ bt_ (mu_ h k).2.1 (h 10 l) = 0 := c1
    rw [if_neg c2] at kk
    refine vr_iconst (q := 19) dX4_needOf_18 rfl ⟨by decide, by decide⟩ ?_
    refine vr_goto (q := 23) dX4_needOf_19 (by decide) ?_
    refine vr_istore (q := 25) dX4_needOf_23 rfl (Nat.le_of_ble_eq_true rfl) rfl rfl ?_
    refine vr_iload (q := 27) dX4_needOf_25 rfl rfl ?_
    refine vr_aload_n (q := 28) dX4_needOf_27 rfl rfl ?_
    refine vr_aload_n (q := 29) dX4_needOf_28 rfl rfl ?_
    refine vr_getR (q := 32) dX4_needOf_29 rfl fX4_48 rfl y_X7_4 (by first | (simp only [Int.reduceAdd]; rfl) | rfl) ?_
    refine vr_iload_n (q := 33) dX4_needOf_32 rfl rfl ?_
    refine vr_iald (q := 34) dX4_needOf_33 rfl ⟨by omega, by omega⟩ ?_
    refine vr_aload_n (q := 35) dX4_needOf_34 rfl rfl ?_
    refine vr_getR (q := 38) dX4_needOf_35 rfl fX4_51 rfl y_X7_5 (by first | (simp only [Int.reduceAdd]; rfl) | rfl) ?_
    refine vr_iload_n (q := 39) dX4_needOf_38 rfl rfl ?_
    refine vr_iald (q := 40) dX4_needOf_39 rfl ⟨by omega, by omega⟩ ?_
    refine vr_aload_n (q := 41) dX4_needOf_40 rfl rfl ?_
    refine vr_getR (q := 44) dX4_needOf_41 rfl fX4_21 rfl y_X4_3 (by first | (simp only [Int.reduceAdd]; rfl) | rfl) ?_
    refine vr_iload_n (q := 45) dX4_needOf_44 rfl rfl ?_
    refine vr_iald (q := 46) dX4_needOf_45 rfl ⟨by omega, by omega⟩ ?_
    -- at X4.needOf 46: .invokevirtual 54
    refine vr_iv3 (q := 49) dX4_needOf_46 rfl vX4_54 (Nat.le_of_ble_eq_true rfl) ?_
    refine c_undoubtedNeed hk hw ⟨hq.1, by omega⟩ ?_
    refine vr_iaddN (q := 50) dX4_needOf_49 rfl ⟨by omega, by omega⟩ ?_
    -- at X4.needOf 50: .ireturn
    refine vr_iret dX4_needOf_50 rfl ?_
    exact kk
theorem c_wouldNod {k l : Int} {n : Int} (hl : 0 ≤ l ∧ l < 6) (hlo : lo_ (h 8 l) (h 9 l) (h 10 l)) (hm : mo_ n (mu_ h k)) (hn : n ≤ 100) (kk : Post (some (sv_i (nb_ (h 8 l) (h 9 l) (h 10 l) (mu_ h k)))) h) : Ctr_ g (d + 3) mX4_wouldNod [sv_r 4 3 k, sv_r 4 6 7, sv_i l] h Post := by
  unfold nb_ at kk
  refine V_mk (by decide +kernel) (Or.inr (Or.inr (Or.inl ⟨rfl, rfl⟩))) (Nat.le_of_ble_eq_true rfl) (by simp [sv_c]) ?_
  show V_ _ _ _ 0 [_, _, _] [] _ _
  refine vr_aload_n (q := 1) dX4_wouldNod_0 rfl rfl ?_
  refine vr_getI (ji := 0) (q := 4) dX4_wouldNod_1 rfl fX4_7 rfl rfl ?_
  refine vr_aload_n (q := 5) dX4_wouldNod_4 rfl rfl ?_
  refine vr_aload_n (q := 6) dX4_wouldNod_5 rfl rfl ?_
  refine vr_iload_n (q := 7) dX4_wouldNod_6 rfl rfl ?_
  -- at X4.wouldNod 7: .invokevirtual 58
  refine vr_iv2 (q := 10) dX4_wouldNod_7 rfl vX4_58 (Nat.le_of_ble_eq_true rfl) ?_
  refine c_needOf hl hlo hm hn ?_
  refine vr_ic_lt (t := 17) (q := 13) dX4_wouldNod_10 (by decide) rfl (fun c1 => ?_) (fun c1 => ?_)
  · have c2 : (mu_ h k).1 < nd_ (h 8 l) (h 9 l) (h 10 l) (mu_ h k) := c1
    rw [if_pos c2] at kk
    refine vr_iconst (q := 18) dX4_wouldNod_17 rfl ⟨by decide, by decide⟩ ?_
    -- at X4.wouldNod 18: .ireturn
    refine vr_zret dX4_wouldNod_18 rfl ?_ ?_
    · exact Or.inl rfl
    · exact kk
  · have c2 : ¬ (mu_ h k).1 < nd_ (h 8 l) (h 9 l) (h 10 l) (mu_ h k) := c1
    rw [if_neg c2] at kk
    refine vr_iconst (q := 14) dX4_wouldNod_13 rfl ⟨by decide, by decide⟩ ?_
    refine vr_goto (q := 18) dX4_wouldNod_14 (by decide) ?_
    -- at X4.wouldNod 18: .ireturn
    refine vr_zret dX4_wouldNod_18 rfl ?_ ?_
    · exact Or.inr rfl
    · exact kk
theorem c_dine {k : Int} (ht : 0 ≤ h k 0 ∧ h k 0 ≤ 20) (kk : Post none (ms_ h k (di_ (mu_ h k)))) : Ctr_ g (d + 1) mX4_dine [sv_r 4 3 k] h Post := by
  refine V_mk (by decide +kernel) (Or.inl ⟨rfl, rfl⟩) (Nat.le_of_ble_eq_true rfl) (by simp [sv_c]) ?_
  show V_ _ _ _ 0 [_] [] _ _
  refine vr_aload_n (q := 1) dX4_dine_0 rfl rfl ?_
  refine vr_aload_n (q := 2) dX4_dine_1 rfl rfl ?_
  refine vr_getI (ji := 0) (q := 5) dX4_dine_2 rfl fX4_7 rfl rfl ?_
  refine vr_iconst (q := 6) dX4_dine_5 rfl ⟨by decide, by decide⟩ ?_
  refine vr_iaddN (q := 7) dX4_dine_6 rfl ⟨by omega, by omega⟩ ?_
  refine vr_bipush (q := 9) dX4_dine_7 rfl ⟨by decide, by decide⟩ (by decide) ?_
  -- at X4.dine 9: .invokestatic 70
  refine vr_is2 (q := 12) dX4_dine_9 rfl vX4_70 (Nat.le_of_ble_eq_true rfl) ?_
  refine c_min ?_
  refine vr_put (ji := 0) (q := 15) dX4_dine_12 rfl pX4_7 rfl rfl ?_
  -- at X4.dine 15: .return_
  refine vr_vret dX4_dine_15 rfl ?_
  rw [hs_m0]
  exact kk
theorem c_hearAs {k l b : Int} {n : Int} (hl : 0 ≤ l ∧ l < 6) (hk : 52 ≤ k) (hlo : lo_ (h 8 l) (h 9 l) (h 10 l)) (hm : mo_ n (mu_ h k)) (hn : n ≤ 100) (kk : Post none (ms_ h k (he_ (h 9 l) (h 10 l) b (mu_ h k)))) : Ctr_ g (d + 1) mX4_hearAs [sv_r 4 3 k, sv_r 4 6 7, sv_i l, sv_i b] h Post := by
  obtain ⟨-, hw, ht⟩ := hlo
  have h1 : 0 ≤ h k 0 ∧ h k 0 ≤ 20 := hm.1
  have h2 : 0 ≤ h k 2 ∧ h k 2 ≤ n := hm.2.2.1
  have hq := hm.2.2.2 (h 10 l) ht.1 ht.2
  have e4 : q4_ (mu_ h k).2.2.2 (h 10 l) = h (k + 1) (h 10 l) := q4_a ht
  rw [e4] at hq
  have hd0 : 0 ≤ (h 9 l).tdiv 4 := Int.tdiv_nonneg (by omega) (by omega)
  have hd1 : (h 9 l).tdiv 4 ≤ 20 := by
    rw [Int.tdiv_eq_ediv_of_nonneg (by omega)]
    omega
  refine V_mk (by decide +kernel) (Or.inl ⟨rfl, rfl⟩) (Nat.le_of_ble_eq_true rfl) (by simp [sv_c]) ?_
  show V_ _ _ _ 0 [_, _, _, _] [] _ _
  refine vr_aload_n (q := 1) dX4_hearAs_0 rfl rfl ?_
  refine vr_dup (q := 2) dX4_hearAs_1 rfl rfl ?_
  refine vr_getI (ji := 2) (q := 5) dX4_hearAs_2 rfl fX4_16 rfl rfl ?_
  refine vr_iconst (q := 6) dX4_hearAs_5 rfl ⟨by decide, by decide⟩ ?_
  refine vr_iaddN (q := 7) dX4_hearAs_6 rfl ⟨by omega, by omega⟩ ?_
  refine vr_put (ji := 2) (q := 10) dX4_hearAs_7 rfl pX4_16 rfl rfl ?_
  refine vr_iload_n (q := 11) dX4_hearAs_10 rfl rfl ?_
  -- at X4.hearAs 11: .ifCond .eq 36
  refine vr_if_eq (t := 47) (q := 14) dX4_hearAs_11 (by decide) rfl (fun c1 => ?_) (fun c1 => ?_)
  · refine vr_aload_n (q := 48) dX4_hearAs_47 rfl rfl ?_
    refine vr_aload_n (q := 49) dX4_hearAs_48 rfl rfl ?_
    refine vr_getV (ji := 0) (q := 52) dX4_hearAs_49 rfl fX4_7 rfl rfl (hs_n (by omega)) ?_
    refine vr_aload_n (q := 53) dX4_hearAs_52 rfl rfl ?_
    refine vr_getR (q := 56) dX4_hearAs_53 rfl fX4_51 rfl y_X7_5 (by first | (simp only [Int.reduceAdd]; rfl) | rfl) ?_
    refine vr_iload_n (q := 57) dX4_hearAs_56 rfl rfl ?_
    refine vr_ialdV (q := 58) dX4_hearAs_57 rfl ⟨by omega, by omega⟩ (hs_n (by omega)) ?_
    refine vr_iconst (q := 59) dX4_hearAs_58 rfl ⟨by decide, by decide⟩ ?_
    refine vr_idiv (q := 60) dX4_hearAs_59 rfl (by omega) ?_
    refine vr_isubN (q := 61) dX4_hearAs_60 rfl ⟨by omega, by omega⟩ ?_
    refine vr_iconst (q := 62) dX4_hearAs_61 rfl ⟨by decide, by decide⟩ ?_
    refine vr_isubN (q := 63) dX4_hearAs_62 rfl ⟨by omega, by omega⟩ ?_
    refine vr_iconst (q := 64) dX4_hearAs_63 rfl ⟨by decide, by decide⟩ ?_
    -- at X4.hearAs 64: .invokestatic 76
    refine vr_is2 (q := 67) dX4_hearAs_64 rfl vX4_76 (Nat.le_of_ble_eq_true rfl) ?_
    refine c_max ?_
    refine vr_put (ji := 0) (q := 70) dX4_hearAs_67 rfl pX4_7 rfl rfl ?_
    -- at X4.hearAs 70: .return_
    refine vr_vret dX4_hearAs_70 rfl ?_
    rw [hs_m2, ms_h0]
    unfold he_ at kk
    rw [if_pos c1] at kk
    exact kk
  · refine vr_aload_n (q := 15) dX4_hearAs_14 rfl rfl ?_
    refine vr_getR (q := 18) dX4_hearAs_15 rfl fX4_21 rfl y_X4_3 (by first | (simp only [Int.reduceAdd]; rfl) | rfl) ?_
    refine vr_aload_n (q := 19) dX4_hearAs_18 rfl rfl ?_
    refine vr_getR (q := 22) dX4_hearAs_19 rfl fX4_42 rfl y_X7_6 (by first | (simp only [Int.reduceAdd]; rfl) | rfl) ?_
    refine vr_iload_n (q := 23) dX4_hearAs_22 rfl rfl ?_
    refine vr_ialdV (q := 24) dX4_hearAs_23 rfl ⟨by omega, by omega⟩ (hs_n (by omega)) ?_
    refine vr_dup2 (q := 25) dX4_hearAs_24 rfl rfl rfl ?_
    refine vr_ialdV (q := 26) dX4_hearAs_25 rfl ⟨by omega, by omega⟩ (hs_n (by omega)) ?_
    refine vr_iconst (q := 27) dX4_hearAs_26 rfl ⟨by decide, by decide⟩ ?_
    refine vr_iaddN (q := 28) dX4_hearAs_27 rfl ⟨by omega, by omega⟩ ?_
    refine vr_iast (q := 29) dX4_hearAs_28 rfl ⟨by omega, by omega⟩ ?_
    refine vr_aload_n (q := 30) dX4_hearAs_29 rfl rfl ?_
    refine vr_aload_n (q := 31) dX4_hearAs_30 rfl rfl ?_
    refine vr_getV (ji := 0) (q := 34) dX4_hearAs_31 rfl fX4_7 rfl rfl (by rw [hs_n (by omega), hs_n (by omega)]) ?_
    refine vr_iconst (q := 35) dX4_hearAs_34 rfl ⟨by decide, by decide⟩ ?_
    refine vr_iaddN (q := 36) dX4_hearAs_35 rfl ⟨by omega, by omega⟩ ?_
    refine vr_bipush (q := 38) dX4_hearAs_36 rfl ⟨by decide, by decide⟩ (by decide) ?_
    -- at X4.hearAs 38: .invokestatic 70
    refine vr_is2 (q := 41) dX4_hearAs_38 rfl vX4_70 (Nat.le_of_ble_eq_true rfl) ?_
    refine c_min ?_
    refine vr_put (ji := 0) (q := 44) dX4_hearAs_41 rfl pX4_7 rfl rfl ?_
    refine vr_goto (q := 70) dX4_hearAs_44 (by decide) ?_
    -- at X4.hearAs 70: .return_
    refine vr_vret dX4_hearAs_70 rfl ?_
    rw [hs_m2, ms_q _ _ _ _ ht, ms_h0]
    unfold he_ at kk
    rw [if_neg c1, e4] at kk
    exact kk
theorem c_hear {k l : Int} {n : Int} (hl : 0 ≤ l ∧ l < 6) (hk : 52 ≤ k) (hlo : lo_ (h 8 l) (h 9 l) (h 10 l)) (hm : mo_ n (mu_ h k)) (hn : n ≤ 100) (kk : Post (some (sv_i (nb_ (h 8 l) (h 9 l) (h 10 l) (mu_ h k)))) (ms_ h k (he_ (h 9 l) (h 10 l) (nb_ (h 8 l) (h 9 l) (h 10 l) (mu_ h k)) (mu_ h k)))) : Ctr_ g (d + 4) mX4_hear [sv_r 4 3 k, sv_r 4 6 7, sv_i l] h Post := by
  refine V_mk (by decide +kernel) (Or.inr (Or.inr (Or.inl ⟨rfl, rfl⟩))) (Nat.le_of_ble_eq_true rfl) (by simp [sv_c]) ?_
  show V_ _ _ _ 0 [_, _, _, _] [] _ _
  refine vr_aload_n (q := 1) dX4_hear_0 rfl rfl ?_
  refine vr_aload_n (q := 2) dX4_hear_1 rfl rfl ?_
  refine vr_iload_n (q := 3) dX4_hear_2 rfl rfl ?_
  -- at X4.hear 3: .invokevirtual 62
  refine vr_iv2 (q := 6) dX4_hear_3 rfl vX4_62 (Nat.le_of_ble_eq_true rfl) ?_
  refine c_wouldNod hl hlo hm hn ?_
  refine vr_istore_n (q := 7) dX4_hear_6 rfl rfl (Nat.le_of_ble_eq_true rfl) rfl rfl ?_
  refine vr_aload_n (q := 8) dX4_hear_7 rfl rfl ?_
  refine vr_aload_n (q := 9) dX4_hear_8 rfl rfl ?_
  refine vr_iload_n (q := 10) dX4_hear_9 rfl rfl ?_
  refine vr_iload_n (q := 11) dX4_hear_10 rfl rfl ?_
  -- at X4.hear 11: .invokevirtual 66
  refine vr_iv3 (q := 14) dX4_hear_11 rfl vX4_66 (Nat.le_of_ble_eq_true rfl) ?_
  refine c_hearAs hl hk hlo hm hn ?_
  refine vr_iload_n (q := 15) dX4_hear_14 rfl rfl ?_
  -- at X4.hear 15: .ireturn
  refine vr_zret dX4_hear_15 rfl ?_ ?_
  · exact nb_01 _ _ _ _
  · exact kk
end PM_
