/-- what is kept ahead of an act of stranger s -/
def ka_ (h : SH_) (s : Int) : SH_ := hs_ (hs_ (hs_ (hs_ (hs_ (hs_ (hs_ h 41 (h 40 5) s) 42 (h 40 5) (h 11 s)) 43 (h 40 5) (h 13 s)) 44 (h 40 5) (h 14 s)) 45 (h 40 5) (h 7 1)) 40 5 (if h 40 5 + 1 < 24 then h 40 5 + 1 else 0)) 40 6 (if 24 < h 40 6 + 1 then 24 else h 40 6 + 1)
def ul_n (h : SH_) : Int := if 0 < h 40 5 then h 40 5 - 1 else 23
def ul_ (h : SH_) : SH_ := hs_ (hs_ (hs_ (hs_ (hs_ (hs_ h 40 5 (ul_n h)) 40 6 (h 40 6 - 1)) 11 (h 41 (ul_n h)) (h 42 (ul_n h))) 13 (h 41 (ul_n h)) (h 43 (ul_n h))) 14 (h 41 (ul_n h)) (h 44 (ul_n h))) 7 1 (h 45 (ul_n h))
section PAC_
variable {g : SG_} {d : Nat} {h : SH_} {Post : Option SV_ → SH_ → Prop}
theorem c_kept (kk : Post (some (sv_i (h 40 6))) h) : Ctr_ g d mX0_kept [sv_r 4 0 40] h Post := by
  refine V_mk (by decide +kernel) (Or.inr (Or.inl ⟨rfl, rfl⟩)) (Nat.le_of_ble_eq_true rfl) (by simp [sv_c]) ?_
  show V_ _ _ _ 0 [_] [] _ _
  refine vr_aload_n (q := 1) dX0_kept_0 rfl rfl ?_
  refine vr_getI (ji := 6) (q := 4) dX0_kept_1 rfl fX0_29 rfl rfl ?_
  refine vr_iret dX0_kept_4 rfl ?_
  first | exact kk | (exfalso; omega) | (repeat (first | exact kk | rw [if_pos (by omega)] at kk | rw [if_neg (by omega)] at kk))
theorem c_clear (kk : Post none (hs_ h 40 6 0)) : Ctr_ g d mX0_clear [sv_r 4 0 40] h Post := by
  refine V_mk (by decide +kernel) (Or.inl ⟨rfl, rfl⟩) (Nat.le_of_ble_eq_true rfl) (by simp [sv_c]) ?_
  show V_ _ _ _ 0 [_] [] _ _
  refine vr_aload_n (q := 1) dX0_clear_0 rfl rfl ?_
  refine vr_iconst (q := 2) dX0_clear_1 rfl ⟨by decide, by decide⟩ ?_
  refine vr_put (ji := 6) (q := 5) dX0_clear_2 rfl pX0_29 rfl rfl ?_
  refine vr_vret dX0_clear_5 rfl ?_
  first | exact kk | (exfalso; omega) | (repeat (first | exact kk | rw [if_pos (by omega)] at kk | rw [if_neg (by omega)] at kk))
theorem c_keepAhead {s : Int} (hs : 0 ≤ s ∧ s < 4) (hn : 0 ≤ h 40 5 ∧ h 40 5 < 24) (hk : 0 ≤ h 40 6 ∧ h 40 6 ≤ 24) (kk : Post none (ka_ h s)) : Ctr_ g (d + 1) mX0_keepAhead [sv_r 4 0 40, sv_r 4 6 7, sv_i s] h Post := by
  unfold ka_ at kk
  refine V_mk (by decide +kernel) (Or.inl ⟨rfl, rfl⟩) (Nat.le_of_ble_eq_true rfl) (by simp [sv_c]) ?_
  show V_ _ _ _ 0 [_, _, _] [] _ _
  refine vr_aload_n (q := 1) dX0_keepAhead_0 rfl rfl ?_
  refine vr_getR (q := 4) dX0_keepAhead_1 rfl fX0_9 rfl y_X0_0 (by first | (simp only [Int.reduceAdd]; rfl) | rfl) ?_
  refine vr_aload_n (q := 5) dX0_keepAhead_4 rfl rfl ?_
  refine vr_getI (ji := 5) (q := 8) dX0_keepAhead_5 rfl fX0_25 rfl rfl ?_
  refine vr_iload_n (q := 9) dX0_keepAhead_8 rfl rfl ?_
  refine vr_iast (q := 10) dX0_keepAhead_9 rfl ⟨by omega, by omega⟩ ?_
  refine vr_aload_n (q := 11) dX0_keepAhead_10 rfl rfl ?_
  refine vr_getR (q := 14) dX0_keepAhead_11 rfl fX0_13 rfl y_X0_1 (by first | (simp only [Int.reduceAdd]; rfl) | rfl) ?_
  refine vr_aload_n (q := 15) dX0_keepAhead_14 rfl rfl ?_
  refine vr_getV (ji := 5) (q := 18) dX0_keepAhead_15 rfl fX0_25 rfl rfl (by rw [hs_k (by decide)]) ?_
  refine vr_aload_n (q := 19) dX0_keepAhead_18 rfl rfl ?_
  refine vr_getR (q := 22) dX0_keepAhead_19 rfl fX0_32 rfl y_X7_7 (by first | (simp only [Int.reduceAdd]; rfl) | rfl) ?_
  refine vr_iload_n (q := 23) dX0_keepAhead_22 rfl rfl ?_
  refine vr_ialdV (q := 24) dX0_keepAhead_23 rfl ⟨by omega, by omega⟩ (by rw [hs_k (by decide)]) ?_
  refine vr_iast (q := 25) dX0_keepAhead_24 rfl ⟨by omega, by omega⟩ ?_
  refine vr_aload_n (q := 26) dX0_keepAhead_25 rfl rfl ?_
  refine vr_getR (q := 29) dX0_keepAhead_26 rfl fX0_16 rfl y_X0_2 (by first | (simp only [Int.reduceAdd]; rfl) | rfl) ?_
  refine vr_aload_n (q := 30) dX0_keepAhead_29 rfl rfl ?_
  refine vr_getV (ji := 5) (q := 33) dX0_keepAhead_30 rfl fX0_25 rfl rfl (by rw [hs_k (by decide), hs_k (by decide)]) ?_
  refine vr_aload_n (q := 34) dX0_keepAhead_33 rfl rfl ?_
  refine vr_getR (q := 37) dX0_keepAhead_34 rfl fX0_35 rfl y_X7_9 (by first | (simp only [Int.reduceAdd]; rfl) | rfl) ?_
  refine vr_iload_n (q := 38) dX0_keepAhead_37 rfl rfl ?_
  refine vr_ialdV (q := 39) dX0_keepAhead_38 rfl ⟨by omega, by omega⟩ (by rw [hs_k (by decide), hs_k (by decide)]) ?_
  refine vr_iast (q := 40) dX0_keepAhead_39 rfl ⟨by omega, by omega⟩ ?_
  refine vr_aload_n (q := 41) dX0_keepAhead_40 rfl rfl ?_
  refine vr_getR (q := 44) dX0_keepAhead_41 rfl fX0_19 rfl y_X0_3 (by first | (simp only [Int.reduceAdd]; rfl) | rfl) ?_
  refine vr_aload_n (q := 45) dX0_keepAhead_44 rfl rfl ?_
  refine vr_getV (ji := 5) (q := 48) dX0_keepAhead_45 rfl fX0_25 rfl rfl (by rw [hs_k (by decide), hs_k (by decide), hs_k (by decide)]) ?_
  refine vr_aload_n (q := 49) dX0_keepAhead_48 rfl rfl ?_
  refine vr_getR (q := 52) dX0_keepAhead_49 rfl fX0_36 rfl y_X7_10 (by first | (simp only [Int.reduceAdd]; rfl) | rfl) ?_
  refine vr_iload_n (q := 53) dX0_keepAhead_52 rfl rfl ?_
  refine vr_ialdV (q := 54) dX0_keepAhead_53 rfl ⟨by omega, by omega⟩ (by rw [hs_k (by decide), hs_k (by decide), hs_k (by decide)]) ?_
  refine vr_iast (q := 55) dX0_keepAhead_54 rfl ⟨by omega, by omega⟩ ?_
  refine vr_aload_n (q := 56) dX0_keepAhead_55 rfl rfl ?_
  refine vr_getR (q := 59) dX0_keepAhead_56 rfl fX0_22 rfl y_X0_4 (by first | (simp only [Int.reduceAdd]; rfl) | rfl) ?_
  refine vr_aload_n (q := 60) dX0_keepAhead_59 rfl rfl ?_
  refine vr_getV (ji := 5) (q := 63) dX0_keepAhead_60 rfl fX0_25 rfl rfl (by rw [hs_k (by decide), hs_k (by decide), hs_k (by decide), hs_k (by decide)]) ?_
  refine vr_aload_n (q := 64) dX0_keepAhead_63 rfl rfl ?_
  refine vr_getV (ji := 1) (q := 67) dX0_keepAhead_64 rfl fX0_37 rfl rfl (by rw [hs_k (by decide), hs_k (by decide), hs_k (by decide), hs_k (by decide)]) ?_
  refine vr_iast (q := 68) dX0_keepAhead_67 rfl ⟨by omega, by omega⟩ ?_
  refine vr_aload_n (q := 69) dX0_keepAhead_68 rfl rfl ?_
  refine vr_aload_n (q := 70) dX0_keepAhead_69 rfl rfl ?_
  refine vr_getV (ji := 5) (q := 73) dX0_keepAhead_70 rfl fX0_25 rfl rfl (by rw [hs_k (by decide), hs_k (by decide), hs_k (by decide), hs_k (by decide), hs_k (by decide)]) ?_
  refine vr_iconst (q := 74) dX0_keepAhead_73 rfl ⟨by decide, by decide⟩ ?_
  refine vr_iaddN (q := 75) dX0_keepAhead_74 rfl ⟨by omega, by omega⟩ ?_
  refine vr_bipush (q := 77) dX0_keepAhead_75 rfl ⟨by decide, by decide⟩ (by decide) ?_
  -- at X0.keepAhead 77: .if_icmp .ge 12
  refine vr_ic_ge (t := 89) (q := 80) dX0_keepAhead_77 (by decide) rfl (fun c1 => ?_) (fun c1 => ?_)
  · rw [if_neg (by omega)] at kk
    refine vr_iconst (q := 90) dX0_keepAhead_89 rfl ⟨by decide, by decide⟩ ?_
    refine vr_put (ji := 5) (q := 93) dX0_keepAhead_90 rfl pX0_25 rfl rfl ?_
    refine vr_aload_n (q := 94) dX0_keepAhead_93 rfl rfl ?_
    refine vr_aload_n (q := 95) dX0_keepAhead_94 rfl rfl ?_
    refine vr_getV (ji := 6) (q := 98) dX0_keepAhead_95 rfl fX0_29 rfl rfl (by rw [hs_n (by omega), hs_k (by decide), hs_k (by decide), hs_k (by decide), hs_k (by decide), hs_k (by decide)]) ?_
    refine vr_iconst (q := 99) dX0_keepAhead_98 rfl ⟨by decide, by decide⟩ ?_
    refine vr_iaddN (q := 100) dX0_keepAhead_99 rfl ⟨by omega, by omega⟩ ?_
    refine vr_bipush (q := 102) dX0_keepAhead_100 rfl ⟨by decide, by decide⟩ (by decide) ?_
    refine vr_is2 (q := 105) dX0_keepAhead_102 rfl vX0_40 (Nat.le_of_ble_eq_true rfl) ?_
    refine c_min ?_
    refine vr_put (ji := 6) (q := 108) dX0_keepAhead_105 rfl pX0_29 rfl rfl ?_
    refine vr_vret dX0_keepAhead_108 rfl ?_
    first | exact kk | (exfalso; omega) | (repeat (first | exact kk | rw [if_pos (by omega)] at kk | rw [if_neg (by omega)] at kk))
  · rw [if_pos (by omega)] at kk
    refine vr_aload_n (q := 81) dX0_keepAhead_80 rfl rfl ?_
    refine vr_getV (ji := 5) (q := 84) dX0_keepAhead_81 rfl fX0_25 rfl rfl (by rw [hs_k (by decide), hs_k (by decide), hs_k (by decide), hs_k (by decide), hs_k (by decide)]) ?_
    refine vr_iconst (q := 85) dX0_keepAhead_84 rfl ⟨by decide, by decide⟩ ?_
    refine vr_iaddN (q := 86) dX0_keepAhead_85 rfl ⟨by omega, by omega⟩ ?_
    refine vr_goto (q := 90) dX0_keepAhead_86 (by decide) ?_
    refine vr_put (ji := 5) (q := 93) dX0_keepAhead_90 rfl pX0_25 rfl rfl ?_
    refine vr_aload_n (q := 94) dX0_keepAhead_93 rfl rfl ?_
    refine vr_aload_n (q := 95) dX0_keepAhead_94 rfl rfl ?_
    refine vr_getV (ji := 6) (q := 98) dX0_keepAhead_95 rfl fX0_29 rfl rfl (by rw [hs_n (by omega), hs_k (by decide), hs_k (by decide), hs_k (by decide), hs_k (by decide), hs_k (by decide)]) ?_
    refine vr_iconst (q := 99) dX0_keepAhead_98 rfl ⟨by decide, by decide⟩ ?_
    refine vr_iaddN (q := 100) dX0_keepAhead_99 rfl ⟨by omega, by omega⟩ ?_
    refine vr_bipush (q := 102) dX0_keepAhead_100 rfl ⟨by decide, by decide⟩ (by decide) ?_
    refine vr_is2 (q := 105) dX0_keepAhead_102 rfl vX0_40 (Nat.le_of_ble_eq_true rfl) ?_
    refine c_min ?_
    refine vr_put (ji := 6) (q := 108) dX0_keepAhead_105 rfl pX0_29 rfl rfl ?_
    refine vr_vret dX0_keepAhead_108 rfl ?_
    first | exact kk | (exfalso; omega) | (repeat (first | exact kk | rw [if_pos (by omega)] at kk | rw [if_neg (by omega)] at kk))
theorem c_undoLatest (hn : 0 ≤ h 40 5 ∧ h 40 5 < 24) (hk : 0 ≤ h 40 6 ∧ h 40 6 ≤ 24) (hs : 0 ≤ h 41 (ul_n h) ∧ h 41 (ul_n h) < 4) (kk : Post none (ul_ h)) : Ctr_ g d mX0_undoLatest [sv_r 4 0 40, sv_r 4 6 7] h Post := by
  have hr : 0 ≤ ul_n h ∧ ul_n h < 24 := by unfold ul_n; split <;> omega
  unfold ul_ at kk
  generalize hu : ul_n h = u at *
  unfold ul_n at hu
  refine V_mk (by decide +kernel) (Or.inl ⟨rfl, rfl⟩) (Nat.le_of_ble_eq_true rfl) (by simp [sv_c]) ?_
  show V_ _ _ _ 0 [_, _, _] [] _ _
  refine vr_aload_n (q := 1) dX0_undoLatest_0 rfl rfl ?_
  refine vr_aload_n (q := 2) dX0_undoLatest_1 rfl rfl ?_
  refine vr_getI (ji := 5) (q := 5) dX0_undoLatest_2 rfl fX0_25 rfl rfl ?_
  -- at X0.undoLatest 5: .ifCond .le 12
  refine vr_if_le (t := 17) (q := 8) dX0_undoLatest_5 (by decide) rfl (fun c1 => ?_) (fun c1 => ?_)
  · rw [if_neg (by omega)] at hu
    refine vr_bipush (q := 19) dX0_undoLatest_17 rfl ⟨by decide, by decide⟩ (by decide) ?_
    -- at X0.undoLatest 19: .putfield 25
    rw [hu]
    refine vr_put (ji := 5) (q := 22) dX0_undoLatest_19 rfl pX0_25 rfl rfl ?_
    refine vr_aload_n (q := 23) dX0_undoLatest_22 rfl rfl ?_
    refine vr_dup (q := 24) dX0_undoLatest_23 rfl rfl ?_
    refine vr_getV (ji := 6) (q := 27) dX0_undoLatest_24 rfl fX0_29 rfl rfl (hs_n (by omega)) ?_
    refine vr_iconst (q := 28) dX0_undoLatest_27 rfl ⟨by decide, by decide⟩ ?_
    refine vr_isubN (q := 29) dX0_undoLatest_28 rfl ⟨by omega, by omega⟩ ?_
    refine vr_put (ji := 6) (q := 32) dX0_undoLatest_29 rfl pX0_29 rfl rfl ?_
    refine vr_aload_n (q := 33) dX0_undoLatest_32 rfl rfl ?_
    refine vr_getR (q := 36) dX0_undoLatest_33 rfl fX0_9 rfl y_X0_0 (by first | (simp only [Int.reduceAdd]; rfl) | rfl) ?_
    refine vr_aload_n (q := 37) dX0_undoLatest_36 rfl rfl ?_
    refine vr_getV (ji := 5) (q := 40) dX0_undoLatest_37 rfl fX0_25 rfl rfl (by rw [hs_n (by omega), hs_e]) ?_
    refine vr_ialdV (q := 41) dX0_undoLatest_40 rfl ⟨by omega, by omega⟩ (by rw [hs_k (by decide), hs_k (by decide)]) ?_
    refine vr_istore_n (q := 42) dX0_undoLatest_41 rfl rfl (Nat.le_of_ble_eq_true rfl) rfl rfl ?_
    refine vr_aload_n (q := 43) dX0_undoLatest_42 rfl rfl ?_
    refine vr_getR (q := 46) dX0_undoLatest_43 rfl fX0_32 rfl y_X7_7 (by first | (simp only [Int.reduceAdd]; rfl) | rfl) ?_
    refine vr_iload_n (q := 47) dX0_undoLatest_46 rfl rfl ?_
    refine vr_aload_n (q := 48) dX0_undoLatest_47 rfl rfl ?_
    refine vr_getR (q := 51) dX0_undoLatest_48 rfl fX0_13 rfl y_X0_1 (by first | (simp only [Int.reduceAdd]; rfl) | rfl) ?_
    refine vr_aload_n (q := 52) dX0_undoLatest_51 rfl rfl ?_
    refine vr_getV (ji := 5) (q := 55) dX0_undoLatest_52 rfl fX0_25 rfl rfl (by rw [hs_n (by omega), hs_e]) ?_
    refine vr_ialdV (q := 56) dX0_undoLatest_55 rfl ⟨by omega, by omega⟩ (by rw [hs_k (by decide), hs_k (by decide)]) ?_
    refine vr_iast (q := 57) dX0_undoLatest_56 rfl ⟨by omega, by omega⟩ ?_
    refine vr_aload_n (q := 58) dX0_undoLatest_57 rfl rfl ?_
    refine vr_getR (q := 61) dX0_undoLatest_58 rfl fX0_35 rfl y_X7_9 (by first | (simp only [Int.reduceAdd]; rfl) | rfl) ?_
    refine vr_iload_n (q := 62) dX0_undoLatest_61 rfl rfl ?_
    refine vr_aload_n (q := 63) dX0_undoLatest_62 rfl rfl ?_
    refine vr_getR (q := 66) dX0_undoLatest_63 rfl fX0_16 rfl y_X0_2 (by first | (simp only [Int.reduceAdd]; rfl) | rfl) ?_
    refine vr_aload_n (q := 67) dX0_undoLatest_66 rfl rfl ?_
    refine vr_getV (ji := 5) (q := 70) dX0_undoLatest_67 rfl fX0_25 rfl rfl (by rw [hs_k (by decide), hs_n (by omega), hs_e]) ?_
    refine vr_ialdV (q := 71) dX0_undoLatest_70 rfl ⟨by omega, by omega⟩ (by rw [hs_k (by decide), hs_k (by decide), hs_k (by decide)]) ?_
    refine vr_iast (q := 72) dX0_undoLatest_71 rfl ⟨by omega, by omega⟩ ?_
    refine vr_aload_n (q := 73) dX0_undoLatest_72 rfl rfl ?_
    refine vr_getR (q := 76) dX0_undoLatest_73 rfl fX0_36 rfl y_X7_10 (by first | (simp only [Int.reduceAdd]; rfl) | rfl) ?_
    refine vr_iload_n (q := 77) dX0_undoLatest_76 rfl rfl ?_
    refine vr_aload_n (q := 78) dX0_undoLatest_77 rfl rfl ?_
    refine vr_getR (q := 81) dX0_undoLatest_78 rfl fX0_19 rfl y_X0_3 (by first | (simp only [Int.reduceAdd]; rfl) | rfl) ?_
    refine vr_aload_n (q := 82) dX0_undoLatest_81 rfl rfl ?_
    refine vr_getV (ji := 5) (q := 85) dX0_undoLatest_82 rfl fX0_25 rfl rfl (by rw [hs_k (by decide), hs_k (by decide), hs_n (by omega), hs_e]) ?_
    refine vr_ialdV (q := 86) dX0_undoLatest_85 rfl ⟨by omega, by omega⟩ (by rw [hs_k (by decide), hs_k (by decide), hs_k (by decide), hs_k (by decide)]) ?_
    refine vr_iast (q := 87) dX0_undoLatest_86 rfl ⟨by omega, by omega⟩ ?_
    refine vr_aload_n (q := 88) dX0_undoLatest_87 rfl rfl ?_
    refine vr_aload_n (q := 89) dX0_undoLatest_88 rfl rfl ?_
    refine vr_getR (q := 92) dX0_undoLatest_89 rfl fX0_22 rfl y_X0_4 (by first | (simp only [Int.reduceAdd]; rfl) | rfl) ?_
    refine vr_aload_n (q := 93) dX0_undoLatest_92 rfl rfl ?_
    refine vr_getV (ji := 5) (q := 96) dX0_undoLatest_93 rfl fX0_25 rfl rfl (by rw [hs_k (by decide), hs_k (by decide), hs_k (by decide), hs_n (by omega), hs_e]) ?_
    refine vr_ialdV (q := 97) dX0_undoLatest_96 rfl ⟨by omega, by omega⟩ (by rw [hs_k (by decide), hs_k (by decide), hs_k (by decide), hs_k (by decide), hs_k (by decide)]) ?_
    refine vr_put (ji := 1) (q := 100) dX0_undoLatest_97 rfl pX0_37 rfl rfl ?_
    refine vr_vret dX0_undoLatest_100 rfl ?_
    first | exact kk | (exfalso; omega) | (repeat (first | exact kk | rw [if_pos (by omega)] at kk | rw [if_neg (by omega)] at kk))
  · rw [if_pos (by omega)] at hu
    refine vr_aload_n (q := 9) dX0_undoLatest_8 rfl rfl ?_
    refine vr_getI (ji := 5) (q := 12) dX0_undoLatest_9 rfl fX0_25 rfl rfl ?_
    refine vr_iconst (q := 13) dX0_undoLatest_12 rfl ⟨by decide, by decide⟩ ?_
    refine vr_isubN (q := 14) dX0_undoLatest_13 rfl ⟨by omega, by omega⟩ ?_
    refine vr_goto (q := 19) dX0_undoLatest_14 (by decide) ?_
    -- at X0.undoLatest 19: .putfield 25
    rw [hu]
    refine vr_put (ji := 5) (q := 22) dX0_undoLatest_19 rfl pX0_25 rfl rfl ?_
    refine vr_aload_n (q := 23) dX0_undoLatest_22 rfl rfl ?_
    refine vr_dup (q := 24) dX0_undoLatest_23 rfl rfl ?_
    refine vr_getV (ji := 6) (q := 27) dX0_undoLatest_24 rfl fX0_29 rfl rfl (hs_n (by omega)) ?_
    refine vr_iconst (q := 28) dX0_undoLatest_27 rfl ⟨by decide, by decide⟩ ?_
    refine vr_isubN (q := 29) dX0_undoLatest_28 rfl ⟨by omega, by omega⟩ ?_
    refine vr_put (ji := 6) (q := 32) dX0_undoLatest_29 rfl pX0_29 rfl rfl ?_
    refine vr_aload_n (q := 33) dX0_undoLatest_32 rfl rfl ?_
    refine vr_getR (q := 36) dX0_undoLatest_33 rfl fX0_9 rfl y_X0_0 (by first | (simp only [Int.reduceAdd]; rfl) | rfl) ?_
    refine vr_aload_n (q := 37) dX0_undoLatest_36 rfl rfl ?_
    refine vr_getV (ji := 5) (q := 40) dX0_undoLatest_37 rfl fX0_25 rfl rfl (by rw [hs_n (by omega), hs_e]) ?_
    refine vr_ialdV (q := 41) dX0_undoLatest_40 rfl ⟨by omega, by omega⟩ (by rw [hs_k (by decide), hs_k (by decide)]) ?_
    refine vr_istore_n (q := 42) dX0_undoLatest_41 rfl rfl (Nat.le_of_ble_eq_true rfl) rfl rfl ?_
    refine vr_aload_n (q := 43) dX0_undoLatest_42 rfl rfl ?_
    refine vr_getR (q := 46) dX0_undoLatest_43 rfl fX0_32 rfl y_X7_7 (by first | (simp only [Int.reduceAdd]; rfl) | rfl) ?_
    refine vr_iload_n (q := 47) dX0_undoLatest_46 rfl rfl ?_
    refine vr_aload_n (q := 48) dX0_undoLatest_47 rfl rfl ?_
    refine vr_getR (q := 51) dX0_undoLatest_48 rfl fX0_13 rfl y_X0_1 (by first | (simp only [Int.reduceAdd]; rfl) | rfl) ?_
    refine vr_aload_n (q := 52) dX0_undoLatest_51 rfl rfl ?_
    refine vr_getV (ji := 5) (q := 55) dX0_undoLatest_52 rfl fX0_25 rfl rfl (by rw [hs_n (by omega), hs_e]) ?_
    refine vr_ialdV (q := 56) dX0_undoLatest_55 rfl ⟨by omega, by omega⟩ (by rw [hs_k (by decide), hs_k (by decide)]) ?_
    refine vr_iast (q := 57) dX0_undoLatest_56 rfl ⟨by omega, by omega⟩ ?_
    refine vr_aload_n (q := 58) dX0_undoLatest_57 rfl rfl ?_
    refine vr_getR (q := 61) dX0_undoLatest_58 rfl fX0_35 rfl y_X7_9 (by first | (simp only [Int.reduceAdd]; rfl) | rfl) ?_
    refine vr_iload_n (q := 62) dX0_undoLatest_61 rfl rfl ?_
    refine vr_aload_n (q := 63) dX0_undoLatest_62 rfl rfl ?_
    refine vr_getR (q := 66) dX0_undoLatest_63 rfl fX0_16 rfl y_X0_2 (by first | (simp only [Int.reduceAdd]; rfl) | rfl) ?_
    refine vr_aload_n (q := 67) dX0_undoLatest_66 rfl rfl ?_
    refine vr_getV (ji := 5) (q := 70) dX0_undoLatest_67 rfl fX0_25 rfl rfl (by rw [hs_k (by decide), hs_n (by omega), hs_e]) ?_
    refine vr_ialdV (q := 71) dX0_undoLatest_70 rfl ⟨by omega, by omega⟩ (by rw [hs_k (by decide), hs_k (by decide), hs_k (by decide)]) ?_
    refine vr_iast (q := 72) dX0_undoLatest_71 rfl ⟨by omega, by omega⟩ ?_
    refine vr_aload_n (q := 73) dX0_undoLatest_72 rfl rfl ?_
    refine vr_getR (q := 76) dX0_undoLatest_73 rfl fX0_36 rfl y_X7_10 (by first | (simp only [Int.reduceAdd]; rfl) | rfl) ?_
    refine vr_iload_n (q := 77) dX0_undoLatest_76 rfl rfl ?_
    refine vr_aload_n (q := 78) dX0_undoLatest_77 rfl rfl ?_
    refine vr_getR (q := 81) dX0_undoLatest_78 rfl fX0_19 rfl y_X0_3 (by first | (simp only [Int.reduceAdd]; rfl) | rfl) ?_
    refine vr_aload_n (q := 82) dX0_undoLatest_81 rfl rfl ?_
    refine vr_getV (ji := 5) (q := 85) dX0_undoLatest_82 rfl fX0_25 rfl rfl (by rw [hs_k (by decide), hs_k (by decide), hs_n (by omega), hs_e]) ?_
    refine vr_ialdV (q := 86) dX0_undoLatest_85 rfl ⟨by omega, by omega⟩ (by rw [hs_k (by decide), hs_k (by decide), hs_k (by decide), hs_k (by decide)]) ?_
    refine vr_iast (q := 87) dX0_undoLatest_86 rfl ⟨by omega, by omega⟩ ?_
    refine vr_aload_n (q := 88) dX0_undoLatest_87 rfl rfl ?_
    refine vr_aload_n (q := 89) dX0_undoLatest_88 rfl rfl ?_
    refine vr_getR (q := 92) dX0_undoLatest_89 rfl fX0_22 rfl y_X0_4 (by first | (simp only [Int.reduceAdd]; rfl) | rfl) ?_
    refine vr_aload_n (q := 93) dX0_undoLatest_92 rfl rfl ?_
    refine vr_getV (ji := 5) (q := 96) dX0_undoLatest_93 rfl fX0_25 rfl rfl (by rw [hs_k (by decide), hs_k (by decide), hs_k (by decide), hs_n (by omega), hs_e]) ?_
    refine vr_ialdV (q := 97) dX0_undoLatest_96 rfl ⟨by omega, by omega⟩ (by rw [hs_k (by decide), hs_k (by decide), hs_k (by decide), hs_k (by decide), hs_k (by decide)]) ?_
    refine vr_put (ji := 1) (q := 100) dX0_undoLatest_97 rfl pX0_37 rfl rfl ?_
    refine vr_vret dX0_undoLatest_100 rfl ?_
    first | exact kk | (exfalso; omega) | (repeat (first | exact kk | rw [if_pos (by omega)] at kk | rw [if_neg (by omega)] at kk))
end PAC_
