/-- the reference's mind becomes m -/
def mw_ (h : SH_) (m : MU_) : SH_ := fun a b =>
  if a = 68 then (if b = 21 then m.1 else if b = 22 then m.2.1 else if b = 23 then m.2.2.1 else h a b)
  else if a = 80 then (if b = 0 then m.2.2.2.1 else if b = 1 then m.2.2.2.2.1 else if b = 2 then m.2.2.2.2.2.1 else if b = 3 then m.2.2.2.2.2.2 else h a b) else h a b
theorem mm_mw (h : SH_) (m : MU_) : mm_ (mw_ h m) = m := by
  obtain ⟨a, b, c, e, f, i, j⟩ := m
  simp [mm_, mw_, a4_]
theorem mw_n {h : SH_} {m : MU_} {a : Int} (h1 : a ≠ 68) (h2 : a ≠ 80) : mw_ h m a = h a := by
  funext b
  simp [mw_, h1, h2]
theorem mw_f {h : SH_} {m : MU_} {b : Int} (hb : b < 21 ∨ 23 < b) : mw_ h m 68 b = h 68 b := by
  unfold mw_
  rw [if_pos rfl, if_neg (by omega), if_neg (by omega), if_neg (by omega)]
theorem mw_mw (h : SH_) (m n : MU_) : mw_ (mw_ h m) n = mw_ h n := by
  funext a b
  unfold mw_
  repeat' split
  all_goals first | rfl | omega
theorem mw_id (h : SH_) : mw_ h (mm_ h) = h := by
  funext a b
  unfold mw_ mm_ a4_
  repeat' split
  all_goals first | rfl | (subst_vars; rfl)
theorem mw_h21 (h : SH_) (m : MU_) (v : Int) : hs_ (mw_ h m) 68 21 v = mw_ h (v, m.2) := by
  funext a b
  unfold mw_ hs_
  by_cases h1 : a = 68
  · subst h1
    by_cases c0 : b = 21
    · subst c0; simp
    · simp [c0]
  · simp [h1]
theorem mw_h22 (h : SH_) (m : MU_) (v : Int) : hs_ (mw_ h m) 68 22 v = mw_ h (m.1, v, m.2.2) := by
  funext a b
  unfold mw_ hs_
  by_cases h1 : a = 68
  · subst h1
    by_cases c0 : b = 22
    · subst c0; simp
    · simp [c0]
  · simp [h1]
theorem mw_h23 (h : SH_) (m : MU_) (v : Int) : hs_ (mw_ h m) 68 23 v = mw_ h (m.1, m.2.1, v, m.2.2.2) := by
  funext a b
  unfold mw_ hs_
  by_cases h1 : a = 68
  · subst h1
    by_cases c0 : b = 23
    · subst c0; simp
    · simp [c0]
  · simp [h1]
theorem mw_q (h : SH_) (m : MU_) (v : Int) {t : Int} (ht : 0 ≤ t ∧ t < 4) : hs_ (mw_ h m) 80 t v = mw_ h (m.1, m.2.1, m.2.2.1, u4_ m.2.2.2 t v) := by
  funext a b
  unfold mw_ hs_ u4_
  by_cases h1 : a = 68
  · subst h1
    simp
  · by_cases h2 : a = 80
    · subst h2
      rcases (by omega : t = 0 ∨ t = 1 ∨ t = 2 ∨ t = 3) with rfl | rfl | rfl | rfl
      · by_cases c0 : b = 0
        · subst c0; simp
        · simp [c0]
      · by_cases c0 : b = 1
        · subst c0; simp
        · simp [c0]
      · by_cases c0 : b = 2
        · subst c0; simp
        · simp [c0]
      · by_cases c0 : b = 3
        · subst c0; simp
        · simp [c0]
    · simp [h1, h2]
theorem hs_w21 (h : SH_) (v : Int) : hs_ h 68 21 v = mw_ h (v, (mm_ h).2) := by
  have e := mw_h21 h (mm_ h) v
  rw [mw_id] at e
  exact e
theorem hs_w23 (h : SH_) (v : Int) : hs_ h 68 23 v = mw_ h ((mm_ h).1, (mm_ h).2.1, v, (mm_ h).2.2.2) := by
  have e := mw_h23 h (mm_ h) v
  rw [mw_id] at e
  exact e
theorem mw_t {h : SH_} {m : MU_} {t : Int} (ht : 0 ≤ t ∧ t < 4) : mw_ h m 80 t = q4_ m.2.2.2 t := by
  have e2 : a4_ (mw_ h m 80) = m.2.2.2 := congrArg (fun z : MU_ => z.2.2.2) (mm_mw h m)
  rw [← e2, q4_a ht]
section PM4_
variable {g : SG_} {d : Nat} {h : SH_} {Post : Option SV_ → SH_ → Prop}
theorem m_hears {l b n : Int} (hl : 0 ≤ l ∧ l < 6) (hlo : lo_ (h 74 (4 + 3 * l)) (h 74 (4 + 3 * l + 1)) (h 74 (4 + 3 * l + 2))) (hm : mo_ n (mm_ h)) (hn : n ≤ 100) (kk : Post none (mw_ h (he_ (h 74 (4 + 3 * l + 1)) (h 74 (4 + 3 * l + 2)) b (mm_ h)))) : Ctr_ g d mX9_hears [sv_r 4 8 68, sv_i l, sv_i b] h Post := by
  obtain ⟨-, hw, ht⟩ := hlo
  have h1 : 0 ≤ h 68 21 ∧ h 68 21 ≤ 20 := hm.1
  have h2 : 0 ≤ h 68 23 ∧ h 68 23 ≤ n := hm.2.2.1
  have hq := hm.2.2.2 (h 74 (4 + 3 * l + 2)) ht.1 ht.2
  have e4 : q4_ (mm_ h).2.2.2 (h 74 (4 + 3 * l + 2)) = h 80 (h 74 (4 + 3 * l + 2)) := q4_a ht
  rw [e4] at hq
  have hd0 : 0 ≤ (h 74 (4 + 3 * l + 1)).tdiv 4 := Int.tdiv_nonneg (by omega) (by omega)
  have hd1 : (h 74 (4 + 3 * l + 1)).tdiv 4 ≤ 20 := by
    rw [Int.tdiv_eq_ediv_of_nonneg (by omega)]
    omega
  have e1 : (mm_ h).1 = h 68 21 := rfl
  unfold he_ at kk
  refine V_mk (by decide +kernel) (Or.inl ⟨rfl, rfl⟩) (Nat.le_of_ble_eq_true rfl) (by simp [sv_c]) ?_
  show V_ _ _ _ 0 [_, _, _, _] [] _ _
  refine vr_aload_n (q := 1) dX9_hears_0 rfl rfl ?_
  refine vr_dup (q := 2) dX9_hears_1 rfl rfl ?_
  refine vr_getI (ji := 23) (q := 5) dX9_hears_2 rfl fX9_153 rfl rfl ?_
  refine vr_iconst (q := 6) dX9_hears_5 rfl ⟨by decide, by decide⟩ ?_
  refine vr_iaddN (q := 7) dX9_hears_6 rfl ⟨by omega, by omega⟩ ?_
  refine vr_put (ji := 23) (q := 10) dX9_hears_7 rfl pX9_153 rfl rfl ?_
  refine vr_iload_n (q := 11) dX9_hears_10 rfl rfl ?_
  -- at X9.hears 11: .ifCond .eq 51
  refine vr_if_eq (t := 62) (q := 14) dX9_hears_11 (by decide) rfl (fun c1 => ?_) (fun c1 => ?_)
  · rw [if_pos c1] at kk
    refine vr_aload_n (q := 63) dX9_hears_62 rfl rfl ?_
    refine vr_getR (q := 66) dX9_hears_63 rfl fX9_25 rfl y_X9_13 (by first | (simp only [Int.reduceAdd]; rfl) | rfl) ?_
    refine vr_iconst (q := 67) dX9_hears_66 rfl ⟨by decide, by decide⟩ ?_
    refine vr_iconst (q := 68) dX9_hears_67 rfl ⟨by decide, by decide⟩ ?_
    refine vr_iload_n (q := 69) dX9_hears_68 rfl rfl ?_
    refine vr_imulN (q := 70) dX9_hears_69 rfl ⟨by omega, by omega⟩ ?_
    refine vr_iaddN (q := 71) dX9_hears_70 rfl ⟨by omega, by omega⟩ ?_
    refine vr_iconst (q := 72) dX9_hears_71 rfl ⟨by decide, by decide⟩ ?_
    refine vr_iaddN (q := 73) dX9_hears_72 rfl ⟨by omega, by omega⟩ ?_
    refine vr_ialdV (q := 74) dX9_hears_73 rfl ⟨by omega, by omega⟩ (hs_n (by omega)) ?_
    refine vr_iconst (q := 75) dX9_hears_74 rfl ⟨by decide, by decide⟩ ?_
    refine vr_idiv (q := 76) dX9_hears_75 rfl (by omega) ?_
    refine vr_iconst (q := 77) dX9_hears_76 rfl ⟨by decide, by decide⟩ ?_
    refine vr_iaddN (q := 78) dX9_hears_77 rfl ⟨by omega, by omega⟩ ?_
    refine vr_istore_n (q := 79) dX9_hears_78 rfl rfl (Nat.le_of_ble_eq_true rfl) rfl rfl ?_
    refine vr_aload_n (q := 80) dX9_hears_79 rfl rfl ?_
    refine vr_aload_n (q := 81) dX9_hears_80 rfl rfl ?_
    refine vr_getV (ji := 21) (q := 84) dX9_hears_81 rfl fX9_144 rfl rfl (hs_n (by omega)) ?_
    refine vr_iload_n (q := 85) dX9_hears_84 rfl rfl ?_
    -- at X9.hears 85: .if_icmp .le 12
    refine vr_ic_le (t := 97) (q := 88) dX9_hears_85 (by decide) rfl (fun c2 => ?_) (fun c2 => ?_)
    · refine vr_iconst (q := 98) dX9_hears_97 rfl ⟨by decide, by decide⟩ ?_
      refine vr_put (ji := 21) (q := 101) dX9_hears_98 rfl pX9_144 rfl rfl ?_
      -- at X9.hears 101: .return_
      refine vr_vret dX9_hears_101 rfl ?_
      rw [hs_w23, mw_h21]
      rw [show (if (mm_ h).1 - (h 74 (4 + 3 * l + 1)).tdiv 4 - 1 < 0 then (0 : Int) else (mm_ h).1 - (h 74 (4 + 3 * l + 1)).tdiv 4 - 1) = 0 by split <;> omega] at kk
      exact kk
    · refine vr_aload_n (q := 89) dX9_hears_88 rfl rfl ?_
      refine vr_getV (ji := 21) (q := 92) dX9_hears_89 rfl fX9_144 rfl rfl (hs_n (by omega)) ?_
      refine vr_iload_n (q := 93) dX9_hears_92 rfl rfl ?_
      refine vr_isubN (q := 94) dX9_hears_93 rfl ⟨by omega, by omega⟩ ?_
      refine vr_goto (q := 98) dX9_hears_94 (by decide) ?_
      refine vr_put (ji := 21) (q := 101) dX9_hears_98 rfl pX9_144 rfl rfl ?_
      -- at X9.hears 101: .return_
      refine vr_vret dX9_hears_101 rfl ?_
      rw [hs_w23, mw_h21]
      rw [show (if (mm_ h).1 - (h 74 (4 + 3 * l + 1)).tdiv 4 - 1 < 0 then (0 : Int) else (mm_ h).1 - (h 74 (4 + 3 * l + 1)).tdiv 4 - 1) = h 68 21 - ((h 74 (4 + 3 * l + 1)).tdiv 4 + 1) by split <;> omega] at kk
      exact kk
  · rw [if_neg c1, e4] at kk
    refine vr_aload_n (q := 15) dX9_hears_14 rfl rfl ?_
    refine vr_getR (q := 18) dX9_hears_15 rfl fX9_44 rfl y_X9_24 (by first | (simp only [Int.reduceAdd]; rfl) | rfl) ?_
    refine vr_aload_n (q := 19) dX9_hears_18 rfl rfl ?_
    refine vr_getR (q := 22) dX9_hears_19 rfl fX9_25 rfl y_X9_13 (by first | (simp only [Int.reduceAdd]; rfl) | rfl) ?_
    refine vr_iconst (q := 23) dX9_hears_22 rfl ⟨by decide, by decide⟩ ?_
    refine vr_iconst (q := 24) dX9_hears_23 rfl ⟨by decide, by decide⟩ ?_
    refine vr_iload_n (q := 25) dX9_hears_24 rfl rfl ?_
    refine vr_imulN (q := 26) dX9_hears_25 rfl ⟨by omega, by omega⟩ ?_
    refine vr_iaddN (q := 27) dX9_hears_26 rfl ⟨by omega, by omega⟩ ?_
    refine vr_iconst (q := 28) dX9_hears_27 rfl ⟨by decide, by decide⟩ ?_
    refine vr_iaddN (q := 29) dX9_hears_28 rfl ⟨by omega, by omega⟩ ?_
    refine vr_ialdV (q := 30) dX9_hears_29 rfl ⟨by omega, by omega⟩ (hs_n (by omega)) ?_
    refine vr_dup2 (q := 31) dX9_hears_30 rfl rfl rfl ?_
    refine vr_ialdV (q := 32) dX9_hears_31 rfl ⟨by omega, by omega⟩ (hs_n (by omega)) ?_
    refine vr_iconst (q := 33) dX9_hears_32 rfl ⟨by decide, by decide⟩ ?_
    refine vr_iaddN (q := 34) dX9_hears_33 rfl ⟨by omega, by omega⟩ ?_
    refine vr_iast (q := 35) dX9_hears_34 rfl ⟨by omega, by omega⟩ ?_
    refine vr_aload_n (q := 36) dX9_hears_35 rfl rfl ?_
    refine vr_aload_n (q := 37) dX9_hears_36 rfl rfl ?_
    refine vr_getV (ji := 21) (q := 40) dX9_hears_37 rfl fX9_144 rfl rfl (by rw [hs_n (by omega), hs_n (by omega)]) ?_
    refine vr_bipush (q := 42) dX9_hears_40 rfl ⟨by decide, by decide⟩ (by decide) ?_
    -- at X9.hears 42: .if_icmp .ge 12
    refine vr_ic_ge (t := 54) (q := 45) dX9_hears_42 (by decide) rfl (fun c2 => ?_) (fun c2 => ?_)
    · refine vr_bipush (q := 56) dX9_hears_54 rfl ⟨by decide, by decide⟩ (by decide) ?_
      refine vr_put (ji := 21) (q := 59) dX9_hears_56 rfl pX9_144 rfl rfl ?_
      refine vr_goto (q := 101) dX9_hears_59 (by decide) ?_
      -- at X9.hears 101: .return_
      refine vr_vret dX9_hears_101 rfl ?_
      rw [hs_w23, mw_q _ _ _ ht, mw_h21]
      rw [show (if 20 < (mm_ h).1 + 1 then (20 : Int) else (mm_ h).1 + 1) = 20 by split <;> omega] at kk
      exact kk
    · refine vr_aload_n (q := 46) dX9_hears_45 rfl rfl ?_
      refine vr_getV (ji := 21) (q := 49) dX9_hears_46 rfl fX9_144 rfl rfl (by rw [hs_n (by omega), hs_n (by omega)]) ?_
      refine vr_iconst (q := 50) dX9_hears_49 rfl ⟨by decide, by decide⟩ ?_
      refine vr_iaddN (q := 51) dX9_hears_50 rfl ⟨by omega, by omega⟩ ?_
      refine vr_goto (q := 56) dX9_hears_51 (by decide) ?_
      refine vr_put (ji := 21) (q := 59) dX9_hears_56 rfl pX9_144 rfl rfl ?_
      refine vr_goto (q := 101) dX9_hears_59 (by decide) ?_
      -- at X9.hears 101: .return_
      refine vr_vret dX9_hears_101 rfl ?_
      rw [hs_w23, mw_q _ _ _ ht, mw_h21]
      rw [show (if 20 < (mm_ h).1 + 1 then (20 : Int) else (mm_ h).1 + 1) = h 68 21 + 1 by split <;> omega] at kk
      exact kk
end PM4_
