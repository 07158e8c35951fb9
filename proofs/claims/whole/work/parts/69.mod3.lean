/-- the reference's mind, and its lies -/
def mm_ (h : SH_) : MU_ := (h 68 21, h 68 22, h 68 23, a4_ (h 80))
def mf_ (h : SH_) : TF_ := (fun l => h 74 (4 + 3 * l), fun l => h 74 (4 + 3 * l + 1), fun l => h 74 (4 + 3 * l + 2))
/-- the reference's town is in order -/
def mt_ (h : SH_) : Prop := (0 ≤ h 74 2 ∧ h 74 2 ≤ 6) ∧ (0 ≤ h 74 3 ∧ h 74 3 ≤ 4) ∧ (0 ≤ h 74 0 ∧ h 74 0 ≤ 9) ∧ (∀ l, 0 ≤ l → l < h 74 2 → lo_ (h 74 (4 + 3 * l)) (h 74 (4 + 3 * l + 1)) (h 74 (4 + 3 * l + 2))) ∧
  (∀ s, 0 ≤ s → s < h 74 3 → (0 ≤ h 74 (22 + 4 * s) ∧ h 74 (22 + 4 * s) ≤ 20) ∧ (0 ≤ h 74 (22 + 4 * s + 1) ∧ h 74 (22 + 4 * s + 1) < 16) ∧ (0 ≤ h 74 (22 + 4 * s + 2) ∧ h 74 (22 + 4 * s + 2) < 64) ∧ (0 ≤ h 74 (22 + 4 * s + 3) ∧ h 74 (22 + 4 * s + 3) < 64))
section PM3_
variable {g : SG_} {d : Nat} {h : SH_} {Post : Option SV_ → SH_ → Prop}
theorem m_untold {s : Int} (hs : 0 ≤ s ∧ s < 4) (hl : 0 ≤ h 74 2 ∧ h 74 2 ≤ 6) (kk : Post (some (sv_i (ut_ (h 74 2) (h 74 (22 + 4 * s + 2))))) h) : Ctr_ g d mX9_untold [sv_r 4 8 68, sv_i s] h Post := by
  have hr := sh_r hl
  refine V_mk (by decide +kernel) (Or.inr (Or.inl ⟨rfl, rfl⟩)) (Nat.le_of_ble_eq_true rfl) (by simp [sv_c]) ?_
  show V_ _ _ _ 0 [_, _] [] _ _
  refine vr_iconst (q := 1) dX9_untold_0 rfl ⟨by decide, by decide⟩ ?_
  refine vr_aload_n (q := 2) dX9_untold_1 rfl rfl ?_
  refine vr_getR (q := 5) dX9_untold_2 rfl fX9_25 rfl y_X9_13 (by first | (simp only [Int.reduceAdd]; rfl) | rfl) ?_
  refine vr_iconst (q := 6) dX9_untold_5 rfl ⟨by decide, by decide⟩ ?_
  refine vr_iald (q := 7) dX9_untold_6 rfl ⟨by omega, by omega⟩ ?_
  refine vr_ishl (q := 8) dX9_untold_7 rfl ?_
  refine vr_iconst (q := 9) dX9_untold_8 rfl ⟨by decide, by decide⟩ ?_
  refine vr_isubN (q := 10) dX9_untold_9 rfl ⟨by omega, by omega⟩ ?_
  refine vr_aload_n (q := 11) dX9_untold_10 rfl rfl ?_
  refine vr_getR (q := 14) dX9_untold_11 rfl fX9_25 rfl y_X9_13 (by first | (simp only [Int.reduceAdd]; rfl) | rfl) ?_
  refine vr_bipush (q := 16) dX9_untold_14 rfl ⟨by decide, by decide⟩ (by decide) ?_
  refine vr_iconst (q := 17) dX9_untold_16 rfl ⟨by decide, by decide⟩ ?_
  refine vr_iload_n (q := 18) dX9_untold_17 rfl rfl ?_
  refine vr_imulN (q := 19) dX9_untold_18 rfl ⟨by omega, by omega⟩ ?_
  refine vr_iaddN (q := 20) dX9_untold_19 rfl ⟨by omega, by omega⟩ ?_
  refine vr_iconst (q := 21) dX9_untold_20 rfl ⟨by decide, by decide⟩ ?_
  refine vr_iaddN (q := 22) dX9_untold_21 rfl ⟨by omega, by omega⟩ ?_
  refine vr_iald (q := 23) dX9_untold_22 rfl ⟨by omega, by omega⟩ ?_
  refine vr_iconst (q := 24) dX9_untold_23 rfl ⟨by decide, by decide⟩ ?_
  refine vr_ixor (q := 25) dX9_untold_24 rfl ?_
  refine vr_iand (q := 26) dX9_untold_25 rfl ?_
  refine vr_iret dX9_untold_26 rfl ?_
  first | exact kk | (exfalso; omega) | (repeat (first | exact kk | rw [if_pos (by omega)] at kk | rw [if_neg (by omega)] at kk))
theorem mx_stranger {s w : Int} (hs : 0 ≤ h 74 3 ∧ h 74 3 ≤ 4) (k1 : ¬ ((0 ≤ s ∧ s < h 74 3) ∧ (0 ≤ w ∧ w ≤ 3)) → Post (some (sv_i (-1000001))) h) (k2 : ((0 ≤ s ∧ s < h 74 3) ∧ (0 ≤ w ∧ w ≤ 3)) → Post (some (sv_i (h 74 (22 + 4 * s + w)))) h) : Ctr_ g (d + 2) mX9_stranger [sv_r 4 8 68, sv_i s, sv_i w] h Post := by
  refine V_mk (by decide +kernel) (Or.inr (Or.inl ⟨rfl, rfl⟩)) (Nat.le_of_ble_eq_true rfl) (by simp [sv_c]) ?_
  show V_ _ _ _ 0 [_, _, _] [] _ _
  refine vr_aload_n (q := 1) dX9_stranger_0 rfl rfl ?_
  refine vr_iload_n (q := 2) dX9_stranger_1 rfl rfl ?_
  refine vr_iv1 (q := 5) dX9_stranger_2 rfl vX9_163 (Nat.le_of_ble_eq_true rfl) ?_
  refine m_isStranger hs (fun c2 => ?_) (fun c2 => ?_)
  · refine vr_if_eq (t := 33) (q := 8) dX9_stranger_5 (by decide) rfl (fun c9 => absurd c9 (by omega)) (fun _ => ?_)
    refine vr_iload_n (q := 9) dX9_stranger_8 rfl rfl ?_
    refine vr_iconst (q := 10) dX9_stranger_9 rfl ⟨by decide, by decide⟩ ?_
    refine vr_iconst (q := 11) dX9_stranger_10 rfl ⟨by decide, by decide⟩ ?_
    refine vr_is3 (q := 14) dX9_stranger_11 rfl vX9_59 (Nat.le_of_ble_eq_true rfl) ?_
    refine m_in (fun c11 => ?_) (fun c11 => ?_)
    · refine vr_if_eq (t := 33) (q := 17) dX9_stranger_14 (by decide) rfl (fun c9 => absurd c9 (by omega)) (fun _ => ?_)
      refine vr_aload_n (q := 18) dX9_stranger_17 rfl rfl ?_
      refine vr_getR (q := 21) dX9_stranger_18 rfl fX9_25 rfl y_X9_13 (by first | (simp only [Int.reduceAdd]; rfl) | rfl) ?_
      refine vr_bipush (q := 23) dX9_stranger_21 rfl ⟨by decide, by decide⟩ (by decide) ?_
      refine vr_iconst (q := 24) dX9_stranger_23 rfl ⟨by decide, by decide⟩ ?_
      refine vr_iload_n (q := 25) dX9_stranger_24 rfl rfl ?_
      refine vr_imulN (q := 26) dX9_stranger_25 rfl ⟨by omega, by omega⟩ ?_
      refine vr_iaddN (q := 27) dX9_stranger_26 rfl ⟨by omega, by omega⟩ ?_
      refine vr_iload_n (q := 28) dX9_stranger_27 rfl rfl ?_
      refine vr_iaddN (q := 29) dX9_stranger_28 rfl ⟨by omega, by omega⟩ ?_
      refine vr_iald (q := 30) dX9_stranger_29 rfl ⟨by omega, by omega⟩ ?_
      refine vr_goto (q := 35) dX9_stranger_30 (by decide) ?_
      refine vr_iret dX9_stranger_35 rfl ?_
      first | exact k1 (by omega) | exact k2 (by omega)
    · refine vr_if_eq (t := 33) (q := 17) dX9_stranger_14 (by decide) rfl (fun _ => ?_) (fun c9 => absurd c9 (by omega))
      refine vr_ldc (x := -1000001) (q := 35) dX9_stranger_33 rfl ⟨by decide, by decide⟩ qX9_67 ?_
      refine vr_iret dX9_stranger_35 rfl ?_
      first | exact k1 (by omega) | exact k2 (by omega)
  · refine vr_if_eq (t := 33) (q := 8) dX9_stranger_5 (by decide) rfl (fun _ => ?_) (fun c9 => absurd c9 (by omega))
    refine vr_ldc (x := -1000001) (q := 35) dX9_stranger_33 rfl ⟨by decide, by decide⟩ qX9_67 ?_
    refine vr_iret dX9_stranger_35 rfl ?_
    first | exact k1 (by omega) | exact k2 (by omega)
theorem lm_with {l w : Int} (hw : 2 ≤ w ∧ w ≤ 3) (hn : 0 ≤ h 74 3 ∧ h 74 3 ≤ 4) (kk : Post (some (sv_i (ws_ (fun s => h 74 (22 + 4 * s + w)) l (h 74 3).toNat))) h) : ∀ (m i : Nat), (i : Int) + m = h 74 3 → V_ g (d + 1) mX9_strangersWith 5 [some (sv_r 4 8 68), some (sv_i l), some (sv_i w), some (sv_i (ws_ (fun s => h 74 (22 + 4 * s + w)) l i)), some (sv_i i)] [] h Post := by
  intro m
  induction m with
  | zero =>
    intro i hi
    refine vr_iload (q := 7) dX9_strangersWith_5 rfl rfl ?_
    refine vr_aload_n (q := 8) dX9_strangersWith_7 rfl rfl ?_
    refine vr_getR (q := 11) dX9_strangersWith_8 rfl fX9_25 rfl y_X9_13 (by first | (simp only [Int.reduceAdd]; rfl) | rfl) ?_
    refine vr_iconst (q := 12) dX9_strangersWith_11 rfl ⟨by decide, by decide⟩ ?_
    refine vr_iald (q := 13) dX9_strangersWith_12 rfl ⟨by omega, by omega⟩ ?_
    -- at X9.strangersWith 13: .if_icmp .ge 38
    refine vr_ic_ge (t := 51) (q := 16) dX9_strangersWith_13 (by decide) rfl (fun _ => ?_) (fun c9 => absurd c9 (by omega))
    refine vr_iload_n (q := 52) dX9_strangersWith_51 rfl rfl ?_
    -- at X9.strangersWith 52: .ireturn
    refine vr_iret dX9_strangersWith_52 rfl ?_
    rw [show (h 74 3).toNat = i by omega] at kk
    exact kk
  | succ m ih =>
    intro i hi
    have h1 := bt_01 (h 74 (22 + 4 * i + w)) l
    have h2 := ws_r (fun s => h 74 (22 + 4 * s + w)) l i
    have k2 := ih (i + 1) (by omega)
    have e : ws_ (fun s => h 74 (22 + 4 * s + w)) l (i + 1) = ws_ (fun s => h 74 (22 + 4 * s + w)) l i + bt_ (h 74 (22 + 4 * i + w)) l := rfl
    rw [e] at k2
    refine vr_iload (q := 7) dX9_strangersWith_5 rfl rfl ?_
    refine vr_aload_n (q := 8) dX9_strangersWith_7 rfl rfl ?_
    refine vr_getR (q := 11) dX9_strangersWith_8 rfl fX9_25 rfl y_X9_13 (by first | (simp only [Int.reduceAdd]; rfl) | rfl) ?_
    refine vr_iconst (q := 12) dX9_strangersWith_11 rfl ⟨by decide, by decide⟩ ?_
    refine vr_iald (q := 13) dX9_strangersWith_12 rfl ⟨by omega, by omega⟩ ?_
    -- at X9.strangersWith 13: .if_icmp .ge 38
    refine vr_ic_ge (t := 51) (q := 16) dX9_strangersWith_13 (by decide) rfl (fun c9 => absurd c9 (by omega)) (fun _ => ?_)
    refine vr_iload_n (q := 17) dX9_strangersWith_16 rfl rfl ?_
    refine vr_aload_n (q := 18) dX9_strangersWith_17 rfl rfl ?_
    refine vr_getR (q := 21) dX9_strangersWith_18 rfl fX9_25 rfl y_X9_13 (by first | (simp only [Int.reduceAdd]; rfl) | rfl) ?_
    refine vr_bipush (q := 23) dX9_strangersWith_21 rfl ⟨by decide, by decide⟩ (by decide) ?_
    refine vr_iconst (q := 24) dX9_strangersWith_23 rfl ⟨by decide, by decide⟩ ?_
    refine vr_iload (q := 26) dX9_strangersWith_24 rfl rfl ?_
    refine vr_imulN (q := 27) dX9_strangersWith_26 rfl ⟨by omega, by omega⟩ ?_
    refine vr_iaddN (q := 28) dX9_strangersWith_27 rfl ⟨by omega, by omega⟩ ?_
    refine vr_iload_n (q := 29) dX9_strangersWith_28 rfl rfl ?_
    refine vr_iaddN (q := 30) dX9_strangersWith_29 rfl ⟨by omega, by omega⟩ ?_
    refine vr_iald (q := 31) dX9_strangersWith_30 rfl ⟨by omega, by omega⟩ ?_
    refine vr_iload_n (q := 32) dX9_strangersWith_31 rfl rfl ?_
    -- at X9.strangersWith 32: .invokestatic 156
    refine vr_is2 (q := 35) dX9_strangersWith_32 rfl vX9_156 (Nat.le_of_ble_eq_true rfl) ?_
    refine m_has (fun c => ?_) (fun c => ?_)
    · rw [show bt_ (h 74 (22 + 4 * i + w)) l = 1 by omega] at k2
      refine vr_if_eq (t := 42) (q := 38) dX9_strangersWith_35 (by decide) rfl (fun c9 => absurd c9 (by omega)) (fun _ => ?_)
      refine vr_iconst (q := 39) dX9_strangersWith_38 rfl ⟨by decide, by decide⟩ ?_
      refine vr_goto (q := 43) dX9_strangersWith_39 (by decide) ?_
      refine vr_iaddN (q := 44) dX9_strangersWith_43 rfl ⟨by omega, by omega⟩ ?_
      refine vr_istore_n (q := 45) dX9_strangersWith_44 rfl rfl (Nat.le_of_ble_eq_true rfl) rfl rfl ?_
      refine vr_iinc (q := 48) dX9_strangersWith_45 rfl rfl ⟨by omega, by omega⟩ (Nat.le_of_ble_eq_true rfl) rfl rfl ?_
      refine vr_goto (q := 5) dX9_strangersWith_48 (by decide) ?_
      -- at X9.strangersWith 5: .iload 4
      exact k2
    · rw [c] at k2
      refine vr_if_eq (t := 42) (q := 38) dX9_strangersWith_35 (by decide) rfl (fun _ => ?_) (fun c9 => absurd c9 (by omega))
      refine vr_iconst (q := 43) dX9_strangersWith_42 rfl ⟨by decide, by decide⟩ ?_
      refine vr_iaddN (q := 44) dX9_strangersWith_43 rfl ⟨by omega, by omega⟩ ?_
      refine vr_istore_n (q := 45) dX9_strangersWith_44 rfl rfl (Nat.le_of_ble_eq_true rfl) rfl rfl ?_
      refine vr_iinc (q := 48) dX9_strangersWith_45 rfl rfl ⟨by omega, by omega⟩ (Nat.le_of_ble_eq_true rfl) rfl rfl ?_
      refine vr_goto (q := 5) dX9_strangersWith_48 (by decide) ?_
      -- at X9.strangersWith 5: .iload 4
      exact k2
theorem m_strangersWith {l w : Int} (hw : 2 ≤ w ∧ w ≤ 3) (hn : 0 ≤ h 74 3 ∧ h 74 3 ≤ 4) (kk : Post (some (sv_i (ws_ (fun s => h 74 (22 + 4 * s + w)) l (h 74 3).toNat))) h) : Ctr_ g (d + 1) mX9_strangersWith [sv_r 4 8 68, sv_i l, sv_i w] h Post := by
  refine V_mk (by decide +kernel) (Or.inr (Or.inl ⟨rfl, rfl⟩)) (Nat.le_of_ble_eq_true rfl) (by simp [sv_c]) ?_
  show V_ _ _ _ 0 [_, _, _, _, _] [] _ _
  refine vr_iconst (q := 1) dX9_strangersWith_0 rfl ⟨by decide, by decide⟩ ?_
  refine vr_istore_n (q := 2) dX9_strangersWith_1 rfl rfl (Nat.le_of_ble_eq_true rfl) rfl rfl ?_
  refine vr_iconst (q := 3) dX9_strangersWith_2 rfl ⟨by decide, by decide⟩ ?_
  refine vr_istore (q := 5) dX9_strangersWith_3 rfl (Nat.le_of_ble_eq_true rfl) rfl rfl ?_
  -- at X9.strangersWith 5: .iload 4
  exact lm_with hw hn kk (h 74 3).toNat 0 (by omega)
theorem m_noddedAt {l : Int} (hn : 0 ≤ h 74 3 ∧ h 74 3 ≤ 4) (kk : Post (some (sv_i (ws_ (fun s => h 74 (22 + 4 * s + 3)) l (h 74 3).toNat))) h) : Ctr_ g (d + 2) mX9_noddedAt [sv_r 4 8 68, sv_i l] h Post := by
  refine V_mk (by decide +kernel) (Or.inr (Or.inl ⟨rfl, rfl⟩)) (Nat.le_of_ble_eq_true rfl) (by simp [sv_c]) ?_
  show V_ _ _ _ 0 [_, _] [] _ _
  refine vr_aload_n (q := 1) dX9_noddedAt_0 rfl rfl ?_
  refine vr_iload_n (q := 2) dX9_noddedAt_1 rfl rfl ?_
  refine vr_iconst (q := 3) dX9_noddedAt_2 rfl ⟨by decide, by decide⟩ ?_
  refine vr_iv2 (q := 6) dX9_noddedAt_3 rfl vX9_187 (Nat.le_of_ble_eq_true rfl) ?_
  refine m_strangersWith ⟨by decide, by decide⟩ hn ?_
  refine vr_iret dX9_noddedAt_6 rfl ?_
  first | exact kk | (exfalso; omega) | (repeat (first | exact kk | rw [if_pos (by omega)] at kk | rw [if_neg (by omega)] at kk))
theorem m_needs {l n : Int} (hl : 0 ≤ l ∧ l < 6) (hlo : lo_ (h 74 (4 + 3 * l)) (h 74 (4 + 3 * l + 1)) (h 74 (4 + 3 * l + 2))) (hm : mo_ n (mm_ h)) (hn : n ≤ 100) (kk : Post (some (sv_i (nd_ (h 74 (4 + 3 * l)) (h 74 (4 + 3 * l + 1)) (h 74 (4 + 3 * l + 2)) (mm_ h)))) h) : Ctr_ g (d + 1) mX9_needs [sv_r 4 8 68, sv_i l] h Post := by
  obtain ⟨hk, hw, ht⟩ := hlo
  have hq := hm.2.2.2 (h 74 (4 + 3 * l + 2)) ht.1 ht.2
  have e4 : q4_ (mm_ h).2.2.2 (h 74 (4 + 3 * l + 2)) = h 80 (h 74 (4 + 3 * l + 2)) := q4_a ht
  rw [e4] at hq
  unfold nd_ at kk
  rw [e4] at kk
  have fin : ∀ more : Int, (0 ≤ more ∧ more ≤ 3) → Post (some (sv_i (more + un_ (h 74 (4 + 3 * l)) (h 74 (4 + 3 * l + 1)) (h 80 (h 74 (4 + 3 * l + 2))) (h 68 23)))) h → ∀ pf : Int, pf = pn_ (h 74 (4 + 3 * l + 1)) (h 80 (h 74 (4 + 3 * l + 2))) → (0 ≤ pf ∧ pf ≤ 40) → V_ g (d + 1) mX9_needs 63 [some (sv_r 4 8 68), some (sv_i l), some (sv_i (h 74 (4 + 3 * l + 1))), some (sv_i (h 74 (4 + 3 * l + 2))), some (sv_i more), some (sv_i pf)] [] h Post := by
    intro more hmo kk pf epf hpf
    unfold un_ at kk
    rw [← epf] at kk
    refine vr_aload_n (q := 64) dX9_needs_63 rfl rfl ?_
    refine vr_getR (q := 67) dX9_needs_64 rfl fX9_25 rfl y_X9_13 (by first | (simp only [Int.reduceAdd]; rfl) | rfl) ?_
    refine vr_iconst (q := 68) dX9_needs_67 rfl ⟨by decide, by decide⟩ ?_
    refine vr_iconst (q := 69) dX9_needs_68 rfl ⟨by decide, by decide⟩ ?_
    refine vr_iload_n (q := 70) dX9_needs_69 rfl rfl ?_
    refine vr_imulN (q := 71) dX9_needs_70 rfl ⟨by omega, by omega⟩ ?_
    refine vr_iaddN (q := 72) dX9_needs_71 rfl ⟨by omega, by omega⟩ ?_
    refine vr_iald (q := 73) dX9_needs_72 rfl ⟨by omega, by omega⟩ ?_
    -- at X9.needs 73: .tableswitch 79 1 4 #[31, 36, 43, 73]
    generalize ek : h 74 (4 + 3 * l) = kd at hk kk ⊢
    rw [Int.add_comm more] at kk
    rcases (by omega : kd = 1 ∨ kd = 2 ∨ kd = 3 ∨ kd = 4 ∨ kd = 5) with rfl | rfl | rfl | rfl | rfl
    · refine vr_tsI (q := 104) dX9_needs_73 (by decide) (by decide) rfl (by decide) ?_
      refine vr_iload_n (q := 105) dX9_needs_104 rfl rfl ?_
      refine vr_iload (q := 107) dX9_needs_105 rfl rfl ?_
      refine vr_iaddN (q := 108) dX9_needs_107 rfl ⟨by omega, by omega⟩ ?_
      refine vr_iret dX9_needs_108 rfl ?_
      first | exact kk | (exfalso; omega) | (repeat (first | exact kk | rw [if_pos (by omega)] at kk | rw [if_neg (by omega)] at kk))
    · refine vr_tsI (q := 109) dX9_needs_73 (by decide) (by decide) rfl (by decide) ?_
      refine vr_iconst (q := 110) dX9_needs_109 rfl ⟨by decide, by decide⟩ ?_
      refine vr_iload_n (q := 111) dX9_needs_110 rfl rfl ?_
      refine vr_imulN (q := 112) dX9_needs_111 rfl ⟨by omega, by omega⟩ ?_
      refine vr_iload (q := 114) dX9_needs_112 rfl rfl ?_
      refine vr_iaddN (q := 115) dX9_needs_114 rfl ⟨by omega, by omega⟩ ?_
      refine vr_iret dX9_needs_115 rfl ?_
      first | exact kk | (exfalso; omega) | (repeat (first | exact kk | rw [if_pos (by omega)] at kk | rw [if_neg (by omega)] at kk))
    · refine vr_tsI (q := 116) dX9_needs_73 (by decide) (by decide) rfl (by decide) ?_
      rw [if_neg (by decide), if_pos rfl] at kk
      refine vr_iload_n (q := 117) dX9_needs_116 rfl rfl ?_
      refine vr_iconst (q := 118) dX9_needs_117 rfl ⟨by decide, by decide⟩ ?_
      refine vr_aload_n (q := 119) dX9_needs_118 rfl rfl ?_
      refine vr_getR (q := 122) dX9_needs_119 rfl fX9_44 rfl y_X9_24 (by first | (simp only [Int.reduceAdd]; rfl) | rfl) ?_
      refine vr_iload_n (q := 123) dX9_needs_122 rfl rfl ?_
      refine vr_iald (q := 124) dX9_needs_123 rfl ⟨by omega, by omega⟩ ?_
      refine vr_imulN (q := 125) dX9_needs_124 rfl ⟨by omega, by omega⟩ ?_
      refine vr_ic_le (t := 141) (q := 128) dX9_needs_125 (by decide) rfl (fun c125 => ?_) (fun c125 => ?_)
      · refine vr_iconst (q := 142) dX9_needs_141 rfl ⟨by decide, by decide⟩ ?_
        refine vr_iload (q := 144) dX9_needs_142 rfl rfl ?_
        refine vr_iaddN (q := 145) dX9_needs_144 rfl ⟨by omega, by omega⟩ ?_
        refine vr_iret dX9_needs_145 rfl ?_
        first | (rw [if_neg (by omega)] at kk; exact kk) | (rw [show (if h 74 (4 + 3 * l + 1) - 2 * h 80 (h 74 (4 + 3 * l + 2)) < 0 then (0 : Int) else h 74 (4 + 3 * l + 1) - 2 * h 80 (h 74 (4 + 3 * l + 2))) = 0 by split <;> omega] at kk; exact kk)
      · refine vr_iload_n (q := 129) dX9_needs_128 rfl rfl ?_
        refine vr_iconst (q := 130) dX9_needs_129 rfl ⟨by decide, by decide⟩ ?_
        refine vr_aload_n (q := 131) dX9_needs_130 rfl rfl ?_
        refine vr_getR (q := 134) dX9_needs_131 rfl fX9_44 rfl y_X9_24 (by first | (simp only [Int.reduceAdd]; rfl) | rfl) ?_
        refine vr_iload_n (q := 135) dX9_needs_134 rfl rfl ?_
        refine vr_iald (q := 136) dX9_needs_135 rfl ⟨by omega, by omega⟩ ?_
        refine vr_imulN (q := 137) dX9_needs_136 rfl ⟨by omega, by omega⟩ ?_
        refine vr_isubN (q := 138) dX9_needs_137 rfl ⟨by omega, by omega⟩ ?_
        refine vr_goto (q := 142) dX9_needs_138 (by decide) ?_
        refine vr_iload (q := 144) dX9_needs_142 rfl rfl ?_
        refine vr_iaddN (q := 145) dX9_needs_144 rfl ⟨by omega, by omega⟩ ?_
        refine vr_iret dX9_needs_145 rfl ?_
        first | (rw [if_neg (by omega)] at kk; exact kk) | (rw [show (if h 74 (4 + 3 * l + 1) - 2 * h 80 (h 74 (4 + 3 * l + 2)) < 0 then (0 : Int) else h 74 (4 + 3 * l + 1) - 2 * h 80 (h 74 (4 + 3 * l + 2))) = 0 by split <;> omega] at kk; exact kk)
    · refine vr_tsI (q := 146) dX9_needs_73 (by decide) (by decide) rfl (by decide) ?_
      refine vr_iload (q := 148) dX9_needs_146 rfl rfl ?_
      refine vr_iload (q := 150) dX9_needs_148 rfl rfl ?_
      refine vr_iaddN (q := 151) dX9_needs_150 rfl ⟨by omega, by omega⟩ ?_
      refine vr_iret dX9_needs_151 rfl ?_
      first | exact kk | (exfalso; omega) | (repeat (first | exact kk | rw [if_pos (by omega)] at kk | rw [if_neg (by omega)] at kk))
    · refine vr_tsO (q := 152) dX9_needs_73 (by omega) (by decide) ?_
      rw [if_neg (by decide), if_neg (by decide), if_neg (by decide), if_pos rfl] at kk
      refine vr_aload_n (q := 153) dX9_needs_152 rfl rfl ?_
      refine vr_getI (ji := 23) (q := 156) dX9_needs_153 rfl fX9_153 rfl rfl ?_
      refine vr_iconst (q := 157) dX9_needs_156 rfl ⟨by decide, by decide⟩ ?_
      refine vr_ic_ge (t := 165) (q := 160) dX9_needs_157 (by decide) rfl (fun c157 => ?_) (fun c157 => ?_)
      · refine vr_iload (q := 167) dX9_needs_165 rfl rfl ?_
        refine vr_iload (q := 169) dX9_needs_167 rfl rfl ?_
        refine vr_iaddN (q := 170) dX9_needs_169 rfl ⟨by omega, by omega⟩ ?_
        refine vr_iret dX9_needs_170 rfl ?_
        first | (rw [if_neg (by omega)] at kk; exact kk) | (rw [if_pos (by omega)] at kk; exact kk)
      · refine vr_bipush (q := 162) dX9_needs_160 rfl ⟨by decide, by decide⟩ (by decide) ?_
        refine vr_goto (q := 167) dX9_needs_162 (by decide) ?_
        refine vr_iload (q := 169) dX9_needs_167 rfl rfl ?_
        refine vr_iaddN (q := 170) dX9_needs_169 rfl ⟨by omega, by omega⟩ ?_
        refine vr_iret dX9_needs_170 rfl ?_
        first | (rw [if_neg (by omega)] at kk; exact kk) | (rw [if_pos (by omega)] at kk; exact kk)
  have fin2 : ∀ more : Int, (0 ≤ more ∧ more ≤ 3) → Post (some (sv_i (more + un_ (h 74 (4 + 3 * l)) (h 74 (4 + 3 * l + 1)) (h 80 (h 74 (4 + 3 * l + 2))) (h 68 23)))) h → V_ g (d + 1) mX9_needs 42 [some (sv_r 4 8 68), some (sv_i l), some (sv_i (h 74 (4 + 3 * l + 1))), some (sv_i (h 74 (4 + 3 * l + 2))), none, none] [sv_i more] h Post := by
    intro more hmo kk
    refine vr_istore (q := 44) dX9_needs_42 rfl (Nat.le_of_ble_eq_true rfl) rfl rfl ?_
    refine vr_aload_n (q := 45) dX9_needs_44 rfl rfl ?_
    refine vr_getR (q := 48) dX9_needs_45 rfl fX9_44 rfl y_X9_24 (by first | (simp only [Int.reduceAdd]; rfl) | rfl) ?_
    refine vr_iload_n (q := 49) dX9_needs_48 rfl rfl ?_
    refine vr_iald (q := 50) dX9_needs_49 rfl ⟨by omega, by omega⟩ ?_
    -- at X9.needs 50: .ifCond .le 7
    refine vr_if_le (t := 57) (q := 53) dX9_needs_50 (by decide) rfl (fun c1 => ?_) (fun c1 => ?_)
    · refine vr_bipush (q := 59) dX9_needs_57 rfl ⟨by decide, by decide⟩ (by decide) ?_
      refine vr_iload_n (q := 60) dX9_needs_59 rfl rfl ?_
      refine vr_iaddN (q := 61) dX9_needs_60 rfl ⟨by omega, by omega⟩ ?_
      refine vr_istore (q := 63) dX9_needs_61 rfl (Nat.le_of_ble_eq_true rfl) rfl rfl ?_
      -- at X9.needs 63: .aload_n 0
      exact fin more hmo kk _ (by unfold pn_; rw [if_neg (by omega)]) ⟨by omega, by omega⟩
    · refine vr_iconst (q := 54) dX9_needs_53 rfl ⟨by decide, by decide⟩ ?_
      refine vr_goto (q := 61) dX9_needs_54 (by decide) ?_
      refine vr_istore (q := 63) dX9_needs_61 rfl (Nat.le_of_ble_eq_true rfl) rfl rfl ?_
      -- at X9.needs 63: .aload_n 0
      exact fin more hmo kk _ (by unfold pn_; rw [if_pos (by omega)]) ⟨by omega, by omega⟩
  refine V_mk (by decide +kernel) (Or.inr (Or.inl ⟨rfl, rfl⟩)) (Nat.le_of_ble_eq_true rfl) (by simp [sv_c]) ?_
  show V_ _ _ _ 0 [_, _, _, _, _, _] [] _ _
  refine vr_aload_n (q := 1) dX9_needs_0 rfl rfl ?_
  refine vr_getR (q := 4) dX9_needs_1 rfl fX9_25 rfl y_X9_13 (by first | (simp only [Int.reduceAdd]; rfl) | rfl) ?_
  refine vr_iconst (q := 5) dX9_needs_4 rfl ⟨by decide, by decide⟩ ?_
  refine vr_iconst (q := 6) dX9_needs_5 rfl ⟨by decide, by decide⟩ ?_
  refine vr_iload_n (q := 7) dX9_needs_6 rfl rfl ?_
  refine vr_imulN (q := 8) dX9_needs_7 rfl ⟨by omega, by omega⟩ ?_
  refine vr_iaddN (q := 9) dX9_needs_8 rfl ⟨by omega, by omega⟩ ?_
  refine vr_iconst (q := 10) dX9_needs_9 rfl ⟨by decide, by decide⟩ ?_
  refine vr_iaddN (q := 11) dX9_needs_10 rfl ⟨by omega, by omega⟩ ?_
  refine vr_iald (q := 12) dX9_needs_11 rfl ⟨by omega, by omega⟩ ?_
  refine vr_istore_n (q := 13) dX9_needs_12 rfl rfl (Nat.le_of_ble_eq_true rfl) rfl rfl ?_
  refine vr_aload_n (q := 14) dX9_needs_13 rfl rfl ?_
  refine vr_getR (q := 17) dX9_needs_14 rfl fX9_25 rfl y_X9_13 (by first | (simp only [Int.reduceAdd]; rfl) | rfl) ?_
  refine vr_iconst (q := 18) dX9_needs_17 rfl ⟨by decide, by decide⟩ ?_
  refine vr_iconst (q := 19) dX9_needs_18 rfl ⟨by decide, by decide⟩ ?_
  refine vr_iload_n (q := 20) dX9_needs_19 rfl rfl ?_
  refine vr_imulN (q := 21) dX9_needs_20 rfl ⟨by omega, by omega⟩ ?_
  refine vr_iaddN (q := 22) dX9_needs_21 rfl ⟨by omega, by omega⟩ ?_
  refine vr_iconst (q := 23) dX9_needs_22 rfl ⟨by decide, by decide⟩ ?_
  refine vr_iaddN (q := 24) dX9_needs_23 rfl ⟨by omega, by omega⟩ ?_
  refine vr_iald (q := 25) dX9_needs_24 rfl ⟨by omega, by omega⟩ ?_
  refine vr_istore_n (q := 26) dX9_needs_25 rfl rfl (Nat.le_of_ble_eq_true rfl) rfl rfl ?_
  refine vr_aload_n (q := 27) dX9_needs_26 rfl rfl ?_
  refine vr_getI (ji := 22) (q := 30) dX9_needs_27 rfl fX9_147 rfl rfl ?_
  refine vr_iload_n (q := 31) dX9_needs_30 rfl rfl ?_
  -- at X9.needs 31: .invokestatic 156
  refine vr_is2 (q := 34) dX9_needs_31 rfl vX9_156 (Nat.le_of_ble_eq_true rfl) ?_
  refine m_has (fun c => ?_) (fun c => ?_)
  · have c2 : ¬ bt_ (mm_ h).2.1 (h 74 (4 + 3 * l + 2)) = 0 := c
    rw [if_neg c2] at kk
    refine vr_if_eq (t := 41) (q := 37) dX9_needs_34 (by decide) rfl (fun c9 => absurd c9 (by omega)) (fun _ => ?_)
    refine vr_iconst (q := 38) dX9_needs_37 rfl ⟨by decide, by decide⟩ ?_
    refine vr_goto (q := 42) dX9_needs_38 (by decide) ?_
    -- at X9.needs 42: .istore 4
    exact fin2 3 ⟨by decide, by decide⟩ kk
  · have c2 : bt_ (mm_ h).2.1 (h 74 (4 + 3 * l + 2)) = 0 := c
    rw [if_pos c2] at kk
    refine vr_if_eq (t := 41) (q := 37) dX9_needs_34 (by decide) rfl (fun _ => ?_) (fun c9 => absurd c9 (by omega))
    refine vr_iconst (q := 42) dX9_needs_41 rfl ⟨by decide, by decide⟩ ?_
    -- at X9.needs 42: .istore 4
    exact fin2 0 ⟨by decide, by decide⟩ kk
theorem m_wouldNod {l n : Int} (hl : 0 ≤ l ∧ l < 6) (hlo : lo_ (h 74 (4 + 3 * l)) (h 74 (4 + 3 * l + 1)) (h 74 (4 + 3 * l + 2))) (hm : mo_ n (mm_ h)) (hn : n ≤ 100) (kt : nl_ (mf_ h) (mm_ h) l = 1 → Post (some (sv_i 1)) h) (kf : nl_ (mf_ h) (mm_ h) l = 0 → Post (some (sv_i 0)) h) : Ctr_ g (d + 2) mX9_wouldNod [sv_r 4 8 68, sv_i l] h Post := by
  have e : nl_ (mf_ h) (mm_ h) l = if h 68 21 < nd_ (h 74 (4 + 3 * l)) (h 74 (4 + 3 * l + 1)) (h 74 (4 + 3 * l + 2)) (mm_ h) then 0 else 1 := rfl
  refine V_mk (by decide +kernel) (Or.inr (Or.inr (Or.inl ⟨rfl, rfl⟩))) (Nat.le_of_ble_eq_true rfl) (by simp [sv_c]) ?_
  show V_ _ _ _ 0 [_, _] [] _ _
  refine vr_aload_n (q := 1) dX9_wouldNod_0 rfl rfl ?_
  refine vr_getI (ji := 21) (q := 4) dX9_wouldNod_1 rfl fX9_144 rfl rfl ?_
  refine vr_aload_n (q := 5) dX9_wouldNod_4 rfl rfl ?_
  refine vr_iload_n (q := 6) dX9_wouldNod_5 rfl rfl ?_
  refine vr_iv1 (q := 9) dX9_wouldNod_6 rfl vX9_160 (Nat.le_of_ble_eq_true rfl) ?_
  refine m_needs hl hlo hm hn ?_
  refine vr_ic_lt (t := 16) (q := 12) dX9_wouldNod_9 (by decide) rfl (fun c9 => ?_) (fun c9 => ?_)
  · refine vr_iconst (q := 17) dX9_wouldNod_16 rfl ⟨by decide, by decide⟩ ?_
    refine vr_zret dX9_wouldNod_17 rfl ?_ ?_
    · first | exact Or.inl rfl | exact Or.inr rfl | assumption
    · first | exact kf (by rw [e, if_pos (by assumption)]) | exact kt (by rw [e, if_neg (by assumption)])
  · refine vr_iconst (q := 13) dX9_wouldNod_12 rfl ⟨by decide, by decide⟩ ?_
    refine vr_goto (q := 17) dX9_wouldNod_13 (by decide) ?_
    refine vr_zret dX9_wouldNod_17 rfl ?_ ?_
    · first | exact Or.inl rfl | exact Or.inr rfl | assumption
    · first | exact kf (by rw [e, if_pos (by assumption)]) | exact kt (by rw [e, if_neg (by assumption)])
end PM3_
