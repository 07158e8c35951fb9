/-- the lies (nl of them) that aren't in a set -/
def ut_ (nl x : Int) : Int := sb_iand (sb_ishl 1 nl - 1) (sb_ixor x (-1))
theorem sh_1 : ∀ n : Fin 7, 1 ≤ sb_ishl 1 ((n : Nat) : Int) ∧ sb_ishl 1 ((n : Nat) : Int) ≤ 64 := by decide +kernel
theorem sh_r {n : Int} (h : 0 ≤ n ∧ n ≤ 6) : 1 ≤ sb_ishl 1 n ∧ sb_ishl 1 n ≤ 64 := by
  have e := sh_1 ⟨n.toNat, by omega⟩
  rw [show (((⟨n.toNat, by omega⟩ : Fin 7) : Nat) : Int) = n from Int.toNat_of_nonneg h.1] at e
  exact e
/-- how many of the first n sets of a row have l -/
def ws_ (f : Int → Int) (l : Int) : Nat → Int
  | 0 => 0
  | n + 1 => ws_ f l n + bt_ (f n) l
theorem ws_r (f : Int → Int) (l : Int) (n : Nat) : 0 ≤ ws_ f l n ∧ ws_ f l n ≤ n := by
  induction n with
  | zero => exact ⟨Int.le_refl 0, Int.le_refl 0⟩
  | succ n ih =>
    have h1 := bt_01 (f n) l
    show 0 ≤ ws_ f l n + bt_ (f n) l ∧ ws_ f l n + bt_ (f n) l ≤ ((n + 1 : Nat) : Int)
    omega
section PT_
variable {g : SG_} {d : Nat} {h : SH_} {Post : Option SV_ → SH_ → Prop}
theorem c_stands {k : Int} (kt : 0 < h k 0 → Post (some (sv_i 1)) h) (kf : ¬ 0 < h k 0 → Post (some (sv_i 0)) h) : Ctr_ g d mX7_stands [sv_r 4 6 k] h Post := by
  refine V_mk (by decide +kernel) (Or.inr (Or.inr (Or.inl ⟨rfl, rfl⟩))) (Nat.le_of_ble_eq_true rfl) (by simp [sv_c]) ?_
  show V_ _ _ _ 0 [_] [] _ _
  refine vr_aload_n (q := 1) dX7_stands_0 rfl rfl ?_
  refine vr_getI (ji := 0) (q := 4) dX7_stands_1 rfl fX7_7 rfl rfl ?_
  refine vr_if_le (t := 11) (q := 7) dX7_stands_4 (by decide) rfl (fun c4 => ?_) (fun c4 => ?_)
  · refine vr_iconst (q := 12) dX7_stands_11 rfl ⟨by decide, by decide⟩ ?_
    refine vr_zret dX7_stands_12 rfl ?_ ?_
    · first | exact Or.inl rfl | exact Or.inr rfl | assumption
    · first | exact kt (by omega) | exact kf (by omega)
  · refine vr_iconst (q := 8) dX7_stands_7 rfl ⟨by decide, by decide⟩ ?_
    refine vr_goto (q := 12) dX7_stands_8 (by decide) ?_
    refine vr_zret dX7_stands_12 rfl ?_ ?_
    · first | exact Or.inl rfl | exact Or.inr rfl | assumption
    · first | exact kt (by omega) | exact kf (by omega)
theorem c_hasLie {l : Int} (kt : (0 ≤ l ∧ l < h 7 2) → Post (some (sv_i 1)) h) (kf : ¬ (0 ≤ l ∧ l < h 7 2) → Post (some (sv_i 0)) h) : Ctr_ g d mX7_hasLie [sv_r 4 6 7, sv_i l] h Post := by
  refine V_mk (by decide +kernel) (Or.inr (Or.inr (Or.inl ⟨rfl, rfl⟩))) (Nat.le_of_ble_eq_true rfl) (by simp [sv_c]) ?_
  show V_ _ _ _ 0 [_, _] [] _ _
  refine vr_iload_n (q := 1) dX7_hasLie_0 rfl rfl ?_
  refine vr_if_lt (t := 16) (q := 4) dX7_hasLie_1 (by decide) rfl (fun c1 => ?_) (fun c1 => ?_)
  · refine vr_iconst (q := 17) dX7_hasLie_16 rfl ⟨by decide, by decide⟩ ?_
    refine vr_zret dX7_hasLie_17 rfl ?_ ?_
    · first | exact Or.inl rfl | exact Or.inr rfl | assumption
    · first | exact kt (by omega) | exact kf (by omega)
  · refine vr_iload_n (q := 5) dX7_hasLie_4 rfl rfl ?_
    refine vr_aload_n (q := 6) dX7_hasLie_5 rfl rfl ?_
    refine vr_getI (ji := 2) (q := 9) dX7_hasLie_6 rfl fX7_16 rfl rfl ?_
    refine vr_ic_ge (t := 16) (q := 12) dX7_hasLie_9 (by decide) rfl (fun c9 => ?_) (fun c9 => ?_)
    · refine vr_iconst (q := 17) dX7_hasLie_16 rfl ⟨by decide, by decide⟩ ?_
      refine vr_zret dX7_hasLie_17 rfl ?_ ?_
      · first | exact Or.inl rfl | exact Or.inr rfl | assumption
      · first | exact kt (by omega) | exact kf (by omega)
    · refine vr_iconst (q := 13) dX7_hasLie_12 rfl ⟨by decide, by decide⟩ ?_
      refine vr_goto (q := 17) dX7_hasLie_13 (by decide) ?_
      refine vr_zret dX7_hasLie_17 rfl ?_ ?_
      · first | exact Or.inl rfl | exact Or.inr rfl | assumption
      · first | exact kt (by omega) | exact kf (by omega)
theorem c_hasStranger {l : Int} (kt : (0 ≤ l ∧ l < h 7 3) → Post (some (sv_i 1)) h) (kf : ¬ (0 ≤ l ∧ l < h 7 3) → Post (some (sv_i 0)) h) : Ctr_ g d mX7_hasStranger [sv_r 4 6 7, sv_i l] h Post := by
  refine V_mk (by decide +kernel) (Or.inr (Or.inr (Or.inl ⟨rfl, rfl⟩))) (Nat.le_of_ble_eq_true rfl) (by simp [sv_c]) ?_
  show V_ _ _ _ 0 [_, _] [] _ _
  refine vr_iload_n (q := 1) dX7_hasStranger_0 rfl rfl ?_
  refine vr_if_lt (t := 16) (q := 4) dX7_hasStranger_1 (by decide) rfl (fun c1 => ?_) (fun c1 => ?_)
  · refine vr_iconst (q := 17) dX7_hasStranger_16 rfl ⟨by decide, by decide⟩ ?_
    refine vr_zret dX7_hasStranger_17 rfl ?_ ?_
    · first | exact Or.inl rfl | exact Or.inr rfl | assumption
    · first | exact kt (by omega) | exact kf (by omega)
  · refine vr_iload_n (q := 5) dX7_hasStranger_4 rfl rfl ?_
    refine vr_aload_n (q := 6) dX7_hasStranger_5 rfl rfl ?_
    refine vr_getI (ji := 3) (q := 9) dX7_hasStranger_6 rfl fX7_19 rfl rfl ?_
    refine vr_ic_ge (t := 16) (q := 12) dX7_hasStranger_9 (by decide) rfl (fun c9 => ?_) (fun c9 => ?_)
    · refine vr_iconst (q := 17) dX7_hasStranger_16 rfl ⟨by decide, by decide⟩ ?_
      refine vr_zret dX7_hasStranger_17 rfl ?_ ?_
      · first | exact Or.inl rfl | exact Or.inr rfl | assumption
      · first | exact kt (by omega) | exact kf (by omega)
    · refine vr_iconst (q := 13) dX7_hasStranger_12 rfl ⟨by decide, by decide⟩ ?_
      refine vr_goto (q := 17) dX7_hasStranger_13 (by decide) ?_
      refine vr_zret dX7_hasStranger_17 rfl ?_ ?_
      · first | exact Or.inl rfl | exact Or.inr rfl | assumption
      · first | exact kt (by omega) | exact kf (by omega)
theorem c_isSetOfLies {l : Int} (kt : (0 ≤ l ∧ l < sb_ishl 1 (h 7 2)) → Post (some (sv_i 1)) h) (kf : ¬ (0 ≤ l ∧ l < sb_ishl 1 (h 7 2)) → Post (some (sv_i 0)) h) : Ctr_ g d mX7_isSetOfLies [sv_r 4 6 7, sv_i l] h Post := by
  refine V_mk (by decide +kernel) (Or.inr (Or.inr (Or.inl ⟨rfl, rfl⟩))) (Nat.le_of_ble_eq_true rfl) (by simp [sv_c]) ?_
  show V_ _ _ _ 0 [_, _] [] _ _
  refine vr_iload_n (q := 1) dX7_isSetOfLies_0 rfl rfl ?_
  refine vr_if_lt (t := 18) (q := 4) dX7_isSetOfLies_1 (by decide) rfl (fun c1 => ?_) (fun c1 => ?_)
  · refine vr_iconst (q := 19) dX7_isSetOfLies_18 rfl ⟨by decide, by decide⟩ ?_
    refine vr_zret dX7_isSetOfLies_19 rfl ?_ ?_
    · first | exact Or.inl rfl | exact Or.inr rfl | assumption
    · first | exact kt (by omega) | exact kf (by omega)
  · refine vr_iload_n (q := 5) dX7_isSetOfLies_4 rfl rfl ?_
    refine vr_iconst (q := 6) dX7_isSetOfLies_5 rfl ⟨by decide, by decide⟩ ?_
    refine vr_aload_n (q := 7) dX7_isSetOfLies_6 rfl rfl ?_
    refine vr_getI (ji := 2) (q := 10) dX7_isSetOfLies_7 rfl fX7_16 rfl rfl ?_
    refine vr_ishl (q := 11) dX7_isSetOfLies_10 rfl ?_
    refine vr_ic_ge (t := 18) (q := 14) dX7_isSetOfLies_11 (by decide) rfl (fun c11 => ?_) (fun c11 => ?_)
    · refine vr_iconst (q := 19) dX7_isSetOfLies_18 rfl ⟨by decide, by decide⟩ ?_
      refine vr_zret dX7_isSetOfLies_19 rfl ?_ ?_
      · first | exact Or.inl rfl | exact Or.inr rfl | assumption
      · first | exact kt (by omega) | exact kf (by omega)
    · refine vr_iconst (q := 15) dX7_isSetOfLies_14 rfl ⟨by decide, by decide⟩ ?_
      refine vr_goto (q := 19) dX7_isSetOfLies_15 (by decide) ?_
      refine vr_zret dX7_isSetOfLies_19 rfl ?_ ?_
      · first | exact Or.inl rfl | exact Or.inr rfl | assumption
      · first | exact kt (by omega) | exact kf (by omega)
theorem c_wasTold {s l : Int} (hs : 0 ≤ s ∧ s < 4) (kt : ¬ bt_ (h 13 s) l = 0 → Post (some (sv_i 1)) h) (kf : bt_ (h 13 s) l = 0 → Post (some (sv_i 0)) h) : Ctr_ g d mX7_wasTold [sv_r 4 6 7, sv_i s, sv_i l] h Post := by
  refine V_mk (by decide +kernel) (Or.inr (Or.inr (Or.inl ⟨rfl, rfl⟩))) (Nat.le_of_ble_eq_true rfl) (by simp [sv_c]) ?_
  show V_ _ _ _ 0 [_, _, _] [] _ _
  refine vr_aload_n (q := 1) dX7_wasTold_0 rfl rfl ?_
  refine vr_getR (q := 4) dX7_wasTold_1 rfl fX7_38 rfl y_X7_9 (by first | (simp only [Int.reduceAdd]; rfl) | rfl) ?_
  refine vr_iload_n (q := 5) dX7_wasTold_4 rfl rfl ?_
  refine vr_iald (q := 6) dX7_wasTold_5 rfl ⟨by omega, by omega⟩ ?_
  refine vr_iload_n (q := 7) dX7_wasTold_6 rfl rfl ?_
  refine vr_ishr (q := 8) dX7_wasTold_7 rfl ?_
  refine vr_iconst (q := 9) dX7_wasTold_8 rfl ⟨by decide, by decide⟩ ?_
  refine vr_iand (q := 10) dX7_wasTold_9 rfl ?_
  refine vr_if_eq (t := 17) (q := 13) dX7_wasTold_10 (by decide) rfl (fun c10 => ?_) (fun c10 => ?_)
  · refine vr_iconst (q := 18) dX7_wasTold_17 rfl ⟨by decide, by decide⟩ ?_
    refine vr_zret dX7_wasTold_18 rfl ?_ ?_
    · first | exact Or.inl rfl | exact Or.inr rfl | assumption
    · first | exact kt c10 | exact kf c10
  · refine vr_iconst (q := 14) dX7_wasTold_13 rfl ⟨by decide, by decide⟩ ?_
    refine vr_goto (q := 18) dX7_wasTold_14 (by decide) ?_
    refine vr_zret dX7_wasTold_18 rfl ?_ ?_
    · first | exact Or.inl rfl | exact Or.inr rfl | assumption
    · first | exact kt c10 | exact kf c10
theorem c_untold {s : Int} (hs : 0 ≤ s ∧ s < 4) (hl : 0 ≤ h 7 2 ∧ h 7 2 ≤ 6) (kk : Post (some (sv_i (ut_ (h 7 2) (h 13 s)))) h) : Ctr_ g d mX7_untold [sv_r 4 6 7, sv_i s] h Post := by
  have hr := sh_r hl
  refine V_mk (by decide +kernel) (Or.inr (Or.inl ⟨rfl, rfl⟩)) (Nat.le_of_ble_eq_true rfl) (by simp [sv_c]) ?_
  show V_ _ _ _ 0 [_, _] [] _ _
  refine vr_iconst (q := 1) dX7_untold_0 rfl ⟨by decide, by decide⟩ ?_
  refine vr_aload_n (q := 2) dX7_untold_1 rfl rfl ?_
  refine vr_getI (ji := 2) (q := 5) dX7_untold_2 rfl fX7_16 rfl rfl ?_
  refine vr_ishl (q := 6) dX7_untold_5 rfl ?_
  refine vr_iconst (q := 7) dX7_untold_6 rfl ⟨by decide, by decide⟩ ?_
  refine vr_isubN (q := 8) dX7_untold_7 rfl ⟨by omega, by omega⟩ ?_
  refine vr_aload_n (q := 9) dX7_untold_8 rfl rfl ?_
  refine vr_getR (q := 12) dX7_untold_9 rfl fX7_38 rfl y_X7_9 (by first | (simp only [Int.reduceAdd]; rfl) | rfl) ?_
  refine vr_iload_n (q := 13) dX7_untold_12 rfl rfl ?_
  refine vr_iald (q := 14) dX7_untold_13 rfl ⟨by omega, by omega⟩ ?_
  refine vr_iconst (q := 15) dX7_untold_14 rfl ⟨by decide, by decide⟩ ?_
  refine vr_ixor (q := 16) dX7_untold_15 rfl ?_
  refine vr_iand (q := 17) dX7_untold_16 rfl ?_
  refine vr_iret dX7_untold_17 rfl ?_
  first | exact kk | (exfalso; omega) | (repeat (first | exact kk | rw [if_pos (by omega)] at kk | rw [if_neg (by omega)] at kk))
theorem l_strangersWith {a l : Int} (hn : 0 ≤ h 7 3 ∧ h 7 3 ≤ 4) (kk : Post (some (sv_i (ws_ (h a) l (h 7 3).toNat))) h) : ∀ (m i : Nat), (i : Int) + m = h 7 3 → V_ g d mX7_strangersWith 5 [some (sv_r 4 6 7), some (sv_r 0 4 a), some (sv_i l), some (sv_i (ws_ (h a) l i)), some (sv_i i)] [] h Post := by
  intro m
  induction m with
  | zero =>
    intro i hi
    refine vr_iload (q := 7) dX7_strangersWith_5 rfl rfl ?_
    refine vr_aload_n (q := 8) dX7_strangersWith_7 rfl rfl ?_
    refine vr_getI (ji := 3) (q := 11) dX7_strangersWith_8 rfl fX7_19 rfl rfl ?_
    -- at X7.strangersWith 11: .if_icmp .ge 27
    refine vr_ic_ge (t := 38) (q := 14) dX7_strangersWith_11 (by decide) rfl (fun _ => ?_) (fun c9 => absurd c9 (by omega))
    refine vr_iload_n (q := 39) dX7_strangersWith_38 rfl rfl ?_
    -- at X7.strangersWith 39: .ireturn
    refine vr_iret dX7_strangersWith_39 rfl ?_
    rw [show (h 7 3).toNat = i by omega] at kk
    exact kk
  | succ m ih =>
    intro i hi
    have h1 := bt_01 (h a i) l
    have h2 := ws_r (h a) l i
    refine vr_iload (q := 7) dX7_strangersWith_5 rfl rfl ?_
    refine vr_aload_n (q := 8) dX7_strangersWith_7 rfl rfl ?_
    refine vr_getI (ji := 3) (q := 11) dX7_strangersWith_8 rfl fX7_19 rfl rfl ?_
    -- at X7.strangersWith 11: .if_icmp .ge 27
    refine vr_ic_ge (t := 38) (q := 14) dX7_strangersWith_11 (by decide) rfl (fun c9 => absurd c9 (by omega)) (fun _ => ?_)
    refine vr_iload (q := 16) dX7_strangersWith_14 rfl rfl ?_
    refine vr_aload_n (q := 17) dX7_strangersWith_16 rfl rfl ?_
    refine vr_alen (q := 18) dX7_strangersWith_17 rfl (by decide) ?_
    -- at X7.strangersWith 18: .if_icmp .ge 20
    refine vr_ic_ge (t := 38) (q := 21) dX7_strangersWith_18 (by decide) rfl (fun c9 => absurd c9 (by omega)) (fun _ => ?_)
    refine vr_iload_n (q := 22) dX7_strangersWith_21 rfl rfl ?_
    refine vr_aload_n (q := 23) dX7_strangersWith_22 rfl rfl ?_
    refine vr_iload (q := 25) dX7_strangersWith_23 rfl rfl ?_
    refine vr_iald (q := 26) dX7_strangersWith_25 rfl ⟨by omega, by omega⟩ ?_
    refine vr_iload_n (q := 27) dX7_strangersWith_26 rfl rfl ?_
    refine vr_ishr (q := 28) dX7_strangersWith_27 rfl ?_
    refine vr_iconst (q := 29) dX7_strangersWith_28 rfl ⟨by decide, by decide⟩ ?_
    refine vr_iand (q := 30) dX7_strangersWith_29 rfl ?_
    refine vr_iaddN (q := 31) dX7_strangersWith_30 rfl ⟨by show -2147483648 ≤ ws_ (h a) l i + bt_ (h a i) l; omega, by show ws_ (h a) l i + bt_ (h a i) l < 2147483648; omega⟩ ?_
    refine vr_istore_n (q := 32) dX7_strangersWith_31 rfl rfl (Nat.le_of_ble_eq_true rfl) rfl rfl ?_
    refine vr_iinc (q := 35) dX7_strangersWith_32 rfl rfl ⟨by omega, by omega⟩ (Nat.le_of_ble_eq_true rfl) rfl rfl ?_
    refine vr_goto (q := 5) dX7_strangersWith_35 (by decide) ?_
    -- at X7.strangersWith 5: .iload 4
    exact ih (i + 1) (by omega)
theorem c_strangersWith {a l : Int} (hn : 0 ≤ h 7 3 ∧ h 7 3 ≤ 4) (kk : Post (some (sv_i (ws_ (h a) l (h 7 3).toNat))) h) : Ctr_ g d mX7_strangersWith [sv_r 4 6 7, sv_r 0 4 a, sv_i l] h Post := by
  refine V_mk (by decide +kernel) (Or.inr (Or.inl ⟨rfl, rfl⟩)) (Nat.le_of_ble_eq_true rfl) (by simp [sv_c]) ?_
  show V_ _ _ _ 0 [_, _, _, _, _] [] _ _
  refine vr_iconst (q := 1) dX7_strangersWith_0 rfl ⟨by decide, by decide⟩ ?_
  refine vr_istore_n (q := 2) dX7_strangersWith_1 rfl rfl (Nat.le_of_ble_eq_true rfl) rfl rfl ?_
  refine vr_iconst (q := 3) dX7_strangersWith_2 rfl ⟨by decide, by decide⟩ ?_
  refine vr_istore (q := 5) dX7_strangersWith_3 rfl (Nat.le_of_ble_eq_true rfl) rfl rfl ?_
  -- at X7.strangersWith 5: .iload 4
  exact l_strangersWith hn kk (h 7 3).toNat 0 (by omega)
theorem c_begin {x : Int} (kk : Post none (hs_ (hs_ (hs_ (hs_ h 15 0 x) 15 1 0) 15 2 0) 15 3 0)) : Ctr_ g d mX7_begin [sv_r 4 6 15, sv_i x] h Post := by
  refine V_mk (by decide +kernel) (Or.inl ⟨rfl, rfl⟩) (Nat.le_of_ble_eq_true rfl) (by simp [sv_c]) ?_
  show V_ _ _ _ 0 [_, _] [] _ _
  refine vr_aload_n (q := 1) dX7_begin_0 rfl rfl ?_
  refine vr_iload_n (q := 2) dX7_begin_1 rfl rfl ?_
  refine vr_put (ji := 0) (q := 5) dX7_begin_2 rfl pX7_7 rfl rfl ?_
  refine vr_aload_n (q := 6) dX7_begin_5 rfl rfl ?_
  refine vr_iconst (q := 7) dX7_begin_6 rfl ⟨by decide, by decide⟩ ?_
  refine vr_put (ji := 1) (q := 10) dX7_begin_7 rfl pX7_13 rfl rfl ?_
  refine vr_aload_n (q := 11) dX7_begin_10 rfl rfl ?_
  refine vr_iconst (q := 12) dX7_begin_11 rfl ⟨by decide, by decide⟩ ?_
  refine vr_put (ji := 2) (q := 15) dX7_begin_12 rfl pX7_16 rfl rfl ?_
  refine vr_aload_n (q := 16) dX7_begin_15 rfl rfl ?_
  refine vr_iconst (q := 17) dX7_begin_16 rfl ⟨by decide, by decide⟩ ?_
  refine vr_put (ji := 3) (q := 20) dX7_begin_17 rfl pX7_19 rfl rfl ?_
  refine vr_vret dX7_begin_20 rfl ?_
  first | exact kk | (exfalso; omega) | (repeat (first | exact kk | rw [if_pos (by omega)] at kk | rw [if_neg (by omega)] at kk))
theorem c_addLie {a b c : Int} (hl : 0 ≤ h 15 2 ∧ h 15 2 < 6) (kk : Post none (hs_ (hs_ (hs_ (hs_ h 16 (h 15 2) a) 17 (h 15 2) b) 18 (h 15 2) c) 15 2 (h 15 2 + 1))) : Ctr_ g d mX7_addLie [sv_r 4 6 15, sv_i a, sv_i b, sv_i c] h Post := by
  refine V_mk (by decide +kernel) (Or.inl ⟨rfl, rfl⟩) (Nat.le_of_ble_eq_true rfl) (by simp [sv_c]) ?_
  show V_ _ _ _ 0 [_, _, _, _] [] _ _
  refine vr_aload_n (q := 1) dX7_addLie_0 rfl rfl ?_
  refine vr_getI (ji := 2) (q := 4) dX7_addLie_1 rfl fX7_16 rfl rfl ?_
  refine vr_bipush (q := 6) dX7_addLie_4 rfl ⟨by decide, by decide⟩ (by decide) ?_
  refine vr_ic_ge (t := 49) (q := 9) dX7_addLie_6 (by decide) rfl (fun c9 => absurd c9 (by omega)) (fun _ => ?_)
  refine vr_aload_n (q := 10) dX7_addLie_9 rfl rfl ?_
  refine vr_getR (q := 13) dX7_addLie_10 rfl fX7_22 rfl y_X7_4 (by first | (simp only [Int.reduceAdd]; rfl) | rfl) ?_
  refine vr_aload_n (q := 14) dX7_addLie_13 rfl rfl ?_
  refine vr_getI (ji := 2) (q := 17) dX7_addLie_14 rfl fX7_16 rfl rfl ?_
  refine vr_iload_n (q := 18) dX7_addLie_17 rfl rfl ?_
  refine vr_iast (q := 19) dX7_addLie_18 rfl ⟨by omega, by omega⟩ ?_
  refine vr_aload_n (q := 20) dX7_addLie_19 rfl rfl ?_
  refine vr_getR (q := 23) dX7_addLie_20 rfl fX7_26 rfl y_X7_5 (by first | (simp only [Int.reduceAdd]; rfl) | rfl) ?_
  refine vr_aload_n (q := 24) dX7_addLie_23 rfl rfl ?_
  refine vr_getV (ji := 2) (q := 27) dX7_addLie_24 rfl fX7_16 rfl rfl (hs_n (by omega)) ?_
  refine vr_iload_n (q := 28) dX7_addLie_27 rfl rfl ?_
  refine vr_iast (q := 29) dX7_addLie_28 rfl ⟨by omega, by omega⟩ ?_
  refine vr_aload_n (q := 30) dX7_addLie_29 rfl rfl ?_
  refine vr_getR (q := 33) dX7_addLie_30 rfl fX7_29 rfl y_X7_6 (by first | (simp only [Int.reduceAdd]; rfl) | rfl) ?_
  refine vr_aload_n (q := 34) dX7_addLie_33 rfl rfl ?_
  refine vr_getV (ji := 2) (q := 37) dX7_addLie_34 rfl fX7_16 rfl rfl (by rw [hs_n (by omega), hs_n (by omega)]) ?_
  refine vr_iload_n (q := 38) dX7_addLie_37 rfl rfl ?_
  refine vr_iast (q := 39) dX7_addLie_38 rfl ⟨by omega, by omega⟩ ?_
  refine vr_aload_n (q := 40) dX7_addLie_39 rfl rfl ?_
  refine vr_dup (q := 41) dX7_addLie_40 rfl rfl ?_
  refine vr_getV (ji := 2) (q := 44) dX7_addLie_41 rfl fX7_16 rfl rfl (by rw [hs_n (by omega), hs_n (by omega), hs_n (by omega)]) ?_
  refine vr_iconst (q := 45) dX7_addLie_44 rfl ⟨by decide, by decide⟩ ?_
  refine vr_iaddN (q := 46) dX7_addLie_45 rfl ⟨by omega, by omega⟩ ?_
  refine vr_put (ji := 2) (q := 49) dX7_addLie_46 rfl pX7_16 rfl rfl ?_
  refine vr_vret dX7_addLie_49 rfl ?_
  first | exact kk | (exfalso; omega) | (repeat (first | exact kk | rw [if_pos (by omega)] at kk | rw [if_neg (by omega)] at kk))
theorem c_addStranger {a b : Int} (hl : 0 ≤ h 15 3 ∧ h 15 3 < 4) (kk : Post none (hs_ (hs_ (hs_ (hs_ (hs_ h 19 (h 15 3) a) 20 (h 15 3) b) 21 (h 15 3) 0) 22 (h 15 3) 0) 15 3 (h 15 3 + 1))) : Ctr_ g d mX7_addStranger [sv_r 4 6 15, sv_i a, sv_i b] h Post := by
  refine V_mk (by decide +kernel) (Or.inl ⟨rfl, rfl⟩) (Nat.le_of_ble_eq_true rfl) (by simp [sv_c]) ?_
  show V_ _ _ _ 0 [_, _, _] [] _ _
  refine vr_aload_n (q := 1) dX7_addStranger_0 rfl rfl ?_
  refine vr_getI (ji := 3) (q := 4) dX7_addStranger_1 rfl fX7_19 rfl rfl ?_
  refine vr_iconst (q := 5) dX7_addStranger_4 rfl ⟨by decide, by decide⟩ ?_
  refine vr_ic_ge (t := 58) (q := 8) dX7_addStranger_5 (by decide) rfl (fun c9 => absurd c9 (by omega)) (fun _ => ?_)
  refine vr_aload_n (q := 9) dX7_addStranger_8 rfl rfl ?_
  refine vr_getR (q := 12) dX7_addStranger_9 rfl fX7_32 rfl y_X7_7 (by first | (simp only [Int.reduceAdd]; rfl) | rfl) ?_
  refine vr_aload_n (q := 13) dX7_addStranger_12 rfl rfl ?_
  refine vr_getI (ji := 3) (q := 16) dX7_addStranger_13 rfl fX7_19 rfl rfl ?_
  refine vr_iload_n (q := 17) dX7_addStranger_16 rfl rfl ?_
  refine vr_iast (q := 18) dX7_addStranger_17 rfl ⟨by omega, by omega⟩ ?_
  refine vr_aload_n (q := 19) dX7_addStranger_18 rfl rfl ?_
  refine vr_getR (q := 22) dX7_addStranger_19 rfl fX7_35 rfl y_X7_8 (by first | (simp only [Int.reduceAdd]; rfl) | rfl) ?_
  refine vr_aload_n (q := 23) dX7_addStranger_22 rfl rfl ?_
  refine vr_getV (ji := 3) (q := 26) dX7_addStranger_23 rfl fX7_19 rfl rfl (hs_n (by omega)) ?_
  refine vr_iload_n (q := 27) dX7_addStranger_26 rfl rfl ?_
  refine vr_iast (q := 28) dX7_addStranger_27 rfl ⟨by omega, by omega⟩ ?_
  refine vr_aload_n (q := 29) dX7_addStranger_28 rfl rfl ?_
  refine vr_getR (q := 32) dX7_addStranger_29 rfl fX7_38 rfl y_X7_9 (by first | (simp only [Int.reduceAdd]; rfl) | rfl) ?_
  refine vr_aload_n (q := 33) dX7_addStranger_32 rfl rfl ?_
  refine vr_getV (ji := 3) (q := 36) dX7_addStranger_33 rfl fX7_19 rfl rfl (by rw [hs_n (by omega), hs_n (by omega)]) ?_
  refine vr_iconst (q := 37) dX7_addStranger_36 rfl ⟨by decide, by decide⟩ ?_
  refine vr_iast (q := 38) dX7_addStranger_37 rfl ⟨by omega, by omega⟩ ?_
  refine vr_aload_n (q := 39) dX7_addStranger_38 rfl rfl ?_
  refine vr_getR (q := 42) dX7_addStranger_39 rfl fX7_41 rfl y_X7_10 (by first | (simp only [Int.reduceAdd]; rfl) | rfl) ?_
  refine vr_aload_n (q := 43) dX7_addStranger_42 rfl rfl ?_
  refine vr_getV (ji := 3) (q := 46) dX7_addStranger_43 rfl fX7_19 rfl rfl (by rw [hs_n (by omega), hs_n (by omega), hs_n (by omega)]) ?_
  refine vr_iconst (q := 47) dX7_addStranger_46 rfl ⟨by decide, by decide⟩ ?_
  refine vr_iast (q := 48) dX7_addStranger_47 rfl ⟨by omega, by omega⟩ ?_
  refine vr_aload_n (q := 49) dX7_addStranger_48 rfl rfl ?_
  refine vr_dup (q := 50) dX7_addStranger_49 rfl rfl ?_
  refine vr_getV (ji := 3) (q := 53) dX7_addStranger_50 rfl fX7_19 rfl rfl (by rw [hs_n (by omega), hs_n (by omega), hs_n (by omega), hs_n (by omega)]) ?_
  refine vr_iconst (q := 54) dX7_addStranger_53 rfl ⟨by decide, by decide⟩ ?_
  refine vr_iaddN (q := 55) dX7_addStranger_54 rfl ⟨by omega, by omega⟩ ?_
  refine vr_put (ji := 3) (q := 58) dX7_addStranger_55 rfl pX7_19 rfl rfl ?_
  refine vr_vret dX7_addStranger_58 rfl ?_
  first | exact kk | (exfalso; omega) | (repeat (first | exact kk | rw [if_pos (by omega)] at kk | rw [if_neg (by omega)] at kk))
theorem c_noteSupper {s t : Int} (hs : 0 ≤ s ∧ s < 4) (kk : Post none (hs_ (hs_ h 7 1 (sw_32 (h 7 1 - 1))) 11 s t)) : Ctr_ g d mX7_noteSupper [sv_r 4 6 7, sv_i s, sv_i t] h Post := by
  refine V_mk (by decide +kernel) (Or.inl ⟨rfl, rfl⟩) (Nat.le_of_ble_eq_true rfl) (by simp [sv_c]) ?_
  show V_ _ _ _ 0 [_, _, _] [] _ _
  refine vr_aload_n (q := 1) dX7_noteSupper_0 rfl rfl ?_
  refine vr_dup (q := 2) dX7_noteSupper_1 rfl rfl ?_
  refine vr_getI (ji := 1) (q := 5) dX7_noteSupper_2 rfl fX7_13 rfl rfl ?_
  refine vr_iconst (q := 6) dX7_noteSupper_5 rfl ⟨by decide, by decide⟩ ?_
  refine vr_isub (q := 7) dX7_noteSupper_6 rfl ?_
  refine vr_put (ji := 1) (q := 10) dX7_noteSupper_7 rfl pX7_13 rfl rfl ?_
  refine vr_aload_n (q := 11) dX7_noteSupper_10 rfl rfl ?_
  refine vr_getR (q := 14) dX7_noteSupper_11 rfl fX7_32 rfl y_X7_7 (by first | (simp only [Int.reduceAdd]; rfl) | rfl) ?_
  refine vr_iload_n (q := 15) dX7_noteSupper_14 rfl rfl ?_
  refine vr_iload_n (q := 16) dX7_noteSupper_15 rfl rfl ?_
  refine vr_iast (q := 17) dX7_noteSupper_16 rfl ⟨by omega, by omega⟩ ?_
  refine vr_vret dX7_noteSupper_17 rfl ?_
  first | exact kk | (exfalso; omega) | (repeat (first | exact kk | rw [if_pos (by omega)] at kk | rw [if_neg (by omega)] at kk))
theorem c_noteForgotten {s l : Int} (hs : 0 ≤ s ∧ s < 4) (kk : Post none (hs_ (hs_ h 13 s (sb_iand (h 13 s) (sb_ixor (sb_ishl 1 l) (-1)))) 14 s (sb_iand (h 14 s) (sb_ixor (sb_ishl 1 l) (-1))))) : Ctr_ g d mX7_noteForgotten [sv_r 4 6 7, sv_i s, sv_i l] h Post := by
  refine V_mk (by decide +kernel) (Or.inl ⟨rfl, rfl⟩) (Nat.le_of_ble_eq_true rfl) (by simp [sv_c]) ?_
  show V_ _ _ _ 0 [_, _, _] [] _ _
  refine vr_aload_n (q := 1) dX7_noteForgotten_0 rfl rfl ?_
  refine vr_getR (q := 4) dX7_noteForgotten_1 rfl fX7_38 rfl y_X7_9 (by first | (simp only [Int.reduceAdd]; rfl) | rfl) ?_
  refine vr_iload_n (q := 5) dX7_noteForgotten_4 rfl rfl ?_
  refine vr_dup2 (q := 6) dX7_noteForgotten_5 rfl rfl rfl ?_
  refine vr_iald (q := 7) dX7_noteForgotten_6 rfl ⟨by omega, by omega⟩ ?_
  refine vr_iconst (q := 8) dX7_noteForgotten_7 rfl ⟨by decide, by decide⟩ ?_
  refine vr_iload_n (q := 9) dX7_noteForgotten_8 rfl rfl ?_
  refine vr_ishl (q := 10) dX7_noteForgotten_9 rfl ?_
  refine vr_iconst (q := 11) dX7_noteForgotten_10 rfl ⟨by decide, by decide⟩ ?_
  refine vr_ixor (q := 12) dX7_noteForgotten_11 rfl ?_
  refine vr_iand (q := 13) dX7_noteForgotten_12 rfl ?_
  refine vr_iast (q := 14) dX7_noteForgotten_13 rfl ⟨by omega, by omega⟩ ?_
  refine vr_aload_n (q := 15) dX7_noteForgotten_14 rfl rfl ?_
  refine vr_getR (q := 18) dX7_noteForgotten_15 rfl fX7_41 rfl y_X7_10 (by first | (simp only [Int.reduceAdd]; rfl) | rfl) ?_
  refine vr_iload_n (q := 19) dX7_noteForgotten_18 rfl rfl ?_
  refine vr_dup2 (q := 20) dX7_noteForgotten_19 rfl rfl rfl ?_
  refine vr_ialdV (q := 21) dX7_noteForgotten_20 rfl ⟨by omega, by omega⟩ (hs_n (by omega)) ?_
  refine vr_iconst (q := 22) dX7_noteForgotten_21 rfl ⟨by decide, by decide⟩ ?_
  refine vr_iload_n (q := 23) dX7_noteForgotten_22 rfl rfl ?_
  refine vr_ishl (q := 24) dX7_noteForgotten_23 rfl ?_
  refine vr_iconst (q := 25) dX7_noteForgotten_24 rfl ⟨by decide, by decide⟩ ?_
  refine vr_ixor (q := 26) dX7_noteForgotten_25 rfl ?_
  refine vr_iand (q := 27) dX7_noteForgotten_26 rfl ?_
  refine vr_iast (q := 28) dX7_noteForgotten_27 rfl ⟨by omega, by omega⟩ ?_
  refine vr_vret dX7_noteForgotten_28 rfl ?_
  first | exact kk | (exfalso; omega) | (repeat (first | exact kk | rw [if_pos (by omega)] at kk | rw [if_neg (by omega)] at kk))
/-- the current town, when a stranger has been told a lie -/
def nt_ (h : SH_) (s l b t : Int) : SH_ := hs_ (hs_ (hs_ (hs_ h 13 s (sb_ior (h 13 s) (sb_ishl 1 l))) 14 s (if b = 0 then h 14 s else sb_ior (h 14 s) (sb_ishl 1 l))) 7 1 (sw_32 (h 7 1 + (if b = 0 then -(h 7 0) else h 7 0)))) 11 s t
theorem hs_same (h : SH_) (a b : Int) : hs_ h a b (h a b) = h := by
  funext x y
  unfold hs_
  split
  · next c => rw [c.1, c.2]
  · rfl
theorem c_noteTold {s l b t : Int} (hs : 0 ≤ s ∧ s < 4) (h0 : 0 ≤ h 7 0 ∧ h 7 0 ≤ 9) (kk : Post none (nt_ h s l b t)) : Ctr_ g d mX7_noteTold [sv_r 4 6 7, sv_i s, sv_i l, sv_i b, sv_i t] h Post := by
  unfold nt_ at kk
  refine V_mk (by decide +kernel) (Or.inl ⟨rfl, rfl⟩) (Nat.le_of_ble_eq_true rfl) (by simp [sv_c]) ?_
  show V_ _ _ _ 0 [_, _, _, _, _] [] _ _
  refine vr_aload_n (q := 1) dX7_noteTold_0 rfl rfl ?_
  refine vr_getR (q := 4) dX7_noteTold_1 rfl fX7_38 rfl y_X7_9 (by first | (simp only [Int.reduceAdd]; rfl) | rfl) ?_
  refine vr_iload_n (q := 5) dX7_noteTold_4 rfl rfl ?_
  refine vr_dup2 (q := 6) dX7_noteTold_5 rfl rfl rfl ?_
  refine vr_iald (q := 7) dX7_noteTold_6 rfl ⟨by omega, by omega⟩ ?_
  refine vr_iconst (q := 8) dX7_noteTold_7 rfl ⟨by decide, by decide⟩ ?_
  refine vr_iload_n (q := 9) dX7_noteTold_8 rfl rfl ?_
  refine vr_ishl (q := 10) dX7_noteTold_9 rfl ?_
  refine vr_ior (q := 11) dX7_noteTold_10 rfl ?_
  refine vr_iast (q := 12) dX7_noteTold_11 rfl ⟨by omega, by omega⟩ ?_
  refine vr_iload_n (q := 13) dX7_noteTold_12 rfl rfl ?_
  -- at X7.noteTold 13: .ifCond .eq 15
  refine vr_if_eq (t := 28) (q := 16) dX7_noteTold_13 (by decide) rfl (fun c1 => ?_) (fun c1 => ?_)
  · rw [if_pos c1, if_pos c1] at kk
    have e : hs_ (hs_ h 13 s (sb_ior (h 13 s) (sb_ishl 1 l))) 14 s (h 14 s) = hs_ h 13 s (sb_ior (h 13 s) (sb_ishl 1 l)) := by
      have e2 := hs_same (hs_ h 13 s (sb_ior (h 13 s) (sb_ishl 1 l))) 14 s
      rw [hs_n (a := 14) (by omega)] at e2
      exact e2
    rw [e] at kk
    refine vr_aload_n (q := 29) dX7_noteTold_28 rfl rfl ?_
    refine vr_dup (q := 30) dX7_noteTold_29 rfl rfl ?_
    refine vr_getV (ji := 1) (q := 33) dX7_noteTold_30 rfl fX7_13 rfl rfl (hs_n (by omega)) ?_
    refine vr_iload_n (q := 34) dX7_noteTold_33 rfl rfl ?_
    -- at X7.noteTold 34: .ifCond .eq 10
    refine vr_if_eq (t := 44) (q := 37) dX7_noteTold_34 (by decide) rfl (fun _ => ?_) (fun c9 => absurd c9 (by omega))
    refine vr_aload_n (q := 45) dX7_noteTold_44 rfl rfl ?_
    refine vr_getV (ji := 0) (q := 48) dX7_noteTold_45 rfl fX7_7 rfl rfl (hs_n (by omega)) ?_
    refine vr_ineg (q := 49) dX7_noteTold_48 rfl ⟨by omega, by omega⟩ ?_
    refine vr_iadd (q := 50) dX7_noteTold_49 rfl ?_
    refine vr_put (ji := 1) (q := 53) dX7_noteTold_50 rfl pX7_13 rfl rfl ?_
    refine vr_aload_n (q := 54) dX7_noteTold_53 rfl rfl ?_
    refine vr_getR (q := 57) dX7_noteTold_54 rfl fX7_32 rfl y_X7_7 (by first | (simp only [Int.reduceAdd]; rfl) | rfl) ?_
    refine vr_iload_n (q := 58) dX7_noteTold_57 rfl rfl ?_
    refine vr_iload (q := 60) dX7_noteTold_58 rfl rfl ?_
    refine vr_iast (q := 61) dX7_noteTold_60 rfl ⟨by omega, by omega⟩ ?_
    -- at X7.noteTold 61: .return_
    refine vr_vret dX7_noteTold_61 rfl ?_
    exact kk
  · rw [if_neg c1, if_neg c1] at kk
    refine vr_aload_n (q := 17) dX7_noteTold_16 rfl rfl ?_
    refine vr_getR (q := 20) dX7_noteTold_17 rfl fX7_41 rfl y_X7_10 (by first | (simp only [Int.reduceAdd]; rfl) | rfl) ?_
    refine vr_iload_n (q := 21) dX7_noteTold_20 rfl rfl ?_
    refine vr_dup2 (q := 22) dX7_noteTold_21 rfl rfl rfl ?_
    refine vr_ialdV (q := 23) dX7_noteTold_22 rfl ⟨by omega, by omega⟩ (hs_n (by omega)) ?_
    refine vr_iconst (q := 24) dX7_noteTold_23 rfl ⟨by decide, by decide⟩ ?_
    refine vr_iload_n (q := 25) dX7_noteTold_24 rfl rfl ?_
    refine vr_ishl (q := 26) dX7_noteTold_25 rfl ?_
    refine vr_ior (q := 27) dX7_noteTold_26 rfl ?_
    refine vr_iast (q := 28) dX7_noteTold_27 rfl ⟨by omega, by omega⟩ ?_
    refine vr_aload_n (q := 29) dX7_noteTold_28 rfl rfl ?_
    refine vr_dup (q := 30) dX7_noteTold_29 rfl rfl ?_
    refine vr_getV (ji := 1) (q := 33) dX7_noteTold_30 rfl fX7_13 rfl rfl (by rw [hs_n (by omega), hs_n (by omega)]) ?_
    refine vr_iload_n (q := 34) dX7_noteTold_33 rfl rfl ?_
    -- at X7.noteTold 34: .ifCond .eq 10
    refine vr_if_eq (t := 44) (q := 37) dX7_noteTold_34 (by decide) rfl (fun c9 => absurd c9 (by omega)) (fun _ => ?_)
    refine vr_aload_n (q := 38) dX7_noteTold_37 rfl rfl ?_
    refine vr_getV (ji := 0) (q := 41) dX7_noteTold_38 rfl fX7_7 rfl rfl (by rw [hs_n (by omega), hs_n (by omega)]) ?_
    refine vr_goto (q := 49) dX7_noteTold_41 (by decide) ?_
    refine vr_iadd (q := 50) dX7_noteTold_49 rfl ?_
    refine vr_put (ji := 1) (q := 53) dX7_noteTold_50 rfl pX7_13 rfl rfl ?_
    refine vr_aload_n (q := 54) dX7_noteTold_53 rfl rfl ?_
    refine vr_getR (q := 57) dX7_noteTold_54 rfl fX7_32 rfl y_X7_7 (by first | (simp only [Int.reduceAdd]; rfl) | rfl) ?_
    refine vr_iload_n (q := 58) dX7_noteTold_57 rfl rfl ?_
    refine vr_iload (q := 60) dX7_noteTold_58 rfl rfl ?_
    refine vr_iast (q := 61) dX7_noteTold_60 rfl ⟨by omega, by omega⟩ ?_
    -- at X7.noteTold 61: .return_
    refine vr_vret dX7_noteTold_61 rfl ?_
    exact kk
end PT_
