theorem cn_r {tp : Int → Int} {s : Int} : ∀ {n : Nat}, (∀ l : Int, 0 ≤ l → l < n → 0 ≤ tp l ∧ tp l < 4) → ∀ t : Int, 0 ≤ t → t < 4 → 0 ≤ q4_ (cn_ tp s n) t ∧ q4_ (cn_ tp s n) t ≤ n := by
  intro n
  induction n with
  | zero =>
    intro _ t h0 h1
    rcases (by omega : t = 0 ∨ t = 1 ∨ t = 2 ∨ t = 3) with rfl | rfl | rfl | rfl <;> exact ⟨Int.le_refl 0, Int.le_refl 0⟩
  | succ n ih =>
    intro ht t h0 h1
    have h2 := ih (fun l a b => ht l a (by omega))
    have h3 := ht n (by omega) (by omega)
    have h4 := h2 t h0 h1
    have h5 := h2 (tp n) h3.1 h3.2
    have h6 := bt_01 s n
    show 0 ≤ q4_ (u4_ (cn_ tp s n) (tp n) (q4_ (cn_ tp s n) (tp n) + bt_ s n)) t ∧ q4_ (u4_ (cn_ tp s n) (tp n) (q4_ (cn_ tp s n) (tp n) + bt_ s n)) t ≤ ((n + 1 : Nat) : Int)
    rw [q4_u h3 ⟨h0, h1⟩]
    split <;> omega
theorem mu_q {h : SH_} {k : Int} {m : MU_} {t : Int} (ht : 0 ≤ t ∧ t < 4) : ms_ h k m (k + 1) t = q4_ m.2.2.2 t := by
  have e := mu_ms h k m
  have e2 : a4_ (ms_ h k m (k + 1)) = m.2.2.2 := congrArg (fun z : MU_ => z.2.2.2) e
  rw [← e2, q4_a ht]
/-- the mind of stranger s of the current town -/
def en_ (h : SH_) (s : Int) : MU_ := (h 11 s, h 12 s, pc_ (h 13 s), cn_ (h 10) (h 14 s) (h 7 2).toNat)
section PN_
variable {g : SG_} {d : Nat} {h : SH_} {Post : Option SV_ → SH_ → Prop}
theorem l_enter {k s a b c : Int} (hk : 52 ≤ k) (hs : 0 ≤ s ∧ s < 4) (hl : 0 ≤ h 7 2 ∧ h 7 2 ≤ 6) (ht : ∀ l, 0 ≤ l → l < h 7 2 → 0 ≤ h 10 l ∧ h 10 l < 4) (kk : Post none (ms_ h k (a, b, c, cn_ (h 10) (h 14 s) (h 7 2).toNat))) : ∀ (m : Nat) (i : Nat), (i : Int) + m = h 7 2 → V_ g d mX4_enter 55 [some (sv_r 4 3 k), some (sv_r 4 6 7), some (sv_i s), some (sv_i i)] [] (ms_ h k (a, b, c, cn_ (h 10) (h 14 s) i)) Post := by
  intro m
  induction m with
  | zero =>
    intro i hi
    refine vr_iload_n (q := 56) dX4_enter_55 rfl rfl ?_
    refine vr_aload_n (q := 57) dX4_enter_56 rfl rfl ?_
    refine vr_getV (ji := 2) (q := 60) dX4_enter_57 rfl fX4_39 rfl rfl (congrFun (ms_n (by omega) (by omega)) 2) ?_
    -- at X4.enter 60: .if_icmp .ge 33
    refine vr_ic_ge (t := 93) (q := 63) dX4_enter_60 (by decide) rfl (fun _ => ?_) (fun c9 => absurd c9 (by omega))
    refine vr_vret dX4_enter_93 rfl ?_
    rw [show (h 7 2).toNat = i by omega] at kk
    exact kk
  | succ m ih =>
    intro i hi
    have h1 := ht i (by omega) (by omega)
    have h2 := cn_r (s := h 14 s) (n := i) (fun l p q => ht l p (by omega)) (h 10 i) h1.1 h1.2
    have h3 := bt_01 (h 14 s) i
    refine vr_iload_n (q := 56) dX4_enter_55 rfl rfl ?_
    refine vr_aload_n (q := 57) dX4_enter_56 rfl rfl ?_
    refine vr_getV (ji := 2) (q := 60) dX4_enter_57 rfl fX4_39 rfl rfl (congrFun (ms_n (by omega) (by omega)) 2) ?_
    -- at X4.enter 60: .if_icmp .ge 33
    refine vr_ic_ge (t := 93) (q := 63) dX4_enter_60 (by decide) rfl (fun c9 => absurd c9 (by omega)) (fun _ => ?_)
    refine vr_aload_n (q := 64) dX4_enter_63 rfl rfl ?_
    refine vr_getR (q := 67) dX4_enter_64 rfl fX4_21 rfl y_X4_3 (by first | (simp only [Int.reduceAdd]; rfl) | rfl) ?_
    refine vr_aload_n (q := 68) dX4_enter_67 rfl rfl ?_
    refine vr_getR (q := 71) dX4_enter_68 rfl fX4_42 rfl y_X7_6 (by first | (simp only [Int.reduceAdd]; rfl) | rfl) ?_
    refine vr_iload_n (q := 72) dX4_enter_71 rfl rfl ?_
    refine vr_ialdV (q := 73) dX4_enter_72 rfl ⟨by omega, by omega⟩ (congrFun (ms_n (by omega) (by omega)) _) ?_
    refine vr_dup2 (q := 74) dX4_enter_73 rfl rfl rfl ?_
    refine vr_ialdV (q := 75) dX4_enter_74 rfl ⟨by omega, by omega⟩ (mu_q h1) ?_
    refine vr_aload_n (q := 76) dX4_enter_75 rfl rfl ?_
    refine vr_getR (q := 79) dX4_enter_76 rfl fX4_45 rfl y_X7_10 (by first | (simp only [Int.reduceAdd]; rfl) | rfl) ?_
    refine vr_iload_n (q := 80) dX4_enter_79 rfl rfl ?_
    refine vr_ialdV (q := 81) dX4_enter_80 rfl ⟨by omega, by omega⟩ (congrFun (ms_n (by omega) (by omega)) _) ?_
    refine vr_iload_n (q := 82) dX4_enter_81 rfl rfl ?_
    refine vr_ishr (q := 83) dX4_enter_82 rfl ?_
    refine vr_iconst (q := 84) dX4_enter_83 rfl ⟨by decide, by decide⟩ ?_
    refine vr_iand (q := 85) dX4_enter_84 rfl ?_
    refine vr_iaddN (q := 86) dX4_enter_85 rfl ⟨by show -2147483648 ≤ q4_ (cn_ (h 10) (h 14 s) i) (h 10 i) + bt_ (h 14 s) i; omega, by show q4_ (cn_ (h 10) (h 14 s) i) (h 10 i) + bt_ (h 14 s) i < 2147483648; omega⟩ ?_
    refine vr_iast (q := 87) dX4_enter_86 rfl ⟨by omega, by omega⟩ ?_
    refine vr_iinc (q := 90) dX4_enter_87 rfl rfl ⟨by omega, by omega⟩ (Nat.le_of_ble_eq_true rfl) rfl rfl ?_
    refine vr_goto (q := 55) dX4_enter_90 (by decide) ?_
    -- at X4.enter 55: .iload_n 3
    rw [ms_q _ _ _ _ h1]
    exact ih (i + 1) (by omega)
theorem c_enter {k s : Int} (hk : 52 ≤ k) (hs : 0 ≤ s ∧ s < 4) (hl : 0 ≤ h 7 2 ∧ h 7 2 ≤ 6) (ht : ∀ l, 0 ≤ l → l < h 7 2 → 0 ≤ h 10 l ∧ h 10 l < 4) (hd : 0 ≤ h 13 s ∧ h 13 s < 64) (kk : Post none (ms_ h k (en_ h s))) : Ctr_ g (d + 1) mX4_enter [sv_r 4 3 k, sv_r 4 6 7, sv_i s] h Post := by
  refine V_mk (by decide +kernel) (Or.inl ⟨rfl, rfl⟩) (Nat.le_of_ble_eq_true rfl) (by simp [sv_c]) ?_
  show V_ _ _ _ 0 [_, _, _, _] [] _ _
  refine vr_aload_n (q := 1) dX4_enter_0 rfl rfl ?_
  refine vr_aload_n (q := 2) dX4_enter_1 rfl rfl ?_
  refine vr_getR (q := 5) dX4_enter_2 rfl fX4_25 rfl y_X7_7 (by first | (simp only [Int.reduceAdd]; rfl) | rfl) ?_
  refine vr_iload_n (q := 6) dX4_enter_5 rfl rfl ?_
  refine vr_iald (q := 7) dX4_enter_6 rfl ⟨by omega, by omega⟩ ?_
  refine vr_put (ji := 0) (q := 10) dX4_enter_7 rfl pX4_7 rfl rfl ?_
  -- at X4.enter 10: .aload_n 0
  rw [hs_m0]
  refine vr_aload_n (q := 11) dX4_enter_10 rfl rfl ?_
  refine vr_aload_n (q := 12) dX4_enter_11 rfl rfl ?_
  refine vr_getR (q := 15) dX4_enter_12 rfl fX4_28 rfl y_X7_8 (by first | (simp only [Int.reduceAdd]; rfl) | rfl) ?_
  refine vr_iload_n (q := 16) dX4_enter_15 rfl rfl ?_
  refine vr_ialdV (q := 17) dX4_enter_16 rfl ⟨by omega, by omega⟩ (congrFun (ms_n (by omega) (by omega)) _) ?_
  refine vr_put (ji := 1) (q := 20) dX4_enter_17 rfl pX4_13 rfl rfl ?_
  -- at X4.enter 20: .aload_n 0
  rw [ms_h1]
  refine vr_aload_n (q := 21) dX4_enter_20 rfl rfl ?_
  refine vr_aload_n (q := 22) dX4_enter_21 rfl rfl ?_
  refine vr_getR (q := 25) dX4_enter_22 rfl fX4_30 rfl y_X7_9 (by first | (simp only [Int.reduceAdd]; rfl) | rfl) ?_
  refine vr_iload_n (q := 26) dX4_enter_25 rfl rfl ?_
  refine vr_ialdV (q := 27) dX4_enter_26 rfl ⟨by omega, by omega⟩ (congrFun (ms_n (by omega) (by omega)) _) ?_
  -- at X4.enter 27: .invokestatic 33
  refine vr_is1 (q := 30) dX4_enter_27 rfl vX4_33 (Nat.le_of_ble_eq_true rfl) ?_
  refine c_bitCount hd ?_
  refine vr_put (ji := 2) (q := 33) dX4_enter_30 rfl pX4_16 rfl rfl ?_
  -- at X4.enter 33: .iconst 0
  rw [ms_h2]
  refine vr_iconst (q := 34) dX4_enter_33 rfl ⟨by decide, by decide⟩ ?_
  refine vr_istore_n (q := 35) dX4_enter_34 rfl rfl (Nat.le_of_ble_eq_true rfl) rfl rfl ?_
  refine vr_iload_n (q := 36) dX4_enter_35 rfl rfl ?_
  refine vr_iconst (q := 37) dX4_enter_36 rfl ⟨by decide, by decide⟩ ?_
  -- at X4.enter 37: .if_icmp .ge 16
  refine vr_ic_ge (t := 53) (q := 40) dX4_enter_37 (by decide) rfl (fun c9 => absurd c9 (by omega)) (fun _ => ?_)
  refine vr_aload_n (q := 41) dX4_enter_40 rfl rfl ?_
  refine vr_getR (q := 44) dX4_enter_41 rfl fX4_21 rfl y_X4_3 (by first | (simp only [Int.reduceAdd]; rfl) | rfl) ?_
  refine vr_iload_n (q := 45) dX4_enter_44 rfl rfl ?_
  refine vr_iconst (q := 46) dX4_enter_45 rfl ⟨by decide, by decide⟩ ?_
  refine vr_iast (q := 47) dX4_enter_46 rfl ⟨by omega, by omega⟩ ?_
  refine vr_iinc (q := 50) dX4_enter_47 rfl rfl ⟨by omega, by omega⟩ (Nat.le_of_ble_eq_true rfl) rfl rfl ?_
  refine vr_goto (q := 35) dX4_enter_50 (by decide) ?_
  refine vr_iload_n (q := 36) dX4_enter_35 rfl rfl ?_
  refine vr_iconst (q := 37) dX4_enter_36 rfl ⟨by decide, by decide⟩ ?_
  -- at X4.enter 37: .if_icmp .ge 16
  refine vr_ic_ge (t := 53) (q := 40) dX4_enter_37 (by decide) rfl (fun c9 => absurd c9 (by omega)) (fun _ => ?_)
  refine vr_aload_n (q := 41) dX4_enter_40 rfl rfl ?_
  refine vr_getR (q := 44) dX4_enter_41 rfl fX4_21 rfl y_X4_3 (by first | (simp only [Int.reduceAdd]; rfl) | rfl) ?_
  refine vr_iload_n (q := 45) dX4_enter_44 rfl rfl ?_
  refine vr_iconst (q := 46) dX4_enter_45 rfl ⟨by decide, by decide⟩ ?_
  refine vr_iast (q := 47) dX4_enter_46 rfl ⟨by omega, by omega⟩ ?_
  refine vr_iinc (q := 50) dX4_enter_47 rfl rfl ⟨by omega, by omega⟩ (Nat.le_of_ble_eq_true rfl) rfl rfl ?_
  refine vr_goto (q := 35) dX4_enter_50 (by decide) ?_
  refine vr_iload_n (q := 36) dX4_enter_35 rfl rfl ?_
  refine vr_iconst (q := 37) dX4_enter_36 rfl ⟨by decide, by decide⟩ ?_
  -- at X4.enter 37: .if_icmp .ge 16
  refine vr_ic_ge (t := 53) (q := 40) dX4_enter_37 (by decide) rfl (fun c9 => absurd c9 (by omega)) (fun _ => ?_)
  refine vr_aload_n (q := 41) dX4_enter_40 rfl rfl ?_
  refine vr_getR (q := 44) dX4_enter_41 rfl fX4_21 rfl y_X4_3 (by first | (simp only [Int.reduceAdd]; rfl) | rfl) ?_
  refine vr_iload_n (q := 45) dX4_enter_44 rfl rfl ?_
  refine vr_iconst (q := 46) dX4_enter_45 rfl ⟨by decide, by decide⟩ ?_
  refine vr_iast (q := 47) dX4_enter_46 rfl ⟨by omega, by omega⟩ ?_
  refine vr_iinc (q := 50) dX4_enter_47 rfl rfl ⟨by omega, by omega⟩ (Nat.le_of_ble_eq_true rfl) rfl rfl ?_
  refine vr_goto (q := 35) dX4_enter_50 (by decide) ?_
  refine vr_iload_n (q := 36) dX4_enter_35 rfl rfl ?_
  refine vr_iconst (q := 37) dX4_enter_36 rfl ⟨by decide, by decide⟩ ?_
  -- at X4.enter 37: .if_icmp .ge 16
  refine vr_ic_ge (t := 53) (q := 40) dX4_enter_37 (by decide) rfl (fun c9 => absurd c9 (by omega)) (fun _ => ?_)
  refine vr_aload_n (q := 41) dX4_enter_40 rfl rfl ?_
  refine vr_getR (q := 44) dX4_enter_41 rfl fX4_21 rfl y_X4_3 (by first | (simp only [Int.reduceAdd]; rfl) | rfl) ?_
  refine vr_iload_n (q := 45) dX4_enter_44 rfl rfl ?_
  refine vr_iconst (q := 46) dX4_enter_45 rfl ⟨by decide, by decide⟩ ?_
  refine vr_iast (q := 47) dX4_enter_46 rfl ⟨by omega, by omega⟩ ?_
  refine vr_iinc (q := 50) dX4_enter_47 rfl rfl ⟨by omega, by omega⟩ (Nat.le_of_ble_eq_true rfl) rfl rfl ?_
  refine vr_goto (q := 35) dX4_enter_50 (by decide) ?_
  refine vr_iload_n (q := 36) dX4_enter_35 rfl rfl ?_
  refine vr_iconst (q := 37) dX4_enter_36 rfl ⟨by decide, by decide⟩ ?_
  -- at X4.enter 37: .if_icmp .ge 16
  refine vr_ic_ge (t := 53) (q := 40) dX4_enter_37 (by decide) rfl (fun _ => ?_) (fun c9 => absurd c9 (by omega))
  refine vr_iconst (q := 54) dX4_enter_53 rfl ⟨by decide, by decide⟩ ?_
  refine vr_istore_n (q := 55) dX4_enter_54 rfl rfl (Nat.le_of_ble_eq_true rfl) rfl rfl ?_
  -- at X4.enter 55: .iload_n 3
  rw [ms_q _ _ _ _ (by decide), ms_q _ _ _ _ (by decide), ms_q _ _ _ _ (by decide), ms_q _ _ _ _ (by decide)]
  exact l_enter hk hs hl ht kk (h 7 2).toNat 0 (by omega)
theorem c_become {k l : Int} (hk : 52 ≤ k) (hl : l ≠ k ∧ l ≠ k + 1 ∧ l + 1 ≠ k) (kk : Post none (ms_ h k (mu_ h l))) : Ctr_ g d mX4_become [sv_r 4 3 k, sv_r 4 3 l] h Post := by
  refine V_mk (by decide +kernel) (Or.inl ⟨rfl, rfl⟩) (Nat.le_of_ble_eq_true rfl) (by simp [sv_c]) ?_
  show V_ _ _ _ 0 [_, _, _] [] _ _
  refine vr_aload_n (q := 1) dX4_become_0 rfl rfl ?_
  refine vr_aload_n (q := 2) dX4_become_1 rfl rfl ?_
  refine vr_getI (ji := 0) (q := 5) dX4_become_2 rfl fX4_7 rfl rfl ?_
  refine vr_put (ji := 0) (q := 8) dX4_become_5 rfl pX4_7 rfl rfl ?_
  -- at X4.become 8: .aload_n 0
  rw [hs_m0]
  refine vr_aload_n (q := 9) dX4_become_8 rfl rfl ?_
  refine vr_aload_n (q := 10) dX4_become_9 rfl rfl ?_
  refine vr_getV (ji := 1) (q := 13) dX4_become_10 rfl fX4_13 rfl rfl (congrFun (ms_n (by omega) (by omega)) _) ?_
  refine vr_put (ji := 1) (q := 16) dX4_become_13 rfl pX4_13 rfl rfl ?_
  -- at X4.become 16: .aload_n 0
  rw [ms_h1]
  refine vr_aload_n (q := 17) dX4_become_16 rfl rfl ?_
  refine vr_aload_n (q := 18) dX4_become_17 rfl rfl ?_
  refine vr_getV (ji := 2) (q := 21) dX4_become_18 rfl fX4_16 rfl rfl (congrFun (ms_n (by omega) (by omega)) _) ?_
  refine vr_put (ji := 2) (q := 24) dX4_become_21 rfl pX4_16 rfl rfl ?_
  -- at X4.become 24: .iconst 0
  rw [ms_h2]
  refine vr_iconst (q := 25) dX4_become_24 rfl ⟨by decide, by decide⟩ ?_
  refine vr_istore_n (q := 26) dX4_become_25 rfl rfl (Nat.le_of_ble_eq_true rfl) rfl rfl ?_
  refine vr_iload_n (q := 27) dX4_become_26 rfl rfl ?_
  refine vr_iconst (q := 28) dX4_become_27 rfl ⟨by decide, by decide⟩ ?_
  -- at X4.become 28: .if_icmp .ge 21
  refine vr_ic_ge (t := 49) (q := 31) dX4_become_28 (by decide) rfl (fun c9 => absurd c9 (by omega)) (fun _ => ?_)
  refine vr_aload_n (q := 32) dX4_become_31 rfl rfl ?_
  refine vr_getR (q := 35) dX4_become_32 rfl fX4_21 rfl y_X4_3 (by first | (simp only [Int.reduceAdd]; rfl) | rfl) ?_
  refine vr_iload_n (q := 36) dX4_become_35 rfl rfl ?_
  refine vr_aload_n (q := 37) dX4_become_36 rfl rfl ?_
  refine vr_getR (q := 40) dX4_become_37 rfl fX4_21 rfl y_X4_3 (by first | (simp only [Int.reduceAdd]; rfl) | rfl) ?_
  refine vr_iload_n (q := 41) dX4_become_40 rfl rfl ?_
  refine vr_ialdV (q := 42) dX4_become_41 rfl ⟨by omega, by omega⟩ (congrFun (ms_n (by omega) (by omega)) _) ?_
  refine vr_iast (q := 43) dX4_become_42 rfl ⟨by omega, by omega⟩ ?_
  -- at X4.become 43: .iinc 2 1
  rw [ms_q _ _ _ _ (by decide)]
  refine vr_iinc (q := 46) dX4_become_43 rfl rfl ⟨by omega, by omega⟩ (Nat.le_of_ble_eq_true rfl) rfl rfl ?_
  refine vr_goto (q := 26) dX4_become_46 (by decide) ?_
  refine vr_iload_n (q := 27) dX4_become_26 rfl rfl ?_
  refine vr_iconst (q := 28) dX4_become_27 rfl ⟨by decide, by decide⟩ ?_
  -- at X4.become 28: .if_icmp .ge 21
  refine vr_ic_ge (t := 49) (q := 31) dX4_become_28 (by decide) rfl (fun c9 => absurd c9 (by omega)) (fun _ => ?_)
  refine vr_aload_n (q := 32) dX4_become_31 rfl rfl ?_
  refine vr_getR (q := 35) dX4_become_32 rfl fX4_21 rfl y_X4_3 (by first | (simp only [Int.reduceAdd]; rfl) | rfl) ?_
  refine vr_iload_n (q := 36) dX4_become_35 rfl rfl ?_
  refine vr_aload_n (q := 37) dX4_become_36 rfl rfl ?_
  refine vr_getR (q := 40) dX4_become_37 rfl fX4_21 rfl y_X4_3 (by first | (simp only [Int.reduceAdd]; rfl) | rfl) ?_
  refine vr_iload_n (q := 41) dX4_become_40 rfl rfl ?_
  refine vr_ialdV (q := 42) dX4_become_41 rfl ⟨by omega, by omega⟩ (congrFun (ms_n (by omega) (by omega)) _) ?_
  refine vr_iast (q := 43) dX4_become_42 rfl ⟨by omega, by omega⟩ ?_
  -- at X4.become 43: .iinc 2 1
  rw [ms_q _ _ _ _ (by decide)]
  refine vr_iinc (q := 46) dX4_become_43 rfl rfl ⟨by omega, by omega⟩ (Nat.le_of_ble_eq_true rfl) rfl rfl ?_
  refine vr_goto (q := 26) dX4_become_46 (by decide) ?_
  refine vr_iload_n (q := 27) dX4_become_26 rfl rfl ?_
  refine vr_iconst (q := 28) dX4_become_27 rfl ⟨by decide, by decide⟩ ?_
  -- at X4.become 28: .if_icmp .ge 21
  refine vr_ic_ge (t := 49) (q := 31) dX4_become_28 (by decide) rfl (fun c9 => absurd c9 (by omega)) (fun _ => ?_)
  refine vr_aload_n (q := 32) dX4_become_31 rfl rfl ?_
  refine vr_getR (q := 35) dX4_become_32 rfl fX4_21 rfl y_X4_3 (by first | (simp only [Int.reduceAdd]; rfl) | rfl) ?_
  refine vr_iload_n (q := 36) dX4_become_35 rfl rfl ?_
  refine vr_aload_n (q := 37) dX4_become_36 rfl rfl ?_
  refine vr_getR (q := 40) dX4_become_37 rfl fX4_21 rfl y_X4_3 (by first | (simp only [Int.reduceAdd]; rfl) | rfl) ?_
  refine vr_iload_n (q := 41) dX4_become_40 rfl rfl ?_
  refine vr_ialdV (q := 42) dX4_become_41 rfl ⟨by omega, by omega⟩ (congrFun (ms_n (by omega) (by omega)) _) ?_
  refine vr_iast (q := 43) dX4_become_42 rfl ⟨by omega, by omega⟩ ?_
  -- at X4.become 43: .iinc 2 1
  rw [ms_q _ _ _ _ (by decide)]
  refine vr_iinc (q := 46) dX4_become_43 rfl rfl ⟨by omega, by omega⟩ (Nat.le_of_ble_eq_true rfl) rfl rfl ?_
  refine vr_goto (q := 26) dX4_become_46 (by decide) ?_
  refine vr_iload_n (q := 27) dX4_become_26 rfl rfl ?_
  refine vr_iconst (q := 28) dX4_become_27 rfl ⟨by decide, by decide⟩ ?_
  -- at X4.become 28: .if_icmp .ge 21
  refine vr_ic_ge (t := 49) (q := 31) dX4_become_28 (by decide) rfl (fun c9 => absurd c9 (by omega)) (fun _ => ?_)
  refine vr_aload_n (q := 32) dX4_become_31 rfl rfl ?_
  refine vr_getR (q := 35) dX4_become_32 rfl fX4_21 rfl y_X4_3 (by first | (simp only [Int.reduceAdd]; rfl) | rfl) ?_
  refine vr_iload_n (q := 36) dX4_become_35 rfl rfl ?_
  refine vr_aload_n (q := 37) dX4_become_36 rfl rfl ?_
  refine vr_getR (q := 40) dX4_become_37 rfl fX4_21 rfl y_X4_3 (by first | (simp only [Int.reduceAdd]; rfl) | rfl) ?_
  refine vr_iload_n (q := 41) dX4_become_40 rfl rfl ?_
  refine vr_ialdV (q := 42) dX4_become_41 rfl ⟨by omega, by omega⟩ (congrFun (ms_n (by omega) (by omega)) _) ?_
  refine vr_iast (q := 43) dX4_become_42 rfl ⟨by omega, by omega⟩ ?_
  -- at X4.become 43: .iinc 2 1
  rw [ms_q _ _ _ _ (by decide)]
  refine vr_iinc (q := 46) dX4_become_43 rfl rfl ⟨by omega, by omega⟩ (Nat.le_of_ble_eq_true rfl) rfl rfl ?_
  refine vr_goto (q := 26) dX4_become_46 (by decide) ?_
  refine vr_iload_n (q := 27) dX4_become_26 rfl rfl ?_
  refine vr_iconst (q := 28) dX4_become_27 rfl ⟨by decide, by decide⟩ ?_
  -- at X4.become 28: .if_icmp .ge 21
  refine vr_ic_ge (t := 49) (q := 31) dX4_become_28 (by decide) rfl (fun _ => ?_) (fun c9 => absurd c9 (by omega))
  refine vr_vret dX4_become_49 rfl ?_
  exact kk
end PN_
