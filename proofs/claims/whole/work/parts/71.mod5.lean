/-- the mind of stranger s of the reference's town -/
def mne_ (h : SH_) (s : Int) : MU_ := (h 74 (22 + 4 * s), h 74 (22 + 4 * s + 1), pc_ (h 74 (22 + 4 * s + 2)), cn_ (fun l => h 74 (4 + 3 * l + 2)) (h 74 (22 + 4 * s + 3)) (h 74 2).toNat)
theorem mne_mo {h : SH_} {s : Int} (o : mt_ h) (hs : 0 ≤ s ∧ s < h 74 3) : mo_ 6 (mne_ h s) := by
  obtain ⟨o1, o2, o3, o4, o5⟩ := o
  obtain ⟨a1, a2, a3, a4⟩ := o5 s hs.1 hs.2
  refine ⟨a1, a2, pc_r, fun t t0 t1 => ?_⟩
  have h2 := cn_r (tp := fun l => h 74 (4 + 3 * l + 2)) (s := h 74 (22 + 4 * s + 3)) (n := (h 74 2).toNat) (fun l p q => (o4 l p (by omega)).2.2) t t0 t1
  exact ⟨h2.1, by have := h2.2; show q4_ (cn_ (fun l => h 74 (4 + 3 * l + 2)) (h 74 (22 + 4 * s + 3)) (h 74 2).toNat) t ≤ 6; omega⟩
section PM5_
variable {g : SG_} {d : Nat} {h : SH_} {Post : Option SV_ → SH_ → Prop}
theorem l_tries {s a b c : Int} (hs : 0 ≤ s ∧ s < 4) (hl : 0 ≤ h 74 2 ∧ h 74 2 ≤ 6) (ht : ∀ l, 0 ≤ l → l < h 74 2 → 0 ≤ h 74 (4 + 3 * l + 2) ∧ h 74 (4 + 3 * l + 2) < 4) (kk : Post none (mw_ h (a, b, c, cn_ (fun l => h 74 (4 + 3 * l + 2)) (h 74 (22 + 4 * s + 3)) (h 74 2).toNat))) : ∀ (m : Nat) (i : Nat), (i : Int) + m = h 74 2 → V_ g (d + 1) mX9_tries 68 [some (sv_r 4 8 68), some (sv_i s), some (sv_i (22 + 4 * s)), some (sv_i i)] [] (mw_ h (a, b, c, cn_ (fun l => h 74 (4 + 3 * l + 2)) (h 74 (22 + 4 * s + 3)) i)) Post := by
  intro m
  induction m with
  | zero =>
    intro i hi
    refine vr_iload_n (q := 69) dX9_tries_68 rfl rfl ?_
    refine vr_aload_n (q := 70) dX9_tries_69 rfl rfl ?_
    refine vr_getR (q := 73) dX9_tries_70 rfl fX9_25 rfl y_X9_13 (by first | (simp only [Int.reduceAdd]; rfl) | rfl) ?_
    refine vr_iconst (q := 74) dX9_tries_73 rfl ⟨by decide, by decide⟩ ?_
    refine vr_ialdV (q := 75) dX9_tries_74 rfl ⟨by omega, by omega⟩ (congrFun (mw_n (by decide) (by decide)) 2) ?_
    -- at X9.tries 75: .if_icmp .ge 49
    refine vr_ic_ge (t := 124) (q := 78) dX9_tries_75 (by decide) rfl (fun _ => ?_) (fun c9 => absurd c9 (by omega))
    refine vr_vret dX9_tries_124 rfl ?_
    rw [show (h 74 2).toNat = i by omega] at kk
    exact kk
  | succ m ih =>
    intro i hi
    have h1 := ht i (by omega) (by omega)
    have h2 := cn_r (tp := fun l => h 74 (4 + 3 * l + 2)) (s := h 74 (22 + 4 * s + 3)) (n := i) (fun l p q => ht l p (by omega)) (h 74 (4 + 3 * i + 2)) h1.1 h1.2
    have h3 := bt_01 (h 74 (22 + 4 * s + 3)) i
    have k2 := ih (i + 1) (by omega)
    have e : cn_ (fun l => h 74 (4 + 3 * l + 2)) (h 74 (22 + 4 * s + 3)) (i + 1) = u4_ (cn_ (fun l => h 74 (4 + 3 * l + 2)) (h 74 (22 + 4 * s + 3)) i) (h 74 (4 + 3 * i + 2)) (q4_ (cn_ (fun l => h 74 (4 + 3 * l + 2)) (h 74 (22 + 4 * s + 3)) i) (h 74 (4 + 3 * i + 2)) + bt_ (h 74 (22 + 4 * s + 3)) i) := rfl
    rw [e] at k2
    generalize cn_ (fun l => h 74 (4 + 3 * l + 2)) (h 74 (22 + 4 * s + 3)) i = qq at h2 k2 ⊢
    have k3 := mw_q h (a, b, c, qq) (q4_ qq (h 74 (4 + 3 * i + 2)) + bt_ (h 74 (22 + 4 * s + 3)) i) h1
    dsimp only at k3
    rw [← k3] at k2
    refine vr_iload_n (q := 69) dX9_tries_68 rfl rfl ?_
    refine vr_aload_n (q := 70) dX9_tries_69 rfl rfl ?_
    refine vr_getR (q := 73) dX9_tries_70 rfl fX9_25 rfl y_X9_13 (by first | (simp only [Int.reduceAdd]; rfl) | rfl) ?_
    refine vr_iconst (q := 74) dX9_tries_73 rfl ⟨by decide, by decide⟩ ?_
    refine vr_ialdV (q := 75) dX9_tries_74 rfl ⟨by omega, by omega⟩ (congrFun (mw_n (by decide) (by decide)) 2) ?_
    -- at X9.tries 75: .if_icmp .ge 49
    refine vr_ic_ge (t := 124) (q := 78) dX9_tries_75 (by decide) rfl (fun c9 => absurd c9 (by omega)) (fun _ => ?_)
    refine vr_aload_n (q := 79) dX9_tries_78 rfl rfl ?_
    refine vr_getR (q := 82) dX9_tries_79 rfl fX9_44 rfl y_X9_24 (by first | (simp only [Int.reduceAdd]; rfl) | rfl) ?_
    refine vr_aload_n (q := 83) dX9_tries_82 rfl rfl ?_
    refine vr_getR (q := 86) dX9_tries_83 rfl fX9_25 rfl y_X9_13 (by first | (simp only [Int.reduceAdd]; rfl) | rfl) ?_
    refine vr_iconst (q := 87) dX9_tries_86 rfl ⟨by decide, by decide⟩ ?_
    refine vr_iconst (q := 88) dX9_tries_87 rfl ⟨by decide, by decide⟩ ?_
    refine vr_iload_n (q := 89) dX9_tries_88 rfl rfl ?_
    refine vr_imulN (q := 90) dX9_tries_89 rfl ⟨by omega, by omega⟩ ?_
    refine vr_iaddN (q := 91) dX9_tries_90 rfl ⟨by omega, by omega⟩ ?_
    refine vr_iconst (q := 92) dX9_tries_91 rfl ⟨by decide, by decide⟩ ?_
    refine vr_iaddN (q := 93) dX9_tries_92 rfl ⟨by omega, by omega⟩ ?_
    refine vr_ialdV (q := 94) dX9_tries_93 rfl ⟨by omega, by omega⟩ (congrFun (mw_n (by decide) (by decide)) _) ?_
    refine vr_dup2 (q := 95) dX9_tries_94 rfl rfl rfl ?_
    refine vr_ialdV (q := 96) dX9_tries_95 rfl ⟨by omega, by omega⟩ (show _ = q4_ qq (h 74 (4 + 3 * i + 2)) from mw_t h1) ?_
    refine vr_aload_n (q := 97) dX9_tries_96 rfl rfl ?_
    refine vr_getR (q := 100) dX9_tries_97 rfl fX9_25 rfl y_X9_13 (by first | (simp only [Int.reduceAdd]; rfl) | rfl) ?_
    refine vr_iload_n (q := 101) dX9_tries_100 rfl rfl ?_
    refine vr_iconst (q := 102) dX9_tries_101 rfl ⟨by decide, by decide⟩ ?_
    refine vr_iaddN (q := 103) dX9_tries_102 rfl ⟨by omega, by omega⟩ ?_
    refine vr_ialdV (q := 104) dX9_tries_103 rfl ⟨by omega, by omega⟩ (congrFun (mw_n (by decide) (by decide)) _) ?_
    refine vr_iload_n (q := 105) dX9_tries_104 rfl rfl ?_
    -- at X9.tries 105: .invokestatic 156
    refine vr_is2 (q := 108) dX9_tries_105 rfl vX9_156 (Nat.le_of_ble_eq_true rfl) ?_
    refine m_has (fun z => ?_) (fun z => ?_)
    · rw [show bt_ (h 74 (22 + 4 * s + 3)) i = 1 by omega] at k2
      refine vr_if_eq (t := 115) (q := 111) dX9_tries_108 (by decide) rfl (fun c9 => absurd c9 (by omega)) (fun _ => ?_)
      refine vr_iconst (q := 112) dX9_tries_111 rfl ⟨by decide, by decide⟩ ?_
      refine vr_goto (q := 116) dX9_tries_112 (by decide) ?_
      refine vr_iaddN (q := 117) dX9_tries_116 rfl ⟨by omega, by omega⟩ ?_
      refine vr_iast (q := 118) dX9_tries_117 rfl ⟨by omega, by omega⟩ ?_
      refine vr_iinc (q := 121) dX9_tries_118 rfl rfl ⟨by omega, by omega⟩ (Nat.le_of_ble_eq_true rfl) rfl rfl ?_
      refine vr_goto (q := 68) dX9_tries_121 (by decide) ?_
      -- at X9.tries 68: .iload_n 3
      exact k2
    · rw [z] at k2
      refine vr_if_eq (t := 115) (q := 111) dX9_tries_108 (by decide) rfl (fun _ => ?_) (fun c9 => absurd c9 (by omega))
      refine vr_iconst (q := 116) dX9_tries_115 rfl ⟨by decide, by decide⟩ ?_
      refine vr_iaddN (q := 117) dX9_tries_116 rfl ⟨by omega, by omega⟩ ?_
      refine vr_iast (q := 118) dX9_tries_117 rfl ⟨by omega, by omega⟩ ?_
      refine vr_iinc (q := 121) dX9_tries_118 rfl rfl ⟨by omega, by omega⟩ (Nat.le_of_ble_eq_true rfl) rfl rfl ?_
      refine vr_goto (q := 68) dX9_tries_121 (by decide) ?_
      -- at X9.tries 68: .iload_n 3
      exact k2
theorem m_tries {s : Int} (hs : 0 ≤ s ∧ s < 4) (hl : 0 ≤ h 74 2 ∧ h 74 2 ≤ 6) (ht : ∀ l, 0 ≤ l → l < h 74 2 → 0 ≤ h 74 (4 + 3 * l + 2) ∧ h 74 (4 + 3 * l + 2) < 4) (hd : 0 ≤ h 74 (22 + 4 * s + 2) ∧ h 74 (22 + 4 * s + 2) < 64) (kk : Post none (mw_ h (mne_ h s))) : Ctr_ g (d + 1) mX9_tries [sv_r 4 8 68, sv_i s] h Post := by
  refine V_mk (by decide +kernel) (Or.inl ⟨rfl, rfl⟩) (Nat.le_of_ble_eq_true rfl) (by simp [sv_c]) ?_
  show V_ _ _ _ 0 [_, _, _, _] [] _ _
  refine vr_bipush (q := 2) dX9_tries_0 rfl ⟨by decide, by decide⟩ (by decide) ?_
  refine vr_iconst (q := 3) dX9_tries_2 rfl ⟨by decide, by decide⟩ ?_
  refine vr_iload_n (q := 4) dX9_tries_3 rfl rfl ?_
  refine vr_imulN (q := 5) dX9_tries_4 rfl ⟨by omega, by omega⟩ ?_
  refine vr_iaddN (q := 6) dX9_tries_5 rfl ⟨by omega, by omega⟩ ?_
  refine vr_istore_n (q := 7) dX9_tries_6 rfl rfl (Nat.le_of_ble_eq_true rfl) rfl rfl ?_
  refine vr_aload_n (q := 8) dX9_tries_7 rfl rfl ?_
  refine vr_aload_n (q := 9) dX9_tries_8 rfl rfl ?_
  refine vr_getR (q := 12) dX9_tries_9 rfl fX9_25 rfl y_X9_13 (by first | (simp only [Int.reduceAdd]; rfl) | rfl) ?_
  refine vr_iload_n (q := 13) dX9_tries_12 rfl rfl ?_
  refine vr_iconst (q := 14) dX9_tries_13 rfl ⟨by decide, by decide⟩ ?_
  refine vr_iaddN (q := 15) dX9_tries_14 rfl ⟨by omega, by omega⟩ ?_
  refine vr_ialdV (q := 16) dX9_tries_15 rfl ⟨by omega, by omega⟩ (show _ = h 74 (22 + 4 * s) by rw [Int.add_zero]) ?_
  refine vr_put (ji := 21) (q := 19) dX9_tries_16 rfl pX9_144 rfl rfl ?_
  -- at X9.tries 19: .aload_n 0
  rw [hs_w21]
  refine vr_aload_n (q := 20) dX9_tries_19 rfl rfl ?_
  refine vr_aload_n (q := 21) dX9_tries_20 rfl rfl ?_
  refine vr_getR (q := 24) dX9_tries_21 rfl fX9_25 rfl y_X9_13 (by first | (simp only [Int.reduceAdd]; rfl) | rfl) ?_
  refine vr_iload_n (q := 25) dX9_tries_24 rfl rfl ?_
  refine vr_iconst (q := 26) dX9_tries_25 rfl ⟨by decide, by decide⟩ ?_
  refine vr_iaddN (q := 27) dX9_tries_26 rfl ⟨by omega, by omega⟩ ?_
  refine vr_ialdV (q := 28) dX9_tries_27 rfl ⟨by omega, by omega⟩ (congrFun (mw_n (by decide) (by decide)) _) ?_
  refine vr_put (ji := 22) (q := 31) dX9_tries_28 rfl pX9_147 rfl rfl ?_
  -- at X9.tries 31: .aload_n 0
  rw [mw_h22]
  refine vr_aload_n (q := 32) dX9_tries_31 rfl rfl ?_
  refine vr_aload_n (q := 33) dX9_tries_32 rfl rfl ?_
  refine vr_getR (q := 36) dX9_tries_33 rfl fX9_25 rfl y_X9_13 (by first | (simp only [Int.reduceAdd]; rfl) | rfl) ?_
  refine vr_iload_n (q := 37) dX9_tries_36 rfl rfl ?_
  refine vr_iconst (q := 38) dX9_tries_37 rfl ⟨by decide, by decide⟩ ?_
  refine vr_iaddN (q := 39) dX9_tries_38 rfl ⟨by omega, by omega⟩ ?_
  refine vr_ialdV (q := 40) dX9_tries_39 rfl ⟨by omega, by omega⟩ (congrFun (mw_n (by decide) (by decide)) _) ?_
  -- at X9.tries 40: .invokestatic 150
  refine vr_is1 (q := 43) dX9_tries_40 rfl vX9_150 (Nat.le_of_ble_eq_true rfl) ?_
  refine m_ones hd ?_
  refine vr_put (ji := 23) (q := 46) dX9_tries_43 rfl pX9_153 rfl rfl ?_
  -- at X9.tries 46: .iconst 0
  rw [mw_h23]
  refine vr_iconst (q := 47) dX9_tries_46 rfl ⟨by decide, by decide⟩ ?_
  refine vr_istore_n (q := 48) dX9_tries_47 rfl rfl (Nat.le_of_ble_eq_true rfl) rfl rfl ?_
  refine vr_iload_n (q := 49) dX9_tries_48 rfl rfl ?_
  refine vr_iconst (q := 50) dX9_tries_49 rfl ⟨by decide, by decide⟩ ?_
  -- at X9.tries 50: .if_icmp .ge 16
  refine vr_ic_ge (t := 66) (q := 53) dX9_tries_50 (by decide) rfl (fun c9 => absurd c9 (by omega)) (fun _ => ?_)
  refine vr_aload_n (q := 54) dX9_tries_53 rfl rfl ?_
  refine vr_getR (q := 57) dX9_tries_54 rfl fX9_44 rfl y_X9_24 (by first | (simp only [Int.reduceAdd]; rfl) | rfl) ?_
  refine vr_iload_n (q := 58) dX9_tries_57 rfl rfl ?_
  refine vr_iconst (q := 59) dX9_tries_58 rfl ⟨by decide, by decide⟩ ?_
  refine vr_iast (q := 60) dX9_tries_59 rfl ⟨by omega, by omega⟩ ?_
  refine vr_iinc (q := 63) dX9_tries_60 rfl rfl ⟨by omega, by omega⟩ (Nat.le_of_ble_eq_true rfl) rfl rfl ?_
  refine vr_goto (q := 48) dX9_tries_63 (by decide) ?_
  refine vr_iload_n (q := 49) dX9_tries_48 rfl rfl ?_
  refine vr_iconst (q := 50) dX9_tries_49 rfl ⟨by decide, by decide⟩ ?_
  -- at X9.tries 50: .if_icmp .ge 16
  refine vr_ic_ge (t := 66) (q := 53) dX9_tries_50 (by decide) rfl (fun c9 => absurd c9 (by omega)) (fun _ => ?_)
  refine vr_aload_n (q := 54) dX9_tries_53 rfl rfl ?_
  refine vr_getR (q := 57) dX9_tries_54 rfl fX9_44 rfl y_X9_24 (by first | (simp only [Int.reduceAdd]; rfl) | rfl) ?_
  refine vr_iload_n (q := 58) dX9_tries_57 rfl rfl ?_
  refine vr_iconst (q := 59) dX9_tries_58 rfl ⟨by decide, by decide⟩ ?_
  refine vr_iast (q := 60) dX9_tries_59 rfl ⟨by omega, by omega⟩ ?_
  refine vr_iinc (q := 63) dX9_tries_60 rfl rfl ⟨by omega, by omega⟩ (Nat.le_of_ble_eq_true rfl) rfl rfl ?_
  refine vr_goto (q := 48) dX9_tries_63 (by decide) ?_
  refine vr_iload_n (q := 49) dX9_tries_48 rfl rfl ?_
  refine vr_iconst (q := 50) dX9_tries_49 rfl ⟨by decide, by decide⟩ ?_
  -- at X9.tries 50: .if_icmp .ge 16
  refine vr_ic_ge (t := 66) (q := 53) dX9_tries_50 (by decide) rfl (fun c9 => absurd c9 (by omega)) (fun _ => ?_)
  refine vr_aload_n (q := 54) dX9_tries_53 rfl rfl ?_
  refine vr_getR (q := 57) dX9_tries_54 rfl fX9_44 rfl y_X9_24 (by first | (simp only [Int.reduceAdd]; rfl) | rfl) ?_
  refine vr_iload_n (q := 58) dX9_tries_57 rfl rfl ?_
  refine vr_iconst (q := 59) dX9_tries_58 rfl ⟨by decide, by decide⟩ ?_
  refine vr_iast (q := 60) dX9_tries_59 rfl ⟨by omega, by omega⟩ ?_
  refine vr_iinc (q := 63) dX9_tries_60 rfl rfl ⟨by omega, by omega⟩ (Nat.le_of_ble_eq_true rfl) rfl rfl ?_
  refine vr_goto (q := 48) dX9_tries_63 (by decide) ?_
  refine vr_iload_n (q := 49) dX9_tries_48 rfl rfl ?_
  refine vr_iconst (q := 50) dX9_tries_49 rfl ⟨by decide, by decide⟩ ?_
  -- at X9.tries 50: .if_icmp .ge 16
  refine vr_ic_ge (t := 66) (q := 53) dX9_tries_50 (by decide) rfl (fun c9 => absurd c9 (by omega)) (fun _ => ?_)
  refine vr_aload_n (q := 54) dX9_tries_53 rfl rfl ?_
  refine vr_getR (q := 57) dX9_tries_54 rfl fX9_44 rfl y_X9_24 (by first | (simp only [Int.reduceAdd]; rfl) | rfl) ?_
  refine vr_iload_n (q := 58) dX9_tries_57 rfl rfl ?_
  refine vr_iconst (q := 59) dX9_tries_58 rfl ⟨by decide, by decide⟩ ?_
  refine vr_iast (q := 60) dX9_tries_59 rfl ⟨by omega, by omega⟩ ?_
  refine vr_iinc (q := 63) dX9_tries_60 rfl rfl ⟨by omega, by omega⟩ (Nat.le_of_ble_eq_true rfl) rfl rfl ?_
  refine vr_goto (q := 48) dX9_tries_63 (by decide) ?_
  refine vr_iload_n (q := 49) dX9_tries_48 rfl rfl ?_
  refine vr_iconst (q := 50) dX9_tries_49 rfl ⟨by decide, by decide⟩ ?_
  -- at X9.tries 50: .if_icmp .ge 16
  refine vr_ic_ge (t := 66) (q := 53) dX9_tries_50 (by decide) rfl (fun _ => ?_) (fun c9 => absurd c9 (by omega))
  refine vr_iconst (q := 67) dX9_tries_66 rfl ⟨by decide, by decide⟩ ?_
  refine vr_istore_n (q := 68) dX9_tries_67 rfl rfl (Nat.le_of_ble_eq_true rfl) rfl rfl ?_
  -- at X9.tries 68: .iload_n 3
  rw [mw_q _ _ _ (by decide), mw_q _ _ _ (by decide), mw_q _ _ _ (by decide), mw_q _ _ _ (by decide)]
  exact l_tries hs hl ht kk (h 74 2).toNat 0 (by omega)
end PM5_
