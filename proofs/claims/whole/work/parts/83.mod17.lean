/-- the traces are alike -/
def trc_ (p h : SH_) : Prop := (0 ≤ p 66 1 ∧ p 66 1 ≤ 16) ∧ h 68 20 = p 66 1 ∧ ∀ i, 0 ≤ i → i < p 66 1 → h 79 i = p 67 i
/-- nothing but the reference's trace has changed -/
def tkp_ (h hc : SH_) : Prop := (∀ a, a ≠ 68 → a ≠ 79 → hc a = h a) ∧ ∀ b, b ≠ 20 → hc 68 b = h 68 b
theorem tkp_r (h : SH_) : tkp_ h h := ⟨fun _ _ _ => rfl, fun _ _ => rfl⟩
theorem tkp_t {h h1 h2 : SH_} (a : tkp_ h h1) (b : tkp_ h1 h2) : tkp_ h h2 := ⟨fun x x1 x2 => (b.1 x x1 x2).trans (a.1 x x1 x2), fun x hx => (b.2 x hx).trans (a.2 x hx)⟩
theorem tkp_c {p h hc : SH_} (a : tkp_ h hc) (c : cpl_ p h) : cpl_ p hc := cpl_k (a.1 74 (by decide) (by decide)) c
theorem cpl_p {p q h : SH_} (e : ∀ a, 7 ≤ a → a ≤ 14 → q a = p a) (c : cpl_ p h) : cpl_ q h := by
  unfold cpl_ at c ⊢
  rw [e 7 (by decide) (by decide), e 8 (by decide) (by decide), e 9 (by decide) (by decide), e 10 (by decide) (by decide), e 11 (by decide) (by decide), e 12 (by decide) (by decide), e 13 (by decide) (by decide), e 14 (by decide) (by decide)]
  exact ⟨to_k e c.1, c.2⟩
theorem cpl_l {p h : SH_} {b : Int} (c : cpl_ p h) : cpl_ (lt_ p b) h := cpl_p (fun a _ _ => lt_k (by omega) (by omega)) c
section PM17_
variable {g : SG_} {d : Nat} {h p : SH_} {Post : Option SV_ → SH_ → Prop}
theorem m_begins {b : Int} (t : trc_ p h) (kk : ∀ hc, trc_ (lt_ p b) hc → tkp_ h hc → Post none hc) : Ctr_ g d mX9_begins [sv_r 4 8 68, sv_i b] h Post := by
  obtain ⟨t1, t2, t3⟩ := id t
  by_cases cl : p 66 1 < 16
  · have k2 := kk (hs_ (hs_ h 79 (p 66 1) b) 68 20 (p 66 1 + 1)) (by
      unfold lt_
      rw [if_pos cl]
      refine ⟨?_, ?_, fun i i0 i1 => ?_⟩
      · rw [hs_e]; omega
      · rw [hs_e, hs_e]
      · rw [hs_e] at i1
        rw [hs_k (by decide : (79 : Int) ≠ 68), hs_k (by decide : (67 : Int) ≠ 66)]
        by_cases ci : i = p 66 1
        · rw [ci, hs_e, hs_e]
        · rw [hs_n (by omega), hs_n (by omega)]
          exact t3 i i0 (by omega)) ⟨fun a a1 a2 => by rw [hs_k a1, hs_k a2], fun b hb => by rw [hs_n (by omega), hs_k (by decide)]⟩
    refine V_mk (by decide +kernel) (Or.inl ⟨rfl, rfl⟩) (Nat.le_of_ble_eq_true rfl) (by simp [sv_c]) ?_
    show V_ _ _ _ 0 [_, _] [] _ _
    refine vr_aload_n (q := 1) dX9_begins_0 rfl rfl ?_
    refine vr_getV (ji := 20) (q := 4) dX9_begins_1 rfl fX9_234 rfl rfl t2 ?_
    refine vr_bipush (q := 6) dX9_begins_4 rfl ⟨by decide, by decide⟩ (by decide) ?_
    -- at X9.begins 6: .if_icmp .ge 23
    refine vr_ic_ge (t := 29) (q := 9) dX9_begins_6 (by decide) rfl (fun c9 => absurd c9 (by omega)) (fun _ => ?_)
    refine vr_aload_n (q := 10) dX9_begins_9 rfl rfl ?_
    refine vr_getR (q := 13) dX9_begins_10 rfl fX9_41 rfl y_X9_19 (by first | (simp only [Int.reduceAdd]; rfl) | rfl) ?_
    refine vr_aload_n (q := 14) dX9_begins_13 rfl rfl ?_
    refine vr_getV (ji := 20) (q := 17) dX9_begins_14 rfl fX9_234 rfl rfl t2 ?_
    refine vr_iload_n (q := 18) dX9_begins_17 rfl rfl ?_
    refine vr_iast (q := 19) dX9_begins_18 rfl ⟨by omega, by omega⟩ ?_
    refine vr_aload_n (q := 20) dX9_begins_19 rfl rfl ?_
    refine vr_dup (q := 21) dX9_begins_20 rfl rfl ?_
    refine vr_getV (ji := 20) (q := 24) dX9_begins_21 rfl fX9_234 rfl rfl (show _ = p 66 1 by rw [hs_k (by decide)]; exact t2) ?_
    refine vr_iconst (q := 25) dX9_begins_24 rfl ⟨by decide, by decide⟩ ?_
    refine vr_iaddN (q := 26) dX9_begins_25 rfl ⟨by omega, by omega⟩ ?_
    refine vr_put (ji := 20) (q := 29) dX9_begins_26 rfl pX9_234 rfl rfl ?_
    -- at X9.begins 29: .return_
    refine vr_vret dX9_begins_29 rfl ?_
    exact k2
  · have k2 := kk h (by unfold lt_; rw [if_neg cl]; exact t) (tkp_r h)
    refine V_mk (by decide +kernel) (Or.inl ⟨rfl, rfl⟩) (Nat.le_of_ble_eq_true rfl) (by simp [sv_c]) ?_
    show V_ _ _ _ 0 [_, _] [] _ _
    refine vr_aload_n (q := 1) dX9_begins_0 rfl rfl ?_
    refine vr_getV (ji := 20) (q := 4) dX9_begins_1 rfl fX9_234 rfl rfl t2 ?_
    refine vr_bipush (q := 6) dX9_begins_4 rfl ⟨by decide, by decide⟩ (by decide) ?_
    -- at X9.begins 6: .if_icmp .ge 23
    refine vr_ic_ge (t := 29) (q := 9) dX9_begins_6 (by decide) rfl (fun _ => ?_) (fun c9 => absurd c9 (by omega))
    refine vr_vret dX9_begins_29 rfl ?_
    exact k2
theorem trc_0 {v : Int} (t : trc_ p h) : trc_ (hs_ p 66 1 0) (hs_ h 68 20 0) := by
  refine ⟨?_, ?_, fun i i0 i1 => ?_⟩
  · rw [hs_e]; decide
  · rw [hs_e, hs_e]
  · rw [hs_e] at i1
    exact absurd i1 (by omega)
theorem m_nodA {l : Int} (c : cpl_ p h) (kk : Post (some (sv_i (nn_ p l))) h) : Ctr_ g (d + 2) mX9_noddedAt [sv_r 4 8 68, sv_i l] h Post := by
  have e3 := c.2.1.2.2.2
  refine m_noddedAt (by rw [e3]; exact c.1.2.1) ?_
  unfold nn_ at kk
  rw [e3]
  have e : ∀ n : Nat, (n : Int) ≤ p 7 3 → ws_ (fun s => h 74 (22 + 4 * s + 3)) l n = ws_ (p 14) l n := by
    intro n
    induction n with
    | zero => intro _; rfl
    | succ n ih =>
      intro hn
      show ws_ (fun s => h 74 (22 + 4 * s + 3)) l n + bt_ (h 74 (22 + 4 * (n : Int) + 3)) l = ws_ (p 14) l n + bt_ (p 14 n) l
      rw [ih (by omega), (c.2.2.2 n (by omega) (by omega)).2.2.2]
  rw [e _ (by have := c.1.2.1; omega)]
  exact kk
theorem m_easyMark {l : Int} (c : cpl_ p h) (t : trc_ p h) (hl : 0 ≤ l ∧ l < p 7 2) (hk : 1 ≤ p 8 l ∧ p 8 l ≤ 3) (kk : ∀ hc, trc_ (me_ p l) hc → tkp_ h hc → Post (some (sv_i (ve_ p l))) hc) : Ctr_ g (d + 3) mX9_easyMark [sv_r 4 8 68, sv_i l] h Post := by
  have o1 := c.1.1
  have hn : 0 ≤ nn_ p l ∧ nn_ p l ≤ 4 := by
    have z := ws_r (p 14) l (p 7 3).toNat
    have z2 := c.1.2.1
    unfold nn_
    omega
  have k1 := (c.2.2.1 l hl.1 hl.2).1
  unfold me_ ve_ at kk
  refine V_mk (by decide +kernel) (Or.inr (Or.inl ⟨rfl, rfl⟩)) (Nat.le_of_ble_eq_true rfl) (by simp [sv_c]) ?_
  show V_ _ _ _ 0 [_, _, _, _] [] _ _
  refine vr_aload_n (q := 1) dX9_easyMark_0 rfl rfl ?_
  refine vr_iload_n (q := 2) dX9_easyMark_1 rfl rfl ?_
  -- at X9.easyMark 2: .invokevirtual 231
  refine vr_iv1 (q := 5) dX9_easyMark_2 rfl vX9_231 (Nat.le_of_ble_eq_true rfl) ?_
  refine m_kindIn ⟨by omega, by omega⟩ ?_
  rw [k1]
  have fin : ∀ (q h1 : SH_), trc_ q h1 → tkp_ h h1 → (∀ hc, trc_ (lt_ (lt_ q 21) 20) hc → tkp_ h hc → Post (some (sv_i (ve_ p l))) hc) → V_ g (d + 3) mX9_easyMark 27 [some (sv_r 4 8 68), some (sv_i l), some (sv_i (p 8 l)), none] [] h1 Post := by
    intro q h1 t1 u1 kq
    refine vr_aload_n (q := 28) dX9_easyMark_27 rfl rfl ?_
    refine vr_bipush (q := 30) dX9_easyMark_28 rfl ⟨by decide, by decide⟩ (by decide) ?_
    -- at X9.easyMark 30: .invokevirtual 237
    refine vr_iv1 (q := 33) dX9_easyMark_30 rfl vX9_237 (Nat.le_of_ble_eq_true rfl) ?_
    refine m_begins t1 (fun h2 t2 u2 => ?_)
    refine vr_aload_n (q := 34) dX9_easyMark_33 rfl rfl ?_
    refine vr_bipush (q := 36) dX9_easyMark_34 rfl ⟨by decide, by decide⟩ (by decide) ?_
    -- at X9.easyMark 36: .invokevirtual 237
    refine vr_iv1 (q := 39) dX9_easyMark_36 rfl vX9_237 (Nat.le_of_ble_eq_true rfl) ?_
    refine m_begins t2 (fun h3 t3 u3 => ?_)
    have u4 := tkp_t u1 (tkp_t u2 u3)
    have kz := kq h3 t3 u4
    unfold ve_ at kz
    refine vr_iload_n (q := 40) dX9_easyMark_39 rfl rfl ?_
    refine vr_aload_n (q := 41) dX9_easyMark_40 rfl rfl ?_
    refine vr_iload_n (q := 42) dX9_easyMark_41 rfl rfl ?_
    -- at X9.easyMark 42: .invokevirtual 190
    refine vr_iv1 (q := 45) dX9_easyMark_42 rfl vX9_190 (Nat.le_of_ble_eq_true rfl) ?_
    refine m_nodA (tkp_c u4 c) ?_
    generalize p 8 l = kd at hk kz ⊢
    rcases (by omega : kd = 1 ∨ kd = 2 ∨ kd = 3) with rfl | rfl | rfl
    · refine vr_iaddN (q := 46) dX9_easyMark_45 rfl ⟨by omega, by omega⟩ ?_
      refine vr_istore_n (q := 47) dX9_easyMark_46 rfl rfl (Nat.le_of_ble_eq_true rfl) rfl rfl ?_
      refine vr_iload_n (q := 48) dX9_easyMark_47 rfl rfl ?_
      refine vr_iconst (q := 49) dX9_easyMark_48 rfl ⟨by decide, by decide⟩ ?_
      refine vr_ic_ne (t := 58) (q := 52) dX9_easyMark_49 (by decide) rfl (fun _ => ?_) (fun c9 => absurd c9 (by omega))
      refine vr_iload_n (q := 59) dX9_easyMark_58 rfl rfl ?_
      refine vr_iconst (q := 60) dX9_easyMark_59 rfl ⟨by decide, by decide⟩ ?_
      refine vr_ic_ne (t := 71) (q := 63) dX9_easyMark_60 (by decide) rfl (fun _ => ?_) (fun c9 => absurd c9 (by omega))
      refine vr_iload_n (q := 72) dX9_easyMark_71 rfl rfl ?_
      refine vr_iret dX9_easyMark_72 rfl ?_
      exact kz
    · refine vr_iaddN (q := 46) dX9_easyMark_45 rfl ⟨by omega, by omega⟩ ?_
      refine vr_istore_n (q := 47) dX9_easyMark_46 rfl rfl (Nat.le_of_ble_eq_true rfl) rfl rfl ?_
      refine vr_iload_n (q := 48) dX9_easyMark_47 rfl rfl ?_
      refine vr_iconst (q := 49) dX9_easyMark_48 rfl ⟨by decide, by decide⟩ ?_
      refine vr_ic_ne (t := 58) (q := 52) dX9_easyMark_49 (by decide) rfl (fun c9 => absurd c9 (by omega)) (fun _ => ?_)
      refine vr_iconst (q := 53) dX9_easyMark_52 rfl ⟨by decide, by decide⟩ ?_
      refine vr_iload_n (q := 54) dX9_easyMark_53 rfl rfl ?_
      refine vr_imulN (q := 55) dX9_easyMark_54 rfl ⟨by omega, by omega⟩ ?_
      refine vr_goto (q := 72) dX9_easyMark_55 (by decide) ?_
      refine vr_iret dX9_easyMark_72 rfl ?_
      exact kz
    · refine vr_iaddN (q := 46) dX9_easyMark_45 rfl ⟨by omega, by omega⟩ ?_
      refine vr_istore_n (q := 47) dX9_easyMark_46 rfl rfl (Nat.le_of_ble_eq_true rfl) rfl rfl ?_
      refine vr_iload_n (q := 48) dX9_easyMark_47 rfl rfl ?_
      refine vr_iconst (q := 49) dX9_easyMark_48 rfl ⟨by decide, by decide⟩ ?_
      refine vr_ic_ne (t := 58) (q := 52) dX9_easyMark_49 (by decide) rfl (fun _ => ?_) (fun c9 => absurd c9 (by omega))
      refine vr_iload_n (q := 59) dX9_easyMark_58 rfl rfl ?_
      refine vr_iconst (q := 60) dX9_easyMark_59 rfl ⟨by decide, by decide⟩ ?_
      refine vr_ic_ne (t := 71) (q := 63) dX9_easyMark_60 (by decide) rfl (fun c9 => absurd c9 (by omega)) (fun _ => ?_)
      refine vr_iload_n (q := 64) dX9_easyMark_63 rfl rfl ?_
      refine vr_sipush (q := 67) dX9_easyMark_64 rfl ⟨by decide, by decide⟩ (by decide) ?_
      refine vr_isubN (q := 68) dX9_easyMark_67 rfl ⟨by omega, by omega⟩ ?_
      refine vr_goto (q := 72) dX9_easyMark_68 (by decide) ?_
      refine vr_iret dX9_easyMark_72 rfl ?_
      exact kz
  unfold ve_ at fin
  generalize p 8 l = kd at hk kk fin ⊢
  rcases (by omega : kd = 1 ∨ kd = 2 ∨ kd = 3) with rfl | rfl | rfl
  · refine vr_istore_n (q := 6) dX9_easyMark_5 rfl rfl (Nat.le_of_ble_eq_true rfl) rfl rfl ?_
    refine vr_iload_n (q := 7) dX9_easyMark_6 rfl rfl ?_
    refine vr_iconst (q := 8) dX9_easyMark_7 rfl ⟨by decide, by decide⟩ ?_
    refine vr_ic_eq (t := 27) (q := 11) dX9_easyMark_8 (by decide) rfl (fun _ => ?_) (fun c9 => absurd c9 (by omega))
    exact fin p h t (tkp_r h) kk
  · refine vr_istore_n (q := 6) dX9_easyMark_5 rfl rfl (Nat.le_of_ble_eq_true rfl) rfl rfl ?_
    refine vr_iload_n (q := 7) dX9_easyMark_6 rfl rfl ?_
    refine vr_iconst (q := 8) dX9_easyMark_7 rfl ⟨by decide, by decide⟩ ?_
    refine vr_ic_eq (t := 27) (q := 11) dX9_easyMark_8 (by decide) rfl (fun c9 => absurd c9 (by omega)) (fun _ => ?_)
    refine vr_aload_n (q := 12) dX9_easyMark_11 rfl rfl ?_
    refine vr_iload_n (q := 13) dX9_easyMark_12 rfl rfl ?_
    refine vr_iconst (q := 14) dX9_easyMark_13 rfl ⟨by decide, by decide⟩ ?_
    refine vr_ic_ne (t := 22) (q := 17) dX9_easyMark_14 (by decide) rfl (fun c9 => absurd c9 (by omega)) (fun _ => ?_)
    refine vr_bipush (q := 19) dX9_easyMark_17 rfl ⟨by decide, by decide⟩ (by decide) ?_
    refine vr_goto (q := 24) dX9_easyMark_19 (by decide) ?_
    refine vr_iv1 (q := 27) dX9_easyMark_24 rfl vX9_237 (Nat.le_of_ble_eq_true rfl) ?_
    refine m_begins t (fun h1 t1 u1 => ?_)
    exact fin _ h1 t1 u1 kk
  · refine vr_istore_n (q := 6) dX9_easyMark_5 rfl rfl (Nat.le_of_ble_eq_true rfl) rfl rfl ?_
    refine vr_iload_n (q := 7) dX9_easyMark_6 rfl rfl ?_
    refine vr_iconst (q := 8) dX9_easyMark_7 rfl ⟨by decide, by decide⟩ ?_
    refine vr_ic_eq (t := 27) (q := 11) dX9_easyMark_8 (by decide) rfl (fun c9 => absurd c9 (by omega)) (fun _ => ?_)
    refine vr_aload_n (q := 12) dX9_easyMark_11 rfl rfl ?_
    refine vr_iload_n (q := 13) dX9_easyMark_12 rfl rfl ?_
    refine vr_iconst (q := 14) dX9_easyMark_13 rfl ⟨by decide, by decide⟩ ?_
    refine vr_ic_ne (t := 22) (q := 17) dX9_easyMark_14 (by decide) rfl (fun _ => ?_) (fun c9 => absurd c9 (by omega))
    refine vr_bipush (q := 24) dX9_easyMark_22 rfl ⟨by decide, by decide⟩ (by decide) ?_
    refine vr_iv1 (q := 27) dX9_easyMark_24 rfl vX9_237 (Nat.le_of_ble_eq_true rfl) ?_
    refine m_begins t (fun h1 t1 u1 => ?_)
    exact fin _ h1 t1 u1 kk
theorem m_proofSize {l : Int} (c : cpl_ p h) (t : trc_ p h) (hl : 0 ≤ l ∧ l < p 7 2) (hk : 4 ≤ p 8 l ∧ p 8 l ≤ 5) (kk : ∀ hc, trc_ (mp_ p l) hc → tkp_ h hc → Post (some (sv_i (vp_ p l))) hc) : Ctr_ g (d + 1) mX9_proofSize [sv_r 4 8 68, sv_i l] h Post := by
  have o1 := c.1.1
  have hw := (c.1.2.2.2.1 l hl.1 hl.2).2.1
  have k1 := (c.2.2.1 l hl.1 hl.2).1
  have k2 := (c.2.2.1 l hl.1 hl.2).2.1
  unfold mp_ vp_ at kk
  refine V_mk (by decide +kernel) (Or.inr (Or.inl ⟨rfl, rfl⟩)) (Nat.le_of_ble_eq_true rfl) (by simp [sv_c]) ?_
  show V_ _ _ _ 0 [_, _, _, _] [] _ _
  refine vr_aload_n (q := 1) dX9_proofSize_0 rfl rfl ?_
  refine vr_iload_n (q := 2) dX9_proofSize_1 rfl rfl ?_
  -- at X9.proofSize 2: .invokevirtual 231
  refine vr_iv1 (q := 5) dX9_proofSize_2 rfl vX9_231 (Nat.le_of_ble_eq_true rfl) ?_
  refine m_kindIn ⟨by omega, by omega⟩ ?_
  rw [k1]
  have fin : ∀ (q h1 : SH_) (v : Int), (v = 0 ∨ v = 1) → trc_ q h1 → tkp_ h h1 → (∀ hc, trc_ (lt_ (lt_ q 13) 10) hc → tkp_ h hc → Post (some (sv_i (if v = 1 then 2 * (p 9 l - 100) else p 9 l - 100))) hc) → V_ g (d + 1) mX9_proofSize 25 [some (sv_r 4 8 68), some (sv_i l), some (sv_i v), none] [] h1 Post := by
    intro q h1 v hv t1 u1 kq
    refine vr_aload_n (q := 26) dX9_proofSize_25 rfl rfl ?_
    refine vr_bipush (q := 28) dX9_proofSize_26 rfl ⟨by decide, by decide⟩ (by decide) ?_
    -- at X9.proofSize 28: .invokevirtual 237
    refine vr_iv1 (q := 31) dX9_proofSize_28 rfl vX9_237 (Nat.le_of_ble_eq_true rfl) ?_
    refine m_begins t1 (fun h2 t2 u2 => ?_)
    refine vr_aload_n (q := 32) dX9_proofSize_31 rfl rfl ?_
    refine vr_bipush (q := 34) dX9_proofSize_32 rfl ⟨by decide, by decide⟩ (by decide) ?_
    -- at X9.proofSize 34: .invokevirtual 237
    refine vr_iv1 (q := 37) dX9_proofSize_34 rfl vX9_237 (Nat.le_of_ble_eq_true rfl) ?_
    refine m_begins t2 (fun h3 t3 u3 => ?_)
    have u4 := tkp_t u1 (tkp_t u2 u3)
    have kz := kq h3 t3 u4
    rcases hv with rfl | rfl
    · refine vr_aload_n (q := 38) dX9_proofSize_37 rfl rfl ?_
      refine vr_getR (q := 41) dX9_proofSize_38 rfl fX9_25 rfl y_X9_13 (by first | (simp only [Int.reduceAdd]; rfl) | rfl) ?_
      refine vr_iconst (q := 42) dX9_proofSize_41 rfl ⟨by decide, by decide⟩ ?_
      refine vr_iconst (q := 43) dX9_proofSize_42 rfl ⟨by decide, by decide⟩ ?_
      refine vr_iload_n (q := 44) dX9_proofSize_43 rfl rfl ?_
      refine vr_imulN (q := 45) dX9_proofSize_44 rfl ⟨by omega, by omega⟩ ?_
      refine vr_iaddN (q := 46) dX9_proofSize_45 rfl ⟨by omega, by omega⟩ ?_
      refine vr_iconst (q := 47) dX9_proofSize_46 rfl ⟨by decide, by decide⟩ ?_
      refine vr_iaddN (q := 48) dX9_proofSize_47 rfl ⟨by omega, by omega⟩ ?_
      refine vr_ialdV (q := 49) dX9_proofSize_48 rfl ⟨by omega, by omega⟩ (show _ = p 9 l by rw [u4.1 74 (by decide) (by decide)]; exact k2) ?_
      refine vr_bipush (q := 51) dX9_proofSize_49 rfl ⟨by decide, by decide⟩ (by decide) ?_
      refine vr_isubN (q := 52) dX9_proofSize_51 rfl ⟨by omega, by omega⟩ ?_
      refine vr_istore_n (q := 53) dX9_proofSize_52 rfl rfl (Nat.le_of_ble_eq_true rfl) rfl rfl ?_
      refine vr_iload_n (q := 54) dX9_proofSize_53 rfl rfl ?_
      refine vr_if_eq (t := 63) (q := 57) dX9_proofSize_54 (by decide) rfl (fun _ => ?_) (fun c9 => absurd c9 (by omega))
      refine vr_iload_n (q := 64) dX9_proofSize_63 rfl rfl ?_
      refine vr_iret dX9_proofSize_64 rfl ?_
      exact kz
    · refine vr_aload_n (q := 38) dX9_proofSize_37 rfl rfl ?_
      refine vr_getR (q := 41) dX9_proofSize_38 rfl fX9_25 rfl y_X9_13 (by first | (simp only [Int.reduceAdd]; rfl) | rfl) ?_
      refine vr_iconst (q := 42) dX9_proofSize_41 rfl ⟨by decide, by decide⟩ ?_
      refine vr_iconst (q := 43) dX9_proofSize_42 rfl ⟨by decide, by decide⟩ ?_
      refine vr_iload_n (q := 44) dX9_proofSize_43 rfl rfl ?_
      refine vr_imulN (q := 45) dX9_proofSize_44 rfl ⟨by omega, by omega⟩ ?_
      refine vr_iaddN (q := 46) dX9_proofSize_45 rfl ⟨by omega, by omega⟩ ?_
      refine vr_iconst (q := 47) dX9_proofSize_46 rfl ⟨by decide, by decide⟩ ?_
      refine vr_iaddN (q := 48) dX9_proofSize_47 rfl ⟨by omega, by omega⟩ ?_
      refine vr_ialdV (q := 49) dX9_proofSize_48 rfl ⟨by omega, by omega⟩ (show _ = p 9 l by rw [u4.1 74 (by decide) (by decide)]; exact k2) ?_
      refine vr_bipush (q := 51) dX9_proofSize_49 rfl ⟨by decide, by decide⟩ (by decide) ?_
      refine vr_isubN (q := 52) dX9_proofSize_51 rfl ⟨by omega, by omega⟩ ?_
      refine vr_istore_n (q := 53) dX9_proofSize_52 rfl rfl (Nat.le_of_ble_eq_true rfl) rfl rfl ?_
      refine vr_iload_n (q := 54) dX9_proofSize_53 rfl rfl ?_
      refine vr_if_eq (t := 63) (q := 57) dX9_proofSize_54 (by decide) rfl (fun c9 => absurd c9 (by omega)) (fun _ => ?_)
      refine vr_iconst (q := 58) dX9_proofSize_57 rfl ⟨by decide, by decide⟩ ?_
      refine vr_iload_n (q := 59) dX9_proofSize_58 rfl rfl ?_
      refine vr_imulN (q := 60) dX9_proofSize_59 rfl ⟨by omega, by omega⟩ ?_
      refine vr_goto (q := 64) dX9_proofSize_60 (by decide) ?_
      refine vr_iret dX9_proofSize_64 rfl ?_
      exact kz
  by_cases ck : p 8 l = 5
  · rw [if_pos ck, if_pos ck] at kk
    refine vr_iconst (q := 6) dX9_proofSize_5 rfl ⟨by decide, by decide⟩ ?_
    refine vr_ic_ne (t := 13) (q := 9) dX9_proofSize_6 (by decide) rfl (fun c9 => absurd c9 (by omega)) (fun _ => ?_)
    refine vr_iconst (q := 10) dX9_proofSize_9 rfl ⟨by decide, by decide⟩ ?_
    refine vr_goto (q := 14) dX9_proofSize_10 (by decide) ?_
    refine vr_istore_n (q := 15) dX9_proofSize_14 rfl rfl (Nat.le_of_ble_eq_true rfl) rfl rfl ?_
    refine vr_iload_n (q := 16) dX9_proofSize_15 rfl rfl ?_
    refine vr_if_eq (t := 25) (q := 19) dX9_proofSize_16 (by decide) rfl (fun c9 => absurd c9 (by omega)) (fun _ => ?_)
    refine vr_aload_n (q := 20) dX9_proofSize_19 rfl rfl ?_
    refine vr_bipush (q := 22) dX9_proofSize_20 rfl ⟨by decide, by decide⟩ (by decide) ?_
    refine vr_iv1 (q := 25) dX9_proofSize_22 rfl vX9_237 (Nat.le_of_ble_eq_true rfl) ?_
    refine m_begins t (fun h1 t1 u1 => ?_)
    exact fin _ h1 1 (Or.inr rfl) t1 u1 kk
  · rw [if_neg ck, if_neg ck] at kk
    refine vr_iconst (q := 6) dX9_proofSize_5 rfl ⟨by decide, by decide⟩ ?_
    refine vr_ic_ne (t := 13) (q := 9) dX9_proofSize_6 (by decide) rfl (fun _ => ?_) (fun c9 => absurd c9 (by omega))
    refine vr_iconst (q := 14) dX9_proofSize_13 rfl ⟨by decide, by decide⟩ ?_
    refine vr_istore_n (q := 15) dX9_proofSize_14 rfl rfl (Nat.le_of_ble_eq_true rfl) rfl rfl ?_
    refine vr_iload_n (q := 16) dX9_proofSize_15 rfl rfl ?_
    refine vr_if_eq (t := 25) (q := 19) dX9_proofSize_16 (by decide) rfl (fun _ => ?_) (fun c9 => absurd c9 (by omega))
    exact fin p h 0 (Or.inl rfl) t (tkp_r h) kk
theorem m_easySize {l : Int} (c : cpl_ p h) (t : trc_ p h) (hl : 0 ≤ l ∧ l < p 7 2) (hk : 1 ≤ p 8 l ∧ p 8 l ≤ 3) (kk : ∀ hc, trc_ (zs_ p l) hc → tkp_ h hc → Post (some (sv_i (vs_ p l))) hc) : Ctr_ g (d + 4) mX9_easySize [sv_r 4 8 68, sv_i l] h Post := by
  have o1 := c.1.1
  have hw := (c.1.2.2.2.1 l hl.1 hl.2).2.1
  have k1 := (c.2.2.1 l hl.1 hl.2).1
  have k2 := (c.2.2.1 l hl.1 hl.2).2.1
  have hn : 0 ≤ nn_ p l ∧ nn_ p l ≤ 4 := by
    have z := ws_r (p 14) l (p 7 3).toNat
    have z2 := c.1.2.1
    unfold nn_
    omega
  have hve : -1000 ≤ ve_ p l ∧ ve_ p l ≤ 30 := by
    unfold ve_
    split
    · omega
    · split <;> omega
  unfold zs_ vs_ at kk
  have c4 : ¬ 4 ≤ p 8 l := by omega
  rw [if_neg c4, if_neg c4] at kk
  refine V_mk (by decide +kernel) (Or.inr (Or.inl ⟨rfl, rfl⟩)) (Nat.le_of_ble_eq_true rfl) (by simp [sv_c]) ?_
  show V_ _ _ _ 0 [_, _, _, _] [] _ _
  refine vr_aload_n (q := 1) dX9_easySize_0 rfl rfl ?_
  refine vr_iload_n (q := 2) dX9_easySize_1 rfl rfl ?_
  -- at X9.easySize 2: .invokevirtual 231
  refine vr_iv1 (q := 5) dX9_easySize_2 rfl vX9_231 (Nat.le_of_ble_eq_true rfl) ?_
  refine m_kindIn ⟨by omega, by omega⟩ ?_
  rw [k1]
  have fin : ∀ (q h1 : SH_) (v : Int), (v = 0 ∨ v = 1) → cpl_ q h1 → q 8 = p 8 → q 9 = p 9 → q 7 = p 7 → q 14 = p 14 → trc_ q h1 → tkp_ h h1 → (∀ hc, trc_ (me_ (lt_ (lt_ q 11) 10) l) hc → tkp_ h hc → Post (some (sv_i (if v = 1 then -(p 9 l + ve_ p l) else p 9 l + ve_ p l))) hc) → V_ g (d + 4) mX9_easySize 25 [some (sv_r 4 8 68), some (sv_i l), some (sv_i v), none] [] h1 Post := by
    intro q h1 v hv cq e8 e9 e7 e14 t1 u1 kq
    have ev : ve_ (lt_ (lt_ q 11) 10) l = ve_ p l := by
      unfold ve_
      rw [nn_l, nn_l, lt_k (by decide) (by decide), lt_k (by decide) (by decide), e8]
      unfold nn_
      rw [e14, e7]
    have e82 : lt_ (lt_ q 11) 10 8 = p 8 := by rw [lt_k (by decide) (by decide), lt_k (by decide) (by decide), e8]
    have e72 : lt_ (lt_ q 11) 10 7 = p 7 := by rw [lt_k (by decide) (by decide), lt_k (by decide) (by decide), e7]
    refine vr_aload_n (q := 26) dX9_easySize_25 rfl rfl ?_
    refine vr_bipush (q := 28) dX9_easySize_26 rfl ⟨by decide, by decide⟩ (by decide) ?_
    -- at X9.easySize 28: .invokevirtual 237
    refine vr_iv1 (q := 31) dX9_easySize_28 rfl vX9_237 (Nat.le_of_ble_eq_true rfl) ?_
    refine m_begins t1 (fun h2 t2 u2 => ?_)
    refine vr_aload_n (q := 32) dX9_easySize_31 rfl rfl ?_
    refine vr_bipush (q := 34) dX9_easySize_32 rfl ⟨by decide, by decide⟩ (by decide) ?_
    -- at X9.easySize 34: .invokevirtual 237
    refine vr_iv1 (q := 37) dX9_easySize_34 rfl vX9_237 (Nat.le_of_ble_eq_true rfl) ?_
    refine m_begins t2 (fun h3 t3 u3 => ?_)
    have u4 := tkp_t u1 (tkp_t u2 u3)
    have c3 := cpl_l (b := 10) (cpl_l (b := 11) (tkp_c (tkp_t u2 u3) cq))
    refine vr_aload_n (q := 38) dX9_easySize_37 rfl rfl ?_
    refine vr_getR (q := 41) dX9_easySize_38 rfl fX9_25 rfl y_X9_13 (by first | (simp only [Int.reduceAdd]; rfl) | rfl) ?_
    refine vr_iconst (q := 42) dX9_easySize_41 rfl ⟨by decide, by decide⟩ ?_
    refine vr_iconst (q := 43) dX9_easySize_42 rfl ⟨by decide, by decide⟩ ?_
    refine vr_iload_n (q := 44) dX9_easySize_43 rfl rfl ?_
    refine vr_imulN (q := 45) dX9_easySize_44 rfl ⟨by omega, by omega⟩ ?_
    refine vr_iaddN (q := 46) dX9_easySize_45 rfl ⟨by omega, by omega⟩ ?_
    refine vr_iconst (q := 47) dX9_easySize_46 rfl ⟨by decide, by decide⟩ ?_
    refine vr_iaddN (q := 48) dX9_easySize_47 rfl ⟨by omega, by omega⟩ ?_
    refine vr_ialdV (q := 49) dX9_easySize_48 rfl ⟨by omega, by omega⟩ (show _ = p 9 l by rw [u4.1 74 (by decide) (by decide)]; exact k2) ?_
    refine vr_aload_n (q := 50) dX9_easySize_49 rfl rfl ?_
    refine vr_iload_n (q := 51) dX9_easySize_50 rfl rfl ?_
    -- at X9.easySize 51: .invokevirtual 240
    refine vr_iv1 (q := 54) dX9_easySize_51 rfl vX9_240 (Nat.le_of_ble_eq_true rfl) ?_
    refine m_easyMark c3 t3 (by rw [e72]; exact hl) (by rw [e82]; exact hk) (fun h5 t5 u5 => ?_)
    rw [ev]
    have kz := kq h5 t5 (tkp_t u4 u5)
    rcases hv with rfl | rfl
    · refine vr_iaddN (q := 55) dX9_easySize_54 rfl ⟨by omega, by omega⟩ ?_
      refine vr_istore_n (q := 56) dX9_easySize_55 rfl rfl (Nat.le_of_ble_eq_true rfl) rfl rfl ?_
      refine vr_iload_n (q := 57) dX9_easySize_56 rfl rfl ?_
      refine vr_if_eq (t := 65) (q := 60) dX9_easySize_57 (by decide) rfl (fun _ => ?_) (fun c9 => absurd c9 (by omega))
      refine vr_iload_n (q := 66) dX9_easySize_65 rfl rfl ?_
      refine vr_iret dX9_easySize_66 rfl ?_
      exact kz
    · refine vr_iaddN (q := 55) dX9_easySize_54 rfl ⟨by omega, by omega⟩ ?_
      refine vr_istore_n (q := 56) dX9_easySize_55 rfl rfl (Nat.le_of_ble_eq_true rfl) rfl rfl ?_
      refine vr_iload_n (q := 57) dX9_easySize_56 rfl rfl ?_
      refine vr_if_eq (t := 65) (q := 60) dX9_easySize_57 (by decide) rfl (fun c9 => absurd c9 (by omega)) (fun _ => ?_)
      refine vr_iload_n (q := 61) dX9_easySize_60 rfl rfl ?_
      refine vr_ineg (q := 62) dX9_easySize_61 rfl ⟨by omega, by omega⟩ ?_
      refine vr_goto (q := 66) dX9_easySize_62 (by decide) ?_
      refine vr_iret dX9_easySize_66 rfl ?_
      exact kz
  by_cases ck : p 8 l = 2
  · rw [if_pos ck, if_pos ck] at kk
    refine vr_iconst (q := 6) dX9_easySize_5 rfl ⟨by decide, by decide⟩ ?_
    refine vr_ic_ne (t := 13) (q := 9) dX9_easySize_6 (by decide) rfl (fun c9 => absurd c9 (by omega)) (fun _ => ?_)
    refine vr_iconst (q := 10) dX9_easySize_9 rfl ⟨by decide, by decide⟩ ?_
    refine vr_goto (q := 14) dX9_easySize_10 (by decide) ?_
    refine vr_istore_n (q := 15) dX9_easySize_14 rfl rfl (Nat.le_of_ble_eq_true rfl) rfl rfl ?_
    refine vr_iload_n (q := 16) dX9_easySize_15 rfl rfl ?_
    refine vr_if_eq (t := 25) (q := 19) dX9_easySize_16 (by decide) rfl (fun c9 => absurd c9 (by omega)) (fun _ => ?_)
    refine vr_aload_n (q := 20) dX9_easySize_19 rfl rfl ?_
    refine vr_bipush (q := 22) dX9_easySize_20 rfl ⟨by decide, by decide⟩ (by decide) ?_
    refine vr_iv1 (q := 25) dX9_easySize_22 rfl vX9_237 (Nat.le_of_ble_eq_true rfl) ?_
    refine m_begins t (fun h1 t1 u1 => ?_)
    exact fin _ h1 1 (Or.inr rfl) (cpl_l (tkp_c u1 c)) (lt_k (by decide) (by decide)) (lt_k (by decide) (by decide)) (lt_k (by decide) (by decide)) (lt_k (by decide) (by decide)) t1 u1 kk
  · rw [if_neg ck, if_neg ck] at kk
    refine vr_iconst (q := 6) dX9_easySize_5 rfl ⟨by decide, by decide⟩ ?_
    refine vr_ic_ne (t := 13) (q := 9) dX9_easySize_6 (by decide) rfl (fun _ => ?_) (fun c9 => absurd c9 (by omega))
    refine vr_iconst (q := 14) dX9_easySize_13 rfl ⟨by decide, by decide⟩ ?_
    refine vr_istore_n (q := 15) dX9_easySize_14 rfl rfl (Nat.le_of_ble_eq_true rfl) rfl rfl ?_
    refine vr_iload_n (q := 16) dX9_easySize_15 rfl rfl ?_
    refine vr_if_eq (t := 25) (q := 19) dX9_easySize_16 (by decide) rfl (fun _ => ?_) (fun c9 => absurd c9 (by omega))
    exact fin p h 0 (Or.inl rfl) c rfl rfl rfl rfl t (tkp_r h) kk
theorem m_proofMark {l : Int} (c : cpl_ p h) (t : trc_ p h) (hl : 0 ≤ l ∧ l < p 7 2) (hk : 4 ≤ p 8 l ∧ p 8 l ≤ 5) (kk : ∀ hc, trc_ (zm_ p l) hc → tkp_ h hc → Post (some (sv_i (vm_ p l))) hc) : Ctr_ g (d + 2) mX9_proofMark [sv_r 4 8 68, sv_i l] h Post := by
  have o1 := c.1.1
  have hw := (c.1.2.2.2.1 l hl.1 hl.2).2.1
  unfold zm_ vm_ at kk
  rw [if_pos hk.1, if_pos hk.1] at kk
  have e8 : lt_ (lt_ p 23) 20 8 = p 8 := by rw [lt_k (by decide) (by decide), lt_k (by decide) (by decide)]
  have e9 : lt_ (lt_ p 23) 20 9 = p 9 := by rw [lt_k (by decide) (by decide), lt_k (by decide) (by decide)]
  have e7 : lt_ (lt_ p 23) 20 7 = p 7 := by rw [lt_k (by decide) (by decide), lt_k (by decide) (by decide)]
  have ev : vp_ (lt_ (lt_ p 23) 20) l = vp_ p l := by
    unfold vp_
    rw [e8, e9]
  have hvp : -200 ≤ vp_ p l ∧ vp_ p l ≤ 0 := by
    unfold vp_
    split <;> omega
  refine V_mk (by decide +kernel) (Or.inr (Or.inl ⟨rfl, rfl⟩)) (Nat.le_of_ble_eq_true rfl) (by simp [sv_c]) ?_
  show V_ _ _ _ 0 [_, _] [] _ _
  refine vr_aload_n (q := 1) dX9_proofMark_0 rfl rfl ?_
  refine vr_bipush (q := 3) dX9_proofMark_1 rfl ⟨by decide, by decide⟩ (by decide) ?_
  -- at X9.proofMark 3: .invokevirtual 237
  refine vr_iv1 (q := 6) dX9_proofMark_3 rfl vX9_237 (Nat.le_of_ble_eq_true rfl) ?_
  refine m_begins t (fun h1 t1 u1 => ?_)
  refine vr_aload_n (q := 7) dX9_proofMark_6 rfl rfl ?_
  refine vr_bipush (q := 9) dX9_proofMark_7 rfl ⟨by decide, by decide⟩ (by decide) ?_
  -- at X9.proofMark 9: .invokevirtual 237
  refine vr_iv1 (q := 12) dX9_proofMark_9 rfl vX9_237 (Nat.le_of_ble_eq_true rfl) ?_
  refine m_begins t1 (fun h2 t2 u2 => ?_)
  refine vr_iload_n (q := 13) dX9_proofMark_12 rfl rfl ?_
  refine vr_aload_n (q := 14) dX9_proofMark_13 rfl rfl ?_
  refine vr_iload_n (q := 15) dX9_proofMark_14 rfl rfl ?_
  -- at X9.proofMark 15: .invokevirtual 243
  refine vr_iv1 (q := 18) dX9_proofMark_15 rfl vX9_243 (Nat.le_of_ble_eq_true rfl) ?_
  refine m_proofSize (cpl_l (cpl_l (tkp_c (tkp_t u1 u2) c))) t2 (by rw [e7]; exact hl) (by rw [e8]; exact hk) (fun h3 t3 u3 => ?_)
  rw [ev]
  refine vr_isubN (q := 19) dX9_proofMark_18 rfl ⟨by omega, by omega⟩ ?_
  -- at X9.proofMark 19: .ireturn
  refine vr_iret dX9_proofMark_19 rfl ?_
  exact kk h3 t3 (tkp_t u1 (tkp_t u2 u3))
theorem mx_ask {l w : Int} (c : cpl_ p h) (t : trc_ p h) (k1 : ¬ ((0 ≤ l ∧ l < p 7 2) ∧ (0 ≤ w ∧ w ≤ 1)) → Post (some (sv_i (-1000001))) h) (k2 : ((0 ≤ l ∧ l < p 7 2) ∧ (0 ≤ w ∧ w ≤ 1)) → ∀ hc, trc_ (if w = 0 then zs_ (hs_ p 66 1 0) l else zm_ (hs_ p 66 1 0) l) hc → tkp_ h hc → Post (some (sv_i (if w = 0 then vs_ (hs_ p 66 1 0) l else vm_ (hs_ p 66 1 0) l))) hc) : Ctr_ g (d + 5) mX9_ask [sv_r 4 8 68, sv_i l, sv_i w] h Post := by
  have o1 := c.1.1
  have r20 : ((0 ≤ l ∧ l < p 7 2) ∧ (0 ≤ w ∧ w ≤ 1)) → V_ g (d + 5) mX9_ask 20 [some (sv_r 4 8 68), some (sv_i l), some (sv_i w), none] [] h Post := by
    intro q
    have kk := k2 q
    have hk := (c.1.2.2.2.1 l q.1.1 q.1.2).1
    have k1 := (c.2.2.1 l q.1.1 q.1.2).1
    have ea : ∀ a, a ≠ 66 → hs_ p 66 1 0 a = p a := fun a ha => hs_k ha
    have t0 := trc_0 (v := 0) t
    have u0 : tkp_ h (hs_ h 68 20 0) := ⟨fun a a1 a2 => hs_k a1, fun b hb => hs_n (by omega)⟩
    have c0 : cpl_ (hs_ p 66 1 0) (hs_ h 68 20 0) := tkp_c u0 (cpl_p (fun a _ _ => ea a (by omega)) c)
    have hl0 : 0 ≤ l ∧ l < hs_ p 66 1 0 7 2 := by rw [ea 7 (by decide)]; exact q.1
    have e80 : hs_ p 66 1 0 8 l = p 8 l := by rw [ea 8 (by decide)]
    refine vr_aload_n (q := 21) dX9_ask_20 rfl rfl ?_
    refine vr_iconst (q := 22) dX9_ask_21 rfl ⟨by decide, by decide⟩ ?_
    refine vr_put (ji := 20) (q := 25) dX9_ask_22 rfl pX9_234 rfl rfl ?_
    refine vr_aload_n (q := 26) dX9_ask_25 rfl rfl ?_
    refine vr_iload_n (q := 27) dX9_ask_26 rfl rfl ?_
    -- at X9.ask 27: .invokevirtual 231
    refine vr_iv1 (q := 30) dX9_ask_27 rfl vX9_231 (Nat.le_of_ble_eq_true rfl) ?_
    refine m_kindIn ⟨by omega, by omega⟩ ?_
    rw [show hs_ h 68 20 0 74 (4 + 3 * l) = p 8 l by rw [hs_k (by decide)]; exact k1]
    generalize hs_ p 66 1 0 = pp at kk t0 c0 hl0 e80
    generalize hs_ h 68 20 0 = hh at u0 t0 c0 ⊢
    rcases (by omega : w = 0 ∨ w = 1) with rfl | rfl
    · by_cases ck : 4 ≤ p 8 l
      · refine vr_iconst (q := 31) dX9_ask_30 rfl ⟨by decide, by decide⟩ ?_
        refine vr_ic_lt (t := 38) (q := 34) dX9_ask_31 (by decide) rfl (fun c9 => absurd c9 (by omega)) (fun _ => ?_)
        refine vr_iconst (q := 35) dX9_ask_34 rfl ⟨by decide, by decide⟩ ?_
        refine vr_goto (q := 39) dX9_ask_35 (by decide) ?_
        refine vr_istore_n (q := 40) dX9_ask_39 rfl rfl (Nat.le_of_ble_eq_true rfl) rfl rfl ?_
        refine vr_iload_n (q := 41) dX9_ask_40 rfl rfl ?_
        refine vr_if_ne (t := 62) (q := 44) dX9_ask_41 (by decide) rfl (fun c9 => absurd c9 (by omega)) (fun _ => ?_)
        refine vr_iload_n (q := 45) dX9_ask_44 rfl rfl ?_
        refine vr_if_eq (t := 56) (q := 48) dX9_ask_45 (by decide) rfl (fun c9 => absurd c9 (by omega)) (fun _ => ?_)
        refine vr_aload_n (q := 49) dX9_ask_48 rfl rfl ?_
        refine vr_iload_n (q := 50) dX9_ask_49 rfl rfl ?_
        refine vr_iv1 (q := 53) dX9_ask_50 rfl vX9_243 (Nat.le_of_ble_eq_true rfl) ?_
        refine m_proofSize c0 t0 hl0 (by omega) (fun h5 t5 u5 => ?_)
        refine vr_goto (q := 61) dX9_ask_53 (by decide) ?_
        refine vr_iret dX9_ask_61 rfl ?_
        have kz := kk h5 (by unfold zs_; rw [if_pos rfl, if_pos (by omega)]; exact t5) (tkp_t u0 u5)
        unfold vs_ at kz
        rw [if_pos rfl, if_pos (by omega)] at kz
        exact kz
      · refine vr_iconst (q := 31) dX9_ask_30 rfl ⟨by decide, by decide⟩ ?_
        refine vr_ic_lt (t := 38) (q := 34) dX9_ask_31 (by decide) rfl (fun _ => ?_) (fun c9 => absurd c9 (by omega))
        refine vr_iconst (q := 39) dX9_ask_38 rfl ⟨by decide, by decide⟩ ?_
        refine vr_istore_n (q := 40) dX9_ask_39 rfl rfl (Nat.le_of_ble_eq_true rfl) rfl rfl ?_
        refine vr_iload_n (q := 41) dX9_ask_40 rfl rfl ?_
        refine vr_if_ne (t := 62) (q := 44) dX9_ask_41 (by decide) rfl (fun c9 => absurd c9 (by omega)) (fun _ => ?_)
        refine vr_iload_n (q := 45) dX9_ask_44 rfl rfl ?_
        refine vr_if_eq (t := 56) (q := 48) dX9_ask_45 (by decide) rfl (fun _ => ?_) (fun c9 => absurd c9 (by omega))
        refine vr_aload_n (q := 57) dX9_ask_56 rfl rfl ?_
        refine vr_iload_n (q := 58) dX9_ask_57 rfl rfl ?_
        refine vr_iv1 (q := 61) dX9_ask_58 rfl vX9_246 (Nat.le_of_ble_eq_true rfl) ?_
        refine m_easySize c0 t0 hl0 (by omega) (fun h5 t5 u5 => ?_)
        refine vr_iret dX9_ask_61 rfl ?_
        exact kk h5 t5 (tkp_t u0 u5)
    · by_cases ck : 4 ≤ p 8 l
      · refine vr_iconst (q := 31) dX9_ask_30 rfl ⟨by decide, by decide⟩ ?_
        refine vr_ic_lt (t := 38) (q := 34) dX9_ask_31 (by decide) rfl (fun c9 => absurd c9 (by omega)) (fun _ => ?_)
        refine vr_iconst (q := 35) dX9_ask_34 rfl ⟨by decide, by decide⟩ ?_
        refine vr_goto (q := 39) dX9_ask_35 (by decide) ?_
        refine vr_istore_n (q := 40) dX9_ask_39 rfl rfl (Nat.le_of_ble_eq_true rfl) rfl rfl ?_
        refine vr_iload_n (q := 41) dX9_ask_40 rfl rfl ?_
        refine vr_if_ne (t := 62) (q := 44) dX9_ask_41 (by decide) rfl (fun _ => ?_) (fun c9 => absurd c9 (by omega))
        refine vr_iload_n (q := 63) dX9_ask_62 rfl rfl ?_
        refine vr_if_eq (t := 74) (q := 66) dX9_ask_63 (by decide) rfl (fun c9 => absurd c9 (by omega)) (fun _ => ?_)
        refine vr_aload_n (q := 67) dX9_ask_66 rfl rfl ?_
        refine vr_iload_n (q := 68) dX9_ask_67 rfl rfl ?_
        refine vr_iv1 (q := 71) dX9_ask_68 rfl vX9_249 (Nat.le_of_ble_eq_true rfl) ?_
        refine m_proofMark c0 t0 hl0 (by omega) (fun h5 t5 u5 => ?_)
        refine vr_goto (q := 79) dX9_ask_71 (by decide) ?_
        refine vr_iret dX9_ask_79 rfl ?_
        exact kk h5 t5 (tkp_t u0 u5)
      · refine vr_iconst (q := 31) dX9_ask_30 rfl ⟨by decide, by decide⟩ ?_
        refine vr_ic_lt (t := 38) (q := 34) dX9_ask_31 (by decide) rfl (fun _ => ?_) (fun c9 => absurd c9 (by omega))
        refine vr_iconst (q := 39) dX9_ask_38 rfl ⟨by decide, by decide⟩ ?_
        refine vr_istore_n (q := 40) dX9_ask_39 rfl rfl (Nat.le_of_ble_eq_true rfl) rfl rfl ?_
        refine vr_iload_n (q := 41) dX9_ask_40 rfl rfl ?_
        refine vr_if_ne (t := 62) (q := 44) dX9_ask_41 (by decide) rfl (fun _ => ?_) (fun c9 => absurd c9 (by omega))
        refine vr_iload_n (q := 63) dX9_ask_62 rfl rfl ?_
        refine vr_if_eq (t := 74) (q := 66) dX9_ask_63 (by decide) rfl (fun _ => ?_) (fun c9 => absurd c9 (by omega))
        refine vr_aload_n (q := 75) dX9_ask_74 rfl rfl ?_
        refine vr_iload_n (q := 76) dX9_ask_75 rfl rfl ?_
        refine vr_iv1 (q := 79) dX9_ask_76 rfl vX9_240 (Nat.le_of_ble_eq_true rfl) ?_
        refine m_easyMark c0 t0 hl0 (by omega) (fun h5 t5 u5 => ?_)
        refine vr_iret dX9_ask_79 rfl ?_
        have kz := kk h5 (by unfold zm_; rw [if_neg (by decide), if_neg (by omega)]; exact t5) (tkp_t u0 u5)
        unfold vm_ at kz
        rw [if_neg (by decide), if_neg (by omega)] at kz
        exact kz
  refine V_mk (by decide +kernel) (Or.inr (Or.inl ⟨rfl, rfl⟩)) (Nat.le_of_ble_eq_true rfl) (by simp [sv_c]) ?_
  show V_ _ _ _ 0 [_, _, _, _] [] _ _
  refine vr_aload_n (q := 1) dX9_ask_0 rfl rfl ?_
  refine vr_iload_n (q := 2) dX9_ask_1 rfl rfl ?_
  refine vr_iv1 (q := 5) dX9_ask_2 rfl vX9_166 (Nat.le_of_ble_eq_true rfl) ?_
  refine m_isL c (fun c2 => ?_) (fun c2 => ?_)
  · refine vr_if_eq (t := 17) (q := 8) dX9_ask_5 (by decide) rfl (fun c9 => absurd c9 (by omega)) (fun _ => ?_)
    refine vr_iload_n (q := 9) dX9_ask_8 rfl rfl ?_
    refine vr_iconst (q := 10) dX9_ask_9 rfl ⟨by decide, by decide⟩ ?_
    refine vr_iconst (q := 11) dX9_ask_10 rfl ⟨by decide, by decide⟩ ?_
    refine vr_is3 (q := 14) dX9_ask_11 rfl vX9_59 (Nat.le_of_ble_eq_true rfl) ?_
    refine m_in (fun c11 => ?_) (fun c11 => ?_)
    · refine vr_if_ne (t := 20) (q := 17) dX9_ask_14 (by decide) rfl (fun _ => ?_) (fun c9 => absurd c9 (by omega))
      exact r20 (by omega)
    · refine vr_if_ne (t := 20) (q := 17) dX9_ask_14 (by decide) rfl (fun c9 => absurd c9 (by omega)) (fun _ => ?_)
      refine vr_ldc (x := -1000001) (q := 19) dX9_ask_17 rfl ⟨by decide, by decide⟩ qX9_67 ?_
      refine vr_iret dX9_ask_19 rfl ?_
      exact k1 (by omega)
  · refine vr_if_eq (t := 17) (q := 8) dX9_ask_5 (by decide) rfl (fun _ => ?_) (fun c9 => absurd c9 (by omega))
    refine vr_ldc (x := -1000001) (q := 19) dX9_ask_17 rfl ⟨by decide, by decide⟩ qX9_67 ?_
    refine vr_iret dX9_ask_19 rfl ?_
    exact k1 (by omega)
end PM17_
