/-- the reference's notes before an act -/
def mnt_ (h : SH_) : SH_ := if h 68 16 = 24 then hs_ (hc_ (hs_ (hc_ h 76 38 76 0 874) 68 16 23) 74 0 76 (38 * 23) 38) 68 16 24 else hs_ (hc_ h 74 0 76 (38 * h 68 16) 38) 68 16 (h 68 16 + 1)
section PM7_
variable {g : SG_} {d : Nat} {h : SH_} {Post : Option SV_ → SH_ → Prop}
theorem lm_notes2 {o1 : Option SV_} (ha : 0 ≤ h 68 16 ∧ h 68 16 < 24) (kk : Post none (hs_ (hc_ h 74 0 76 (38 * h 68 16) 38) 68 16 (h 68 16 + 1))) : V_ g (d + 1) mX9_notes 49 [some (sv_r 4 8 68), o1] [] h Post := by
  refine vr_aload_n (q := 50) dX9_notes_49 rfl rfl ?_
  refine vr_getR (q := 53) dX9_notes_50 rfl fX9_25 rfl y_X9_13 (by first | (simp only [Int.reduceAdd]; rfl) | rfl) ?_
  refine vr_iconst (q := 54) dX9_notes_53 rfl ⟨by decide, by decide⟩ ?_
  refine vr_aload_n (q := 55) dX9_notes_54 rfl rfl ?_
  refine vr_getR (q := 58) dX9_notes_55 rfl fX9_31 rfl y_X9_15 (by first | (simp only [Int.reduceAdd]; rfl) | rfl) ?_
  refine vr_bipush (q := 60) dX9_notes_58 rfl ⟨by decide, by decide⟩ (by decide) ?_
  refine vr_aload_n (q := 61) dX9_notes_60 rfl rfl ?_
  refine vr_getI (ji := 16) (q := 64) dX9_notes_61 rfl fX9_141 rfl rfl ?_
  refine vr_imulN (q := 65) dX9_notes_64 rfl ⟨by omega, by omega⟩ ?_
  -- at X9.notes 65: .invokestatic 137
  refine vr_is4 (q := 68) dX9_notes_65 rfl vX9_137 (Nat.le_of_ble_eq_true rfl) ?_
  refine m_copies (by decide) ⟨by decide, by decide, by decide⟩ ⟨by omega, by omega, by omega⟩ ?_
  refine vr_aload_n (q := 69) dX9_notes_68 rfl rfl ?_
  refine vr_dup (q := 70) dX9_notes_69 rfl rfl ?_
  refine vr_getV (ji := 16) (q := 73) dX9_notes_70 rfl fX9_141 rfl rfl (show _ = h 68 16 by unfold hc_; rw [if_neg (by omega)]) ?_
  refine vr_iconst (q := 74) dX9_notes_73 rfl ⟨by decide, by decide⟩ ?_
  refine vr_iaddN (q := 75) dX9_notes_74 rfl ⟨by omega, by omega⟩ ?_
  refine vr_put (ji := 16) (q := 78) dX9_notes_75 rfl pX9_141 rfl rfl ?_
  -- at X9.notes 78: .return_
  refine vr_vret dX9_notes_78 rfl ?_
  exact kk
theorem lm_notes1 (ha : h 68 16 = 24) (kk : Post none (mnt_ h)) : ∀ (m k : Nat), k + m = 874 → V_ g (d + 1) mX9_notes 11 [some (sv_r 4 8 68), some (sv_i k)] [] (hc_ h 76 38 76 0 k) Post := by
  intro m
  induction m with
  | zero =>
    intro k hk
    have e16 : hc_ h 76 38 76 0 874 68 16 = 24 := by unfold hc_; rw [if_neg (by omega)]; exact ha
    have e17 : hs_ (hc_ h 76 38 76 0 874) 68 16 23 68 16 = 23 := hs_e _ _ _ _
    unfold mnt_ at kk
    rw [if_pos ha] at kk
    rw [show k = 874 by omega, show ((874 : Nat) : Int) = 874 from rfl]
    refine vr_iload_n (q := 12) dX9_notes_11 rfl rfl ?_
    refine vr_sipush (q := 15) dX9_notes_12 rfl ⟨by decide, by decide⟩ (by decide) ?_
    -- at X9.notes 15: .if_icmp .ge 24
    refine vr_ic_ge (t := 39) (q := 18) dX9_notes_15 (by decide) rfl (fun _ => ?_) (fun c9 => absurd c9 (by omega))
    refine vr_aload_n (q := 40) dX9_notes_39 rfl rfl ?_
    refine vr_dup (q := 41) dX9_notes_40 rfl rfl ?_
    refine vr_getV (ji := 16) (q := 44) dX9_notes_41 rfl fX9_141 rfl rfl e16 ?_
    refine vr_iconst (q := 45) dX9_notes_44 rfl ⟨by decide, by decide⟩ ?_
    refine vr_isubN (q := 46) dX9_notes_45 rfl ⟨by omega, by omega⟩ ?_
    refine vr_put (ji := 16) (q := 49) dX9_notes_46 rfl pX9_141 rfl rfl ?_
    -- at X9.notes 49: .aload_n 0
    refine lm_notes2 (by rw [show (24 : Int) - 1 = 23 from rfl, e17]; decide) ?_
    rw [show (24 : Int) - 1 = 23 from rfl, e17]
    exact kk
  | succ m ih =>
    intro k hk
    have k2 := ih (k + 1) (by omega)
    rw [show ((k + 1 : Nat) : Int) = (k : Int) + 1 by omega, ← hc_v h (by omega)] at k2
    refine vr_iload_n (q := 12) dX9_notes_11 rfl rfl ?_
    refine vr_sipush (q := 15) dX9_notes_12 rfl ⟨by decide, by decide⟩ (by decide) ?_
    -- at X9.notes 15: .if_icmp .ge 24
    refine vr_ic_ge (t := 39) (q := 18) dX9_notes_15 (by decide) rfl (fun c9 => absurd c9 (by omega)) (fun _ => ?_)
    refine vr_aload_n (q := 19) dX9_notes_18 rfl rfl ?_
    refine vr_getR (q := 22) dX9_notes_19 rfl fX9_31 rfl y_X9_15 (by first | (simp only [Int.reduceAdd]; rfl) | rfl) ?_
    refine vr_iload_n (q := 23) dX9_notes_22 rfl rfl ?_
    refine vr_aload_n (q := 24) dX9_notes_23 rfl rfl ?_
    refine vr_getR (q := 27) dX9_notes_24 rfl fX9_31 rfl y_X9_15 (by first | (simp only [Int.reduceAdd]; rfl) | rfl) ?_
    refine vr_iload_n (q := 28) dX9_notes_27 rfl rfl ?_
    refine vr_bipush (q := 30) dX9_notes_28 rfl ⟨by decide, by decide⟩ (by decide) ?_
    refine vr_iaddN (q := 31) dX9_notes_30 rfl ⟨by omega, by omega⟩ ?_
    refine vr_ialdV (q := 32) dX9_notes_31 rfl ⟨by omega, by omega⟩ (show _ = h 76 (k + 38) by unfold hc_; rw [if_neg (by omega)]) ?_
    refine vr_iast (q := 33) dX9_notes_32 rfl ⟨by omega, by omega⟩ ?_
    refine vr_iinc (q := 36) dX9_notes_33 rfl rfl ⟨by omega, by omega⟩ (Nat.le_of_ble_eq_true rfl) rfl rfl ?_
    refine vr_goto (q := 11) dX9_notes_36 (by decide) ?_
    -- at X9.notes 11: .iload_n 1
    exact k2
theorem m_notes (ha : 0 ≤ h 68 16 ∧ h 68 16 ≤ 24) (kk : Post none (mnt_ h)) : Ctr_ g (d + 1) mX9_notes [sv_r 4 8 68] h Post := by
  refine V_mk (by decide +kernel) (Or.inl ⟨rfl, rfl⟩) (Nat.le_of_ble_eq_true rfl) (by simp [sv_c]) ?_
  show V_ _ _ _ 0 [_, _] [] _ _
  refine vr_aload_n (q := 1) dX9_notes_0 rfl rfl ?_
  refine vr_getI (ji := 16) (q := 4) dX9_notes_1 rfl fX9_141 rfl rfl ?_
  refine vr_bipush (q := 6) dX9_notes_4 rfl ⟨by decide, by decide⟩ (by decide) ?_
  -- at X9.notes 6: .if_icmp .ne 43
  refine vr_ic_ne (t := 49) (q := 9) dX9_notes_6 (by decide) rfl (fun c1 => ?_) (fun c1 => ?_)
  · unfold mnt_ at kk
    rw [if_neg c1] at kk
    exact lm_notes2 ⟨by omega, by omega⟩ kk
  · have k2 := lm_notes1 (g := g) (d := d) (by omega) kk 874 0 rfl
    rw [show ((0 : Nat) : Int) = 0 from rfl, hc_0] at k2
    refine vr_iconst (q := 10) dX9_notes_9 rfl ⟨by decide, by decide⟩ ?_
    refine vr_istore_n (q := 11) dX9_notes_10 rfl rfl (Nat.le_of_ble_eq_true rfl) rfl rfl ?_
    -- at X9.notes 11: .iload_n 1
    exact k2
end PM7_
