theorem hc_v (h : SH_) {n : Int} (hn : 0 ≤ n) : hs_ (hc_ h 76 38 76 0 n) 76 n (h 76 (n + 38)) = hc_ h 76 38 76 0 (n + 1) := by
  funext x y
  unfold hc_ hs_
  by_cases c1 : x = 76 ∧ y = n
  · rw [if_pos c1, if_pos ⟨c1.1, by omega, by omega⟩, show 38 + (y - 0) = n + 38 by omega]
  · rw [if_neg c1]
    dsimp only
    by_cases c2 : x = 76 ∧ 0 ≤ y ∧ y < 0 + n
    · rw [if_pos c2, if_pos ⟨c2.1, by omega, by omega⟩]
    · rw [if_neg c2, if_neg (fun z => c2 ⟨z.1, z.2.1, by have h1 := z.2.2; have h2 := z.1; omega⟩)]
section PM6_
variable {g : SG_} {d : Nat} {h : SH_} {Post : Option SV_ → SH_ → Prop}
theorem m_kindIn {l : Int} (hl : 0 ≤ l ∧ l < 6) (kk : Post (some (sv_i (h 74 (4 + 3 * l)))) h) : Ctr_ g d mX9_kindIn [sv_r 4 8 68, sv_i l] h Post := by
  refine V_mk (by decide +kernel) (Or.inr (Or.inl ⟨rfl, rfl⟩)) (Nat.le_of_ble_eq_true rfl) (by simp [sv_c]) ?_
  show V_ _ _ _ 0 [_, _] [] _ _
  refine vr_aload_n (q := 1) dX9_kindIn_0 rfl rfl ?_
  refine vr_getR (q := 4) dX9_kindIn_1 rfl fX9_25 rfl y_X9_13 (by first | (simp only [Int.reduceAdd]; rfl) | rfl) ?_
  refine vr_iconst (q := 5) dX9_kindIn_4 rfl ⟨by decide, by decide⟩ ?_
  refine vr_iconst (q := 6) dX9_kindIn_5 rfl ⟨by decide, by decide⟩ ?_
  refine vr_iload_n (q := 7) dX9_kindIn_6 rfl rfl ?_
  refine vr_imulN (q := 8) dX9_kindIn_7 rfl ⟨by omega, by omega⟩ ?_
  refine vr_iaddN (q := 9) dX9_kindIn_8 rfl ⟨by omega, by omega⟩ ?_
  refine vr_iald (q := 10) dX9_kindIn_9 rfl ⟨by omega, by omega⟩ ?_
  refine vr_iret dX9_kindIn_10 rfl ?_
  first | exact kk | (exfalso; omega) | (repeat (first | exact kk | rw [if_pos (by omega)] at kk | rw [if_neg (by omega)] at kk))
theorem mx_kind {l : Int} (hl : 0 ≤ h 74 2 ∧ h 74 2 ≤ 6) (k1 : ¬ (0 ≤ l ∧ l < h 74 2) → Post (some (sv_i (-1000001))) h) (k2 : (0 ≤ l ∧ l < h 74 2) → Post (some (sv_i (h 74 (4 + 3 * l)))) h) : Ctr_ g (d + 2) mX9_kind [sv_r 4 8 68, sv_i l] h Post := by
  refine V_mk (by decide +kernel) (Or.inr (Or.inl ⟨rfl, rfl⟩)) (Nat.le_of_ble_eq_true rfl) (by simp [sv_c]) ?_
  show V_ _ _ _ 0 [_, _] [] _ _
  refine vr_aload_n (q := 1) dX9_kind_0 rfl rfl ?_
  refine vr_iload_n (q := 2) dX9_kind_1 rfl rfl ?_
  refine vr_iv1 (q := 5) dX9_kind_2 rfl vX9_166 (Nat.le_of_ble_eq_true rfl) ?_
  refine m_isLie hl (fun c2 => ?_) (fun c2 => ?_)
  · refine vr_if_eq (t := 16) (q := 8) dX9_kind_5 (by decide) rfl (fun c9 => absurd c9 (by omega)) (fun _ => ?_)
    refine vr_aload_n (q := 9) dX9_kind_8 rfl rfl ?_
    refine vr_iload_n (q := 10) dX9_kind_9 rfl rfl ?_
    refine vr_iv1 (q := 13) dX9_kind_10 rfl vX9_231 (Nat.le_of_ble_eq_true rfl) ?_
    refine m_kindIn ⟨by omega, by omega⟩ ?_
    refine vr_goto (q := 18) dX9_kind_13 (by decide) ?_
    refine vr_iret dX9_kind_18 rfl ?_
    first | exact k1 (by omega) | exact k2 (by omega)
  · refine vr_if_eq (t := 16) (q := 8) dX9_kind_5 (by decide) rfl (fun _ => ?_) (fun c9 => absurd c9 (by omega))
    refine vr_ldc (x := -1000001) (q := 18) dX9_kind_16 rfl ⟨by decide, by decide⟩ qX9_67 ?_
    refine vr_iret dX9_kind_18 rfl ?_
    first | exact k1 (by omega) | exact k2 (by omega)
theorem mx_trace {k : Int} (ht : 0 ≤ h 68 20 ∧ h 68 20 ≤ 16) (k1 : ¬ (0 ≤ k ∧ k < h 68 20) → Post (some (sv_i (-1000000))) h) (k2 : (0 ≤ k ∧ k < h 68 20) → Post (some (sv_i (h 79 k))) h) : Ctr_ g (d + 1) mX9_trace [sv_r 4 8 68, sv_i k] h Post := by
  refine V_mk (by decide +kernel) (Or.inr (Or.inl ⟨rfl, rfl⟩)) (Nat.le_of_ble_eq_true rfl) (by simp [sv_c]) ?_
  show V_ _ _ _ 0 [_, _] [] _ _
  refine vr_iload_n (q := 1) dX9_trace_0 rfl rfl ?_
  refine vr_iconst (q := 2) dX9_trace_1 rfl ⟨by decide, by decide⟩ ?_
  refine vr_aload_n (q := 3) dX9_trace_2 rfl rfl ?_
  refine vr_getI (ji := 20) (q := 6) dX9_trace_3 rfl fX9_234 rfl rfl ?_
  refine vr_iconst (q := 7) dX9_trace_6 rfl ⟨by decide, by decide⟩ ?_
  refine vr_isubN (q := 8) dX9_trace_7 rfl ⟨by omega, by omega⟩ ?_
  refine vr_is3 (q := 11) dX9_trace_8 rfl vX9_59 (Nat.le_of_ble_eq_true rfl) ?_
  refine m_in (fun c8 => ?_) (fun c8 => ?_)
  · refine vr_if_eq (t := 23) (q := 14) dX9_trace_11 (by decide) rfl (fun c9 => absurd c9 (by omega)) (fun _ => ?_)
    refine vr_aload_n (q := 15) dX9_trace_14 rfl rfl ?_
    refine vr_getR (q := 18) dX9_trace_15 rfl fX9_41 rfl y_X9_19 (by first | (simp only [Int.reduceAdd]; rfl) | rfl) ?_
    refine vr_iload_n (q := 19) dX9_trace_18 rfl rfl ?_
    refine vr_iald (q := 20) dX9_trace_19 rfl ⟨by omega, by omega⟩ ?_
    refine vr_goto (q := 25) dX9_trace_20 (by decide) ?_
    refine vr_iret dX9_trace_25 rfl ?_
    first | exact k1 (by omega) | exact k2 (by omega)
  · refine vr_if_eq (t := 23) (q := 14) dX9_trace_11 (by decide) rfl (fun _ => ?_) (fun c9 => absurd c9 (by omega))
    refine vr_ldc (x := -1000000) (q := 25) dX9_trace_23 rfl ⟨by decide, by decide⟩ qX9_53 ?_
    refine vr_iret dX9_trace_25 rfl ?_
    first | exact k1 (by omega) | exact k2 (by omega)
theorem mx_need {s l : Int} (o : mt_ h) (k1 : ¬ ((0 ≤ s ∧ s < h 74 3) ∧ (0 ≤ l ∧ l < h 74 2)) → Post (some (sv_i (-1000001))) h) (k2 : ((0 ≤ s ∧ s < h 74 3) ∧ (0 ≤ l ∧ l < h 74 2)) → Post (some (sv_i (nd_ (h 74 (4 + 3 * l)) (h 74 (4 + 3 * l + 1)) (h 74 (4 + 3 * l + 2)) (mne_ h s)))) (mw_ h (mne_ h s))) : Ctr_ g (d + 2) mX9_need [sv_r 4 8 68, sv_i s, sv_i l] h Post := by
  have o1 := o.1
  have o2 := o.2.1
  have r19 : ((0 ≤ s ∧ s < h 74 3) ∧ (0 ≤ l ∧ l < h 74 2)) → V_ g (d + 2) mX9_need 19 [some (sv_r 4 8 68), some (sv_i s), some (sv_i l)] [] h Post := by
    intro c
    have kk := k2 c
    have e74 : mw_ h (mne_ h s) 74 = h 74 := mw_n (by decide) (by decide)
    refine vr_aload_n (q := 20) dX9_need_19 rfl rfl ?_
    refine vr_iload_n (q := 21) dX9_need_20 rfl rfl ?_
    -- at X9.need 21: .invokevirtual 176
    refine vr_iv1 (q := 24) dX9_need_21 rfl vX9_176 (Nat.le_of_ble_eq_true rfl) ?_
    refine m_tries ⟨by omega, by omega⟩ o1 (fun l a b => (o.2.2.2.1 l a b).2.2) (o.2.2.2.2 s c.1.1 c.1.2).2.2.1 ?_
    refine vr_aload_n (q := 25) dX9_need_24 rfl rfl ?_
    refine vr_iload_n (q := 26) dX9_need_25 rfl rfl ?_
    -- at X9.need 26: .invokevirtual 160
    refine vr_iv1 (q := 29) dX9_need_26 rfl vX9_160 (Nat.le_of_ble_eq_true rfl) ?_
    refine m_needs (n := 6) ⟨by omega, by omega⟩ (by rw [e74]; exact o.2.2.2.1 l c.2.1 c.2.2) (by rw [mm_mw]; exact mne_mo o c.1) (by decide) ?_
    rw [e74, mm_mw]
    refine vr_iret dX9_need_29 rfl ?_
    exact kk
  refine V_mk (by decide +kernel) (Or.inr (Or.inl ⟨rfl, rfl⟩)) (Nat.le_of_ble_eq_true rfl) (by simp [sv_c]) ?_
  show V_ _ _ _ 0 [_, _, _] [] _ _
  refine vr_aload_n (q := 1) dX9_need_0 rfl rfl ?_
  refine vr_iload_n (q := 2) dX9_need_1 rfl rfl ?_
  refine vr_iv1 (q := 5) dX9_need_2 rfl vX9_163 (Nat.le_of_ble_eq_true rfl) ?_
  refine m_isStranger o2 (fun c2 => ?_) (fun c2 => ?_)
  · refine vr_if_eq (t := 16) (q := 8) dX9_need_5 (by decide) rfl (fun c9 => absurd c9 (by omega)) (fun _ => ?_)
    refine vr_aload_n (q := 9) dX9_need_8 rfl rfl ?_
    refine vr_iload_n (q := 10) dX9_need_9 rfl rfl ?_
    refine vr_iv1 (q := 13) dX9_need_10 rfl vX9_166 (Nat.le_of_ble_eq_true rfl) ?_
    refine m_isLie o1 (fun c10 => ?_) (fun c10 => ?_)
    · refine vr_if_ne (t := 19) (q := 16) dX9_need_13 (by decide) rfl (fun _ => ?_) (fun c9 => absurd c9 (by omega))
      exact r19 (by omega)
    · refine vr_if_ne (t := 19) (q := 16) dX9_need_13 (by decide) rfl (fun c9 => absurd c9 (by omega)) (fun _ => ?_)
      refine vr_ldc (x := -1000001) (q := 18) dX9_need_16 rfl ⟨by decide, by decide⟩ qX9_67 ?_
      refine vr_iret dX9_need_18 rfl ?_
      exact k1 (by omega)
  · refine vr_if_eq (t := 16) (q := 8) dX9_need_5 (by decide) rfl (fun _ => ?_) (fun c9 => absurd c9 (by omega))
    refine vr_ldc (x := -1000001) (q := 18) dX9_need_16 rfl ⟨by decide, by decide⟩ qX9_67 ?_
    refine vr_iret dX9_need_18 rfl ?_
    exact k1 (by omega)
theorem mx_undo (ha : 0 ≤ h 68 16 ∧ h 68 16 ≤ 24) (k1 : h 68 16 = 0 → Post (some (sv_i (-1000002))) h) (k2 : ¬ h 68 16 = 0 → Post (some (sv_i (h 68 16 - 1))) (hc_ (hs_ h 68 16 (h 68 16 - 1)) 76 (38 * (h 68 16 - 1)) 74 0 38)) : Ctr_ g (d + 1) mX9_undo [sv_r 4 8 68] h Post := by
  refine V_mk (by decide +kernel) (Or.inr (Or.inl ⟨rfl, rfl⟩)) (Nat.le_of_ble_eq_true rfl) (by simp [sv_c]) ?_
  show V_ _ _ _ 0 [_] [] _ _
  refine vr_aload_n (q := 1) dX9_undo_0 rfl rfl ?_
  refine vr_getI (ji := 16) (q := 4) dX9_undo_1 rfl fX9_141 rfl rfl ?_
  refine vr_if_ne (t := 10) (q := 7) dX9_undo_4 (by decide) rfl (fun c4 => ?_) (fun c4 => ?_)
  · refine vr_aload_n (q := 11) dX9_undo_10 rfl rfl ?_
    refine vr_dup (q := 12) dX9_undo_11 rfl rfl ?_
    refine vr_getI (ji := 16) (q := 15) dX9_undo_12 rfl fX9_141 rfl rfl ?_
    refine vr_iconst (q := 16) dX9_undo_15 rfl ⟨by decide, by decide⟩ ?_
    refine vr_isubN (q := 17) dX9_undo_16 rfl ⟨by omega, by omega⟩ ?_
    refine vr_put (ji := 16) (q := 20) dX9_undo_17 rfl pX9_141 rfl rfl ?_
    refine vr_aload_n (q := 21) dX9_undo_20 rfl rfl ?_
    refine vr_getR (q := 24) dX9_undo_21 rfl fX9_31 rfl y_X9_15 (by first | (simp only [Int.reduceAdd]; rfl) | rfl) ?_
    refine vr_bipush (q := 26) dX9_undo_24 rfl ⟨by decide, by decide⟩ (by decide) ?_
    refine vr_aload_n (q := 27) dX9_undo_26 rfl rfl ?_
    refine vr_getV (ji := 16) (q := 30) dX9_undo_27 rfl fX9_141 rfl rfl (hs_e _ _ _ _) ?_
    refine vr_imulN (q := 31) dX9_undo_30 rfl ⟨by omega, by omega⟩ ?_
    refine vr_aload_n (q := 32) dX9_undo_31 rfl rfl ?_
    refine vr_getR (q := 35) dX9_undo_32 rfl fX9_25 rfl y_X9_13 (by first | (simp only [Int.reduceAdd]; rfl) | rfl) ?_
    refine vr_iconst (q := 36) dX9_undo_35 rfl ⟨by decide, by decide⟩ ?_
    refine vr_is4 (q := 39) dX9_undo_36 rfl vX9_137 (Nat.le_of_ble_eq_true rfl) ?_
    refine m_copies (by decide) ⟨by omega, by omega, by omega⟩ ⟨by decide, by decide, by decide⟩ ?_
    refine vr_aload_n (q := 40) dX9_undo_39 rfl rfl ?_
    refine vr_getV (ji := 16) (q := 43) dX9_undo_40 rfl fX9_141 rfl rfl (show _ = h 68 16 - 1 by unfold hc_; rw [if_neg (by omega)]; exact hs_e _ _ _ _) ?_
    refine vr_iret dX9_undo_43 rfl ?_
    first | exact k1 (by assumption) | exact k2 (by assumption)
  · refine vr_ldc (x := -1000002) (q := 9) dX9_undo_7 rfl ⟨by decide, by decide⟩ qX9_172 ?_
    refine vr_iret dX9_undo_9 rfl ?_
    first | exact k1 (by assumption) | exact k2 (by assumption)
end PM6_
