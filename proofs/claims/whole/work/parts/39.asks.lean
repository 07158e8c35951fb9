/-- a body's number comes into the trace -/
def lt_ (h : SH_) (b : Int) : SH_ := if h 66 1 < 16 then hs_ (hs_ h 67 (h 66 1) b) 66 1 (h 66 1 + 1) else h
theorem lt_k {h : SH_} {b a : Int} (h1 : a ≠ 66) (h2 : a ≠ 67) : lt_ h b a = h a := by
  unfold lt_
  split
  · rw [hs_k h1, hs_k h2]
  · rfl
theorem lt_r {h : SH_} {b : Int} (ht : 0 ≤ h 66 1 ∧ h 66 1 ≤ 16) : 0 ≤ lt_ h b 66 1 ∧ lt_ h b 66 1 ≤ 16 := by
  unfold lt_
  split
  · rw [hs_e]; omega
  · exact ht
/-- a lie's SIZE and MARK: kind k, weight w, its number l, n strangers nodded at it -/
def mv_ (k w l n : Int) : Int := if k = 1 then l + n else if k = 2 then 2 * (l + n) else if k = 3 then l + n - 1000 else if k = 4 then l - (w - 100) else l - 2 * (w - 100)
def zv_ (k w l n : Int) : Int := if k = 2 then -(w + 2 * (l + n)) else if k = 4 then w - 100 else if k = 5 then 2 * (w - 100) else if k = 1 then w + (l + n) else w + (l + n - 1000)
section PA_
variable {g : SG_} {d : Nat} {h : SH_} {Post : Option SV_ → SH_ → Prop}
theorem c_leaveTrace {b : Int} (ht : 0 ≤ h 66 1 ∧ h 66 1 ≤ 16) (kk : Post none (lt_ h b)) : Ctr_ g d mX1_leaveTrace [sv_r 4 1 66, sv_i b] h Post := by
  unfold lt_ at kk
  refine V_mk (by decide +kernel) (Or.inl ⟨rfl, rfl⟩) (Nat.le_of_ble_eq_true rfl) (by simp [sv_c]) ?_
  show V_ _ _ _ 0 [_, _] [] _ _
  refine vr_aload_n (q := 1) dX1_leaveTrace_0 rfl rfl ?_
  refine vr_getI (ji := 1) (q := 4) dX1_leaveTrace_1 rfl fX1_15 rfl rfl ?_
  refine vr_bipush (q := 6) dX1_leaveTrace_4 rfl ⟨by decide, by decide⟩ (by decide) ?_
  refine vr_ic_ge (t := 29) (q := 9) dX1_leaveTrace_6 (by decide) rfl (fun c6 => ?_) (fun c6 => ?_)
  · refine vr_vret dX1_leaveTrace_29 rfl ?_
    first | exact kk | (exfalso; omega) | (repeat (first | exact kk | rw [if_pos (by omega)] at kk | rw [if_neg (by omega)] at kk))
  · refine vr_aload_n (q := 10) dX1_leaveTrace_9 rfl rfl ?_
    refine vr_getR (q := 13) dX1_leaveTrace_10 rfl fX1_11 rfl y_X1_0 (by first | (simp only [Int.reduceAdd]; rfl) | rfl) ?_
    refine vr_aload_n (q := 14) dX1_leaveTrace_13 rfl rfl ?_
    refine vr_getI (ji := 1) (q := 17) dX1_leaveTrace_14 rfl fX1_15 rfl rfl ?_
    refine vr_iload_n (q := 18) dX1_leaveTrace_17 rfl rfl ?_
    refine vr_iast (q := 19) dX1_leaveTrace_18 rfl ⟨by omega, by omega⟩ ?_
    refine vr_aload_n (q := 20) dX1_leaveTrace_19 rfl rfl ?_
    refine vr_dup (q := 21) dX1_leaveTrace_20 rfl rfl ?_
    refine vr_getV (ji := 1) (q := 24) dX1_leaveTrace_21 rfl fX1_15 rfl rfl (by rw [hs_k (by omega)]) ?_
    refine vr_iconst (q := 25) dX1_leaveTrace_24 rfl ⟨by decide, by decide⟩ ?_
    refine vr_iaddN (q := 26) dX1_leaveTrace_25 rfl ⟨by omega, by omega⟩ ?_
    refine vr_put (ji := 1) (q := 29) dX1_leaveTrace_26 rfl pX1_15 rfl rfl ?_
    refine vr_vret dX1_leaveTrace_29 rfl ?_
    first | exact kk | (exfalso; omega) | (repeat (first | exact kk | rw [if_pos (by omega)] at kk | rw [if_neg (by omega)] at kk))
theorem c_traceAt {i : Int} (ht : 0 ≤ h 66 1 ∧ h 66 1 ≤ 16) (kk : Post (some (sv_i (if 0 ≤ i ∧ i < h 66 1 then h 67 i else -1000000))) h) : Ctr_ g d mX1_traceAt [sv_r 4 1 66, sv_i i] h Post := by
  refine V_mk (by decide +kernel) (Or.inr (Or.inl ⟨rfl, rfl⟩)) (Nat.le_of_ble_eq_true rfl) (by simp [sv_c]) ?_
  show V_ _ _ _ 0 [_, _] [] _ _
  refine vr_iload_n (q := 1) dX1_traceAt_0 rfl rfl ?_
  refine vr_if_lt (t := 21) (q := 4) dX1_traceAt_1 (by decide) rfl (fun c1 => ?_) (fun c1 => ?_)
  · refine vr_ldc (x := -1000000) (q := 23) dX1_traceAt_21 rfl ⟨by decide, by decide⟩ qX1_26 ?_
    refine vr_iret dX1_traceAt_23 rfl ?_
    first | exact kk | (exfalso; omega) | (repeat (first | exact kk | rw [if_pos (by omega)] at kk | rw [if_neg (by omega)] at kk))
  · refine vr_iload_n (q := 5) dX1_traceAt_4 rfl rfl ?_
    refine vr_aload_n (q := 6) dX1_traceAt_5 rfl rfl ?_
    refine vr_getI (ji := 1) (q := 9) dX1_traceAt_6 rfl fX1_15 rfl rfl ?_
    refine vr_ic_ge (t := 21) (q := 12) dX1_traceAt_9 (by decide) rfl (fun c9 => ?_) (fun c9 => ?_)
    · refine vr_ldc (x := -1000000) (q := 23) dX1_traceAt_21 rfl ⟨by decide, by decide⟩ qX1_26 ?_
      refine vr_iret dX1_traceAt_23 rfl ?_
      first | exact kk | (exfalso; omega) | (repeat (first | exact kk | rw [if_pos (by omega)] at kk | rw [if_neg (by omega)] at kk))
    · refine vr_aload_n (q := 13) dX1_traceAt_12 rfl rfl ?_
      refine vr_getR (q := 16) dX1_traceAt_13 rfl fX1_11 rfl y_X1_0 (by first | (simp only [Int.reduceAdd]; rfl) | rfl) ?_
      refine vr_iload_n (q := 17) dX1_traceAt_16 rfl rfl ?_
      refine vr_iald (q := 18) dX1_traceAt_17 rfl ⟨by omega, by omega⟩ ?_
      refine vr_goto (q := 23) dX1_traceAt_18 (by decide) ?_
      refine vr_iret dX1_traceAt_23 rfl ?_
      first | exact kk | (exfalso; omega) | (repeat (first | exact kk | rw [if_pos (by omega)] at kk | rw [if_neg (by omega)] at kk))
theorem c_nearS {k : Int} (hX : sx_ g) (hk : 1 ≤ k ∧ k ≤ 5) (kk : Post (some (sv_i (if k = 2 then 12 else if k = 4 then 13 else if k = 5 then 14 else 11))) h) : Ctr_ g (d + 2) mX1_nearestBody [sv_r 5 1 0, sv_i k] h Post := by
  have e0 := hX 1 (by decide)
  have hb : ∀ i : Int, 0 ≤ i → i < 6 → 0 ≤ i ∧ i < ((sg_X g 1).1 : Int) := fun i h1 h2 => ⟨h1, by rw [e0]; exact h2⟩
  refine V_mk (by decide +kernel) (Or.inr (Or.inl ⟨rfl, rfl⟩)) (Nat.le_of_ble_eq_true rfl) (by simp [sv_c]) ?_
  show V_ _ _ _ 0 [_, _, _, _] [] _ _
  rcases (by omega : k = 1 ∨ k = 2 ∨ k = 3 ∨ k = 4 ∨ k = 5) with rfl | rfl | rfl | rfl | rfl
  · refine vr_iload_n (q := 1) dX1_nearestBody_0 rfl rfl ?_
    refine vr_istore_n (q := 2) dX1_nearestBody_1 rfl rfl (Nat.le_of_ble_eq_true rfl) rfl rfl ?_
    refine vr_iconst (q := 3) dX1_nearestBody_2 rfl ⟨by decide, by decide⟩ ?_
    refine vr_istore_n (q := 4) dX1_nearestBody_3 rfl rfl (Nat.le_of_ble_eq_true rfl) rfl rfl ?_
    refine vr_iload_n (q := 5) dX1_nearestBody_4 rfl rfl ?_
    refine vr_bipush (q := 7) dX1_nearestBody_5 rfl ⟨by decide, by decide⟩ (by decide) ?_
    refine vr_ic_ge (t := 27) (q := 10) dX1_nearestBody_7 (by decide) rfl (fun c9 => absurd c9 (by omega)) (fun _ => ?_)
    refine vr_aload_n (q := 11) dX1_nearestBody_10 rfl rfl ?_
    refine vr_iload_n (q := 12) dX1_nearestBody_11 rfl rfl ?_
    refine vr_xaldV (q := 13) dX1_nearestBody_12 rfl (hb _ (by decide) (by decide)) (show (sg_X g 1).2 _ = 11 by rw [e0]; rfl) ?_
    refine vr_if_ne (t := 27) (q := 16) dX1_nearestBody_13 (by decide) rfl (fun _ => ?_) (fun c9 => absurd c9 (by omega))
    refine vr_aload_n (q := 28) dX1_nearestBody_27 rfl rfl ?_
    refine vr_iload_n (q := 29) dX1_nearestBody_28 rfl rfl ?_
    refine vr_xaldV (q := 30) dX1_nearestBody_29 rfl (hb _ (by decide) (by decide)) (show (sg_X g 1).2 _ = 11 by rw [e0]; rfl) ?_
    refine vr_iret dX1_nearestBody_30 rfl ?_
    first | exact kk | (exfalso; omega) | (repeat (first | exact kk | rw [if_pos (by omega)] at kk | rw [if_neg (by omega)] at kk))
  · refine vr_iload_n (q := 1) dX1_nearestBody_0 rfl rfl ?_
    refine vr_istore_n (q := 2) dX1_nearestBody_1 rfl rfl (Nat.le_of_ble_eq_true rfl) rfl rfl ?_
    refine vr_iconst (q := 3) dX1_nearestBody_2 rfl ⟨by decide, by decide⟩ ?_
    refine vr_istore_n (q := 4) dX1_nearestBody_3 rfl rfl (Nat.le_of_ble_eq_true rfl) rfl rfl ?_
    refine vr_iload_n (q := 5) dX1_nearestBody_4 rfl rfl ?_
    refine vr_bipush (q := 7) dX1_nearestBody_5 rfl ⟨by decide, by decide⟩ (by decide) ?_
    refine vr_ic_ge (t := 27) (q := 10) dX1_nearestBody_7 (by decide) rfl (fun c9 => absurd c9 (by omega)) (fun _ => ?_)
    refine vr_aload_n (q := 11) dX1_nearestBody_10 rfl rfl ?_
    refine vr_iload_n (q := 12) dX1_nearestBody_11 rfl rfl ?_
    refine vr_xaldV (q := 13) dX1_nearestBody_12 rfl (hb _ (by decide) (by decide)) (show (sg_X g 1).2 _ = 12 by rw [e0]; rfl) ?_
    refine vr_if_ne (t := 27) (q := 16) dX1_nearestBody_13 (by decide) rfl (fun _ => ?_) (fun c9 => absurd c9 (by omega))
    refine vr_aload_n (q := 28) dX1_nearestBody_27 rfl rfl ?_
    refine vr_iload_n (q := 29) dX1_nearestBody_28 rfl rfl ?_
    refine vr_xaldV (q := 30) dX1_nearestBody_29 rfl (hb _ (by decide) (by decide)) (show (sg_X g 1).2 _ = 12 by rw [e0]; rfl) ?_
    refine vr_iret dX1_nearestBody_30 rfl ?_
    first | exact kk | (exfalso; omega) | (repeat (first | exact kk | rw [if_pos (by omega)] at kk | rw [if_neg (by omega)] at kk))
  · refine vr_iload_n (q := 1) dX1_nearestBody_0 rfl rfl ?_
    refine vr_istore_n (q := 2) dX1_nearestBody_1 rfl rfl (Nat.le_of_ble_eq_true rfl) rfl rfl ?_
    refine vr_iconst (q := 3) dX1_nearestBody_2 rfl ⟨by decide, by decide⟩ ?_
    refine vr_istore_n (q := 4) dX1_nearestBody_3 rfl rfl (Nat.le_of_ble_eq_true rfl) rfl rfl ?_
    refine vr_iload_n (q := 5) dX1_nearestBody_4 rfl rfl ?_
    refine vr_bipush (q := 7) dX1_nearestBody_5 rfl ⟨by decide, by decide⟩ (by decide) ?_
    refine vr_ic_ge (t := 27) (q := 10) dX1_nearestBody_7 (by decide) rfl (fun c9 => absurd c9 (by omega)) (fun _ => ?_)
    refine vr_aload_n (q := 11) dX1_nearestBody_10 rfl rfl ?_
    refine vr_iload_n (q := 12) dX1_nearestBody_11 rfl rfl ?_
    refine vr_xaldV (q := 13) dX1_nearestBody_12 rfl (hb _ (by decide) (by decide)) (show (sg_X g 1).2 _ = 0 by rw [e0]; rfl) ?_
    refine vr_if_ne (t := 27) (q := 16) dX1_nearestBody_13 (by decide) rfl (fun c9 => absurd c9 (by omega)) (fun _ => ?_)
    refine vr_iload_n (q := 17) dX1_nearestBody_16 rfl rfl ?_
    refine vr_is1 (q := 20) dX1_nearestBody_17 rfl vX1_48 (Nat.le_of_ble_eq_true rfl) ?_
    refine c_above hX (by decide) ?_
    skip
    refine vr_istore_n (q := 21) dX1_nearestBody_20 rfl rfl (Nat.le_of_ble_eq_true rfl) rfl rfl ?_
    refine vr_iinc (q := 24) dX1_nearestBody_21 rfl rfl ⟨by omega, by omega⟩ (Nat.le_of_ble_eq_true rfl) rfl rfl ?_
    refine vr_goto (q := 4) dX1_nearestBody_24 (by decide) ?_
    refine vr_iload_n (q := 5) dX1_nearestBody_4 rfl rfl ?_
    refine vr_bipush (q := 7) dX1_nearestBody_5 rfl ⟨by decide, by decide⟩ (by decide) ?_
    refine vr_ic_ge (t := 27) (q := 10) dX1_nearestBody_7 (by decide) rfl (fun c9 => absurd c9 (by omega)) (fun _ => ?_)
    refine vr_aload_n (q := 11) dX1_nearestBody_10 rfl rfl ?_
    refine vr_iload_n (q := 12) dX1_nearestBody_11 rfl rfl ?_
    refine vr_xaldV (q := 13) dX1_nearestBody_12 rfl (hb _ (by decide) (by decide)) (show (sg_X g 1).2 _ = 11 by rw [e0]; rfl) ?_
    refine vr_if_ne (t := 27) (q := 16) dX1_nearestBody_13 (by decide) rfl (fun _ => ?_) (fun c9 => absurd c9 (by omega))
    refine vr_aload_n (q := 28) dX1_nearestBody_27 rfl rfl ?_
    refine vr_iload_n (q := 29) dX1_nearestBody_28 rfl rfl ?_
    refine vr_xaldV (q := 30) dX1_nearestBody_29 rfl (hb _ (by decide) (by decide)) (show (sg_X g 1).2 _ = 11 by rw [e0]; rfl) ?_
    refine vr_iret dX1_nearestBody_30 rfl ?_
    first | exact kk | (exfalso; omega) | (repeat (first | exact kk | rw [if_pos (by omega)] at kk | rw [if_neg (by omega)] at kk))
  · refine vr_iload_n (q := 1) dX1_nearestBody_0 rfl rfl ?_
    refine vr_istore_n (q := 2) dX1_nearestBody_1 rfl rfl (Nat.le_of_ble_eq_true rfl) rfl rfl ?_
    refine vr_iconst (q := 3) dX1_nearestBody_2 rfl ⟨by decide, by decide⟩ ?_
    refine vr_istore_n (q := 4) dX1_nearestBody_3 rfl rfl (Nat.le_of_ble_eq_true rfl) rfl rfl ?_
    refine vr_iload_n (q := 5) dX1_nearestBody_4 rfl rfl ?_
    refine vr_bipush (q := 7) dX1_nearestBody_5 rfl ⟨by decide, by decide⟩ (by decide) ?_
    refine vr_ic_ge (t := 27) (q := 10) dX1_nearestBody_7 (by decide) rfl (fun c9 => absurd c9 (by omega)) (fun _ => ?_)
    refine vr_aload_n (q := 11) dX1_nearestBody_10 rfl rfl ?_
    refine vr_iload_n (q := 12) dX1_nearestBody_11 rfl rfl ?_
    refine vr_xaldV (q := 13) dX1_nearestBody_12 rfl (hb _ (by decide) (by decide)) (show (sg_X g 1).2 _ = 13 by rw [e0]; rfl) ?_
    refine vr_if_ne (t := 27) (q := 16) dX1_nearestBody_13 (by decide) rfl (fun _ => ?_) (fun c9 => absurd c9 (by omega))
    refine vr_aload_n (q := 28) dX1_nearestBody_27 rfl rfl ?_
    refine vr_iload_n (q := 29) dX1_nearestBody_28 rfl rfl ?_
    refine vr_xaldV (q := 30) dX1_nearestBody_29 rfl (hb _ (by decide) (by decide)) (show (sg_X g 1).2 _ = 13 by rw [e0]; rfl) ?_
    refine vr_iret dX1_nearestBody_30 rfl ?_
    first | exact kk | (exfalso; omega) | (repeat (first | exact kk | rw [if_pos (by omega)] at kk | rw [if_neg (by omega)] at kk))
  · refine vr_iload_n (q := 1) dX1_nearestBody_0 rfl rfl ?_
    refine vr_istore_n (q := 2) dX1_nearestBody_1 rfl rfl (Nat.le_of_ble_eq_true rfl) rfl rfl ?_
    refine vr_iconst (q := 3) dX1_nearestBody_2 rfl ⟨by decide, by decide⟩ ?_
    refine vr_istore_n (q := 4) dX1_nearestBody_3 rfl rfl (Nat.le_of_ble_eq_true rfl) rfl rfl ?_
    refine vr_iload_n (q := 5) dX1_nearestBody_4 rfl rfl ?_
    refine vr_bipush (q := 7) dX1_nearestBody_5 rfl ⟨by decide, by decide⟩ (by decide) ?_
    refine vr_ic_ge (t := 27) (q := 10) dX1_nearestBody_7 (by decide) rfl (fun c9 => absurd c9 (by omega)) (fun _ => ?_)
    refine vr_aload_n (q := 11) dX1_nearestBody_10 rfl rfl ?_
    refine vr_iload_n (q := 12) dX1_nearestBody_11 rfl rfl ?_
    refine vr_xaldV (q := 13) dX1_nearestBody_12 rfl (hb _ (by decide) (by decide)) (show (sg_X g 1).2 _ = 14 by rw [e0]; rfl) ?_
    refine vr_if_ne (t := 27) (q := 16) dX1_nearestBody_13 (by decide) rfl (fun _ => ?_) (fun c9 => absurd c9 (by omega))
    refine vr_aload_n (q := 28) dX1_nearestBody_27 rfl rfl ?_
    refine vr_iload_n (q := 29) dX1_nearestBody_28 rfl rfl ?_
    refine vr_xaldV (q := 30) dX1_nearestBody_29 rfl (hb _ (by decide) (by decide)) (show (sg_X g 1).2 _ = 14 by rw [e0]; rfl) ?_
    refine vr_iret dX1_nearestBody_30 rfl ?_
    first | exact kk | (exfalso; omega) | (repeat (first | exact kk | rw [if_pos (by omega)] at kk | rw [if_neg (by omega)] at kk))
theorem c_nearM {k : Int} (hX : sx_ g) (hk : 1 ≤ k ∧ k ≤ 5) (kk : Post (some (sv_i (if k = 1 then 21 else if k = 2 then 24 else if k = 3 then 22 else 23))) h) : Ctr_ g (d + 2) mX1_nearestBody [sv_r 5 2 0, sv_i k] h Post := by
  have e0 := hX 2 (by decide)
  have hb : ∀ i : Int, 0 ≤ i → i < 6 → 0 ≤ i ∧ i < ((sg_X g 2).1 : Int) := fun i h1 h2 => ⟨h1, by rw [e0]; exact h2⟩
  refine V_mk (by decide +kernel) (Or.inr (Or.inl ⟨rfl, rfl⟩)) (Nat.le_of_ble_eq_true rfl) (by simp [sv_c]) ?_
  show V_ _ _ _ 0 [_, _, _, _] [] _ _
  rcases (by omega : k = 1 ∨ k = 2 ∨ k = 3 ∨ k = 4 ∨ k = 5) with rfl | rfl | rfl | rfl | rfl
  · refine vr_iload_n (q := 1) dX1_nearestBody_0 rfl rfl ?_
    refine vr_istore_n (q := 2) dX1_nearestBody_1 rfl rfl (Nat.le_of_ble_eq_true rfl) rfl rfl ?_
    refine vr_iconst (q := 3) dX1_nearestBody_2 rfl ⟨by decide, by decide⟩ ?_
    refine vr_istore_n (q := 4) dX1_nearestBody_3 rfl rfl (Nat.le_of_ble_eq_true rfl) rfl rfl ?_
    refine vr_iload_n (q := 5) dX1_nearestBody_4 rfl rfl ?_
    refine vr_bipush (q := 7) dX1_nearestBody_5 rfl ⟨by decide, by decide⟩ (by decide) ?_
    refine vr_ic_ge (t := 27) (q := 10) dX1_nearestBody_7 (by decide) rfl (fun c9 => absurd c9 (by omega)) (fun _ => ?_)
    refine vr_aload_n (q := 11) dX1_nearestBody_10 rfl rfl ?_
    refine vr_iload_n (q := 12) dX1_nearestBody_11 rfl rfl ?_
    refine vr_xaldV (q := 13) dX1_nearestBody_12 rfl (hb _ (by decide) (by decide)) (show (sg_X g 2).2 _ = 21 by rw [e0]; rfl) ?_
    refine vr_if_ne (t := 27) (q := 16) dX1_nearestBody_13 (by decide) rfl (fun _ => ?_) (fun c9 => absurd c9 (by omega))
    refine vr_aload_n (q := 28) dX1_nearestBody_27 rfl rfl ?_
    refine vr_iload_n (q := 29) dX1_nearestBody_28 rfl rfl ?_
    refine vr_xaldV (q := 30) dX1_nearestBody_29 rfl (hb _ (by decide) (by decide)) (show (sg_X g 2).2 _ = 21 by rw [e0]; rfl) ?_
    refine vr_iret dX1_nearestBody_30 rfl ?_
    first | exact kk | (exfalso; omega) | (repeat (first | exact kk | rw [if_pos (by omega)] at kk | rw [if_neg (by omega)] at kk))
  · refine vr_iload_n (q := 1) dX1_nearestBody_0 rfl rfl ?_
    refine vr_istore_n (q := 2) dX1_nearestBody_1 rfl rfl (Nat.le_of_ble_eq_true rfl) rfl rfl ?_
    refine vr_iconst (q := 3) dX1_nearestBody_2 rfl ⟨by decide, by decide⟩ ?_
    refine vr_istore_n (q := 4) dX1_nearestBody_3 rfl rfl (Nat.le_of_ble_eq_true rfl) rfl rfl ?_
    refine vr_iload_n (q := 5) dX1_nearestBody_4 rfl rfl ?_
    refine vr_bipush (q := 7) dX1_nearestBody_5 rfl ⟨by decide, by decide⟩ (by decide) ?_
    refine vr_ic_ge (t := 27) (q := 10) dX1_nearestBody_7 (by decide) rfl (fun c9 => absurd c9 (by omega)) (fun _ => ?_)
    refine vr_aload_n (q := 11) dX1_nearestBody_10 rfl rfl ?_
    refine vr_iload_n (q := 12) dX1_nearestBody_11 rfl rfl ?_
    refine vr_xaldV (q := 13) dX1_nearestBody_12 rfl (hb _ (by decide) (by decide)) (show (sg_X g 2).2 _ = 24 by rw [e0]; rfl) ?_
    refine vr_if_ne (t := 27) (q := 16) dX1_nearestBody_13 (by decide) rfl (fun _ => ?_) (fun c9 => absurd c9 (by omega))
    refine vr_aload_n (q := 28) dX1_nearestBody_27 rfl rfl ?_
    refine vr_iload_n (q := 29) dX1_nearestBody_28 rfl rfl ?_
    refine vr_xaldV (q := 30) dX1_nearestBody_29 rfl (hb _ (by decide) (by decide)) (show (sg_X g 2).2 _ = 24 by rw [e0]; rfl) ?_
    refine vr_iret dX1_nearestBody_30 rfl ?_
    first | exact kk | (exfalso; omega) | (repeat (first | exact kk | rw [if_pos (by omega)] at kk | rw [if_neg (by omega)] at kk))
  · refine vr_iload_n (q := 1) dX1_nearestBody_0 rfl rfl ?_
    refine vr_istore_n (q := 2) dX1_nearestBody_1 rfl rfl (Nat.le_of_ble_eq_true rfl) rfl rfl ?_
    refine vr_iconst (q := 3) dX1_nearestBody_2 rfl ⟨by decide, by decide⟩ ?_
    refine vr_istore_n (q := 4) dX1_nearestBody_3 rfl rfl (Nat.le_of_ble_eq_true rfl) rfl rfl ?_
    refine vr_iload_n (q := 5) dX1_nearestBody_4 rfl rfl ?_
    refine vr_bipush (q := 7) dX1_nearestBody_5 rfl ⟨by decide, by decide⟩ (by decide) ?_
    refine vr_ic_ge (t := 27) (q := 10) dX1_nearestBody_7 (by decide) rfl (fun c9 => absurd c9 (by omega)) (fun _ => ?_)
    refine vr_aload_n (q := 11) dX1_nearestBody_10 rfl rfl ?_
    refine vr_iload_n (q := 12) dX1_nearestBody_11 rfl rfl ?_
    refine vr_xaldV (q := 13) dX1_nearestBody_12 rfl (hb _ (by decide) (by decide)) (show (sg_X g 2).2 _ = 22 by rw [e0]; rfl) ?_
    refine vr_if_ne (t := 27) (q := 16) dX1_nearestBody_13 (by decide) rfl (fun _ => ?_) (fun c9 => absurd c9 (by omega))
    refine vr_aload_n (q := 28) dX1_nearestBody_27 rfl rfl ?_
    refine vr_iload_n (q := 29) dX1_nearestBody_28 rfl rfl ?_
    refine vr_xaldV (q := 30) dX1_nearestBody_29 rfl (hb _ (by decide) (by decide)) (show (sg_X g 2).2 _ = 22 by rw [e0]; rfl) ?_
    refine vr_iret dX1_nearestBody_30 rfl ?_
    first | exact kk | (exfalso; omega) | (repeat (first | exact kk | rw [if_pos (by omega)] at kk | rw [if_neg (by omega)] at kk))
  · refine vr_iload_n (q := 1) dX1_nearestBody_0 rfl rfl ?_
    refine vr_istore_n (q := 2) dX1_nearestBody_1 rfl rfl (Nat.le_of_ble_eq_true rfl) rfl rfl ?_
    refine vr_iconst (q := 3) dX1_nearestBody_2 rfl ⟨by decide, by decide⟩ ?_
    refine vr_istore_n (q := 4) dX1_nearestBody_3 rfl rfl (Nat.le_of_ble_eq_true rfl) rfl rfl ?_
    refine vr_iload_n (q := 5) dX1_nearestBody_4 rfl rfl ?_
    refine vr_bipush (q := 7) dX1_nearestBody_5 rfl ⟨by decide, by decide⟩ (by decide) ?_
    refine vr_ic_ge (t := 27) (q := 10) dX1_nearestBody_7 (by decide) rfl (fun c9 => absurd c9 (by omega)) (fun _ => ?_)
    refine vr_aload_n (q := 11) dX1_nearestBody_10 rfl rfl ?_
    refine vr_iload_n (q := 12) dX1_nearestBody_11 rfl rfl ?_
    refine vr_xaldV (q := 13) dX1_nearestBody_12 rfl (hb _ (by decide) (by decide)) (show (sg_X g 2).2 _ = 23 by rw [e0]; rfl) ?_
    refine vr_if_ne (t := 27) (q := 16) dX1_nearestBody_13 (by decide) rfl (fun _ => ?_) (fun c9 => absurd c9 (by omega))
    refine vr_aload_n (q := 28) dX1_nearestBody_27 rfl rfl ?_
    refine vr_iload_n (q := 29) dX1_nearestBody_28 rfl rfl ?_
    refine vr_xaldV (q := 30) dX1_nearestBody_29 rfl (hb _ (by decide) (by decide)) (show (sg_X g 2).2 _ = 23 by rw [e0]; rfl) ?_
    refine vr_iret dX1_nearestBody_30 rfl ?_
    first | exact kk | (exfalso; omega) | (repeat (first | exact kk | rw [if_pos (by omega)] at kk | rw [if_neg (by omega)] at kk))
  · refine vr_iload_n (q := 1) dX1_nearestBody_0 rfl rfl ?_
    refine vr_istore_n (q := 2) dX1_nearestBody_1 rfl rfl (Nat.le_of_ble_eq_true rfl) rfl rfl ?_
    refine vr_iconst (q := 3) dX1_nearestBody_2 rfl ⟨by decide, by decide⟩ ?_
    refine vr_istore_n (q := 4) dX1_nearestBody_3 rfl rfl (Nat.le_of_ble_eq_true rfl) rfl rfl ?_
    refine vr_iload_n (q := 5) dX1_nearestBody_4 rfl rfl ?_
    refine vr_bipush (q := 7) dX1_nearestBody_5 rfl ⟨by decide, by decide⟩ (by decide) ?_
    refine vr_ic_ge (t := 27) (q := 10) dX1_nearestBody_7 (by decide) rfl (fun c9 => absurd c9 (by omega)) (fun _ => ?_)
    refine vr_aload_n (q := 11) dX1_nearestBody_10 rfl rfl ?_
    refine vr_iload_n (q := 12) dX1_nearestBody_11 rfl rfl ?_
    refine vr_xaldV (q := 13) dX1_nearestBody_12 rfl (hb _ (by decide) (by decide)) (show (sg_X g 2).2 _ = 0 by rw [e0]; rfl) ?_
    refine vr_if_ne (t := 27) (q := 16) dX1_nearestBody_13 (by decide) rfl (fun c9 => absurd c9 (by omega)) (fun _ => ?_)
    refine vr_iload_n (q := 17) dX1_nearestBody_16 rfl rfl ?_
    refine vr_is1 (q := 20) dX1_nearestBody_17 rfl vX1_48 (Nat.le_of_ble_eq_true rfl) ?_
    refine c_above hX (by decide) ?_
    skip
    refine vr_istore_n (q := 21) dX1_nearestBody_20 rfl rfl (Nat.le_of_ble_eq_true rfl) rfl rfl ?_
    refine vr_iinc (q := 24) dX1_nearestBody_21 rfl rfl ⟨by omega, by omega⟩ (Nat.le_of_ble_eq_true rfl) rfl rfl ?_
    refine vr_goto (q := 4) dX1_nearestBody_24 (by decide) ?_
    refine vr_iload_n (q := 5) dX1_nearestBody_4 rfl rfl ?_
    refine vr_bipush (q := 7) dX1_nearestBody_5 rfl ⟨by decide, by decide⟩ (by decide) ?_
    refine vr_ic_ge (t := 27) (q := 10) dX1_nearestBody_7 (by decide) rfl (fun c9 => absurd c9 (by omega)) (fun _ => ?_)
    refine vr_aload_n (q := 11) dX1_nearestBody_10 rfl rfl ?_
    refine vr_iload_n (q := 12) dX1_nearestBody_11 rfl rfl ?_
    refine vr_xaldV (q := 13) dX1_nearestBody_12 rfl (hb _ (by decide) (by decide)) (show (sg_X g 2).2 _ = 23 by rw [e0]; rfl) ?_
    refine vr_if_ne (t := 27) (q := 16) dX1_nearestBody_13 (by decide) rfl (fun _ => ?_) (fun c9 => absurd c9 (by omega))
    refine vr_aload_n (q := 28) dX1_nearestBody_27 rfl rfl ?_
    refine vr_iload_n (q := 29) dX1_nearestBody_28 rfl rfl ?_
    refine vr_xaldV (q := 30) dX1_nearestBody_29 rfl (hb _ (by decide) (by decide)) (show (sg_X g 2).2 _ = 23 by rw [e0]; rfl) ?_
    refine vr_iret dX1_nearestBody_30 rfl ?_
    first | exact kk | (exfalso; omega) | (repeat (first | exact kk | rw [if_pos (by omega)] at kk | rw [if_neg (by omega)] at kk))
end PA_
