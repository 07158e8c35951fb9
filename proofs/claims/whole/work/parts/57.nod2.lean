section PN2_
variable {g : SG_} {d : Nat} {h : SH_} {Post : Option SV_ → SH_ → Prop}
theorem x_need {s l : Int} (o : to_ h) (k1 : ¬ ((0 ≤ s ∧ s < h 7 3) ∧ (0 ≤ l ∧ l < h 7 2)) → Post (some (sv_i (-1000001))) h) (k2 : ((0 ≤ s ∧ s < h 7 3) ∧ (0 ≤ l ∧ l < h 7 2)) → Post (some (sv_i (nd_ (h 8 l) (h 9 l) (h 10 l) (en_ h s)))) (ms_ h 52 (en_ h s))) : Ctr_ g (d + 3) mX8_need [sv_r 4 7 0, sv_i s, sv_i l] h Post := by
  have o1 := o.1
  have e8 : ms_ h 52 (en_ h s) 8 = h 8 := ms_lo (by decide) (by decide)
  have e9 : ms_ h 52 (en_ h s) 9 = h 9 := ms_lo (by decide) (by decide)
  have e10 : ms_ h 52 (en_ h s) 10 = h 10 := ms_lo (by decide) (by decide)
  refine V_mk (by decide +kernel) (Or.inr (Or.inl ⟨rfl, rfl⟩)) (Nat.le_of_ble_eq_true rfl) (by simp [sv_c]) ?_
  show V_ _ _ _ 0 [_, _, _] [] _ _
  refine vr_aload_n (q := 1) dX8_need_0 rfl rfl ?_
  refine vr_getA (q := 4) dX8_need_1 rfl fX8_26 rfl ⟨by decide, by decide, rfl⟩ ?_
  refine vr_iload_n (q := 5) dX8_need_4 rfl rfl ?_
  refine vr_iv1 (q := 8) dX8_need_5 rfl vX8_132 (Nat.le_of_ble_eq_true rfl) ?_
  refine c_hasStranger (fun c5 => ?_) (fun c5 => ?_)
  · refine vr_if_eq (t := 22) (q := 11) dX8_need_8 (by decide) rfl (fun c9 => absurd c9 (by omega)) (fun _ => ?_)
    refine vr_aload_n (q := 12) dX8_need_11 rfl rfl ?_
    refine vr_getA (q := 15) dX8_need_12 rfl fX8_26 rfl ⟨by decide, by decide, rfl⟩ ?_
    refine vr_iload_n (q := 16) dX8_need_15 rfl rfl ?_
    refine vr_iv1 (q := 19) dX8_need_16 rfl vX8_135 (Nat.le_of_ble_eq_true rfl) ?_
    refine c_hasLie (fun c16 => ?_) (fun c16 => ?_)
    · refine vr_if_ne (t := 25) (q := 22) dX8_need_19 (by decide) rfl (fun _ => ?_) (fun c9 => absurd c9 (by omega))
      refine vr_aload_n (q := 26) dX8_need_25 rfl rfl ?_
      refine vr_getA (q := 29) dX8_need_26 rfl fX8_47 rfl ⟨by decide, by decide, rfl⟩ ?_
      refine vr_aload_n (q := 30) dX8_need_29 rfl rfl ?_
      refine vr_getA (q := 33) dX8_need_30 rfl fX8_26 rfl ⟨by decide, by decide, rfl⟩ ?_
      refine vr_iload_n (q := 34) dX8_need_33 rfl rfl ?_
      refine vr_iv2 (q := 37) dX8_need_34 rfl vX8_147 (Nat.le_of_ble_eq_true rfl) ?_
      refine c_mindOf o ⟨by omega, by omega⟩ ?_
      refine vr_aload_n (q := 38) dX8_need_37 rfl rfl ?_
      refine vr_getA (q := 41) dX8_need_38 rfl fX8_26 rfl ⟨by decide, by decide, rfl⟩ ?_
      refine vr_iload_n (q := 42) dX8_need_41 rfl rfl ?_
      refine vr_iv2 (q := 45) dX8_need_42 rfl vX8_208 (Nat.le_of_ble_eq_true rfl) ?_
      refine c_needOf (n := 6) ⟨by omega, by omega⟩ (by rw [e8, e9, e10]; exact o.2.2.2.1 l (by omega) (by omega)) (by rw [mu_ms]; exact en_mo o ⟨by omega, by omega⟩) (by decide) ?_
      rw [e8, e9, e10, mu_ms]
      refine vr_iret dX8_need_45 rfl ?_
      first | exact k1 (by omega) | exact k2 ⟨⟨by omega, by omega⟩, by omega, by omega⟩
    · refine vr_if_ne (t := 25) (q := 22) dX8_need_19 (by decide) rfl (fun c9 => absurd c9 (by omega)) (fun _ => ?_)
      refine vr_ldc (x := -1000001) (q := 24) dX8_need_22 rfl ⟨by decide, by decide⟩ qX8_69 ?_
      refine vr_iret dX8_need_24 rfl ?_
      first | exact k1 (by omega) | exact k2 ⟨⟨by omega, by omega⟩, by omega, by omega⟩
  · refine vr_if_eq (t := 22) (q := 11) dX8_need_8 (by decide) rfl (fun _ => ?_) (fun c9 => absurd c9 (by omega))
    refine vr_ldc (x := -1000001) (q := 24) dX8_need_22 rfl ⟨by decide, by decide⟩ qX8_69 ?_
    refine vr_iret dX8_need_24 rfl ?_
    first | exact k1 (by omega) | exact k2 ⟨⟨by omega, by omega⟩, by omega, by omega⟩
theorem x_nods {s : Int} (o : to_ h) (k1 : ¬ (0 ≤ s ∧ s < h 7 3) → Post (some (sv_i (-1000001))) h) (k2 : (0 ≤ s ∧ s < h 7 3) → Post (some (sv_i (ns_ (tf_ h) (en_ h s) (ut_ (h 7 2) (h 13 s)) (h 7 2).toNat))) (ms_ h 52 (en_ h s))) : Ctr_ g (d + 5) mX8_nods [sv_r 4 7 0, sv_i s] h Post := by
  refine V_mk (by decide +kernel) (Or.inr (Or.inl ⟨rfl, rfl⟩)) (Nat.le_of_ble_eq_true rfl) (by simp [sv_c]) ?_
  show V_ _ _ _ 0 [_, _] [] _ _
  refine vr_aload_n (q := 1) dX8_nods_0 rfl rfl ?_
  refine vr_getA (q := 4) dX8_nods_1 rfl fX8_26 rfl ⟨by decide, by decide, rfl⟩ ?_
  refine vr_iload_n (q := 5) dX8_nods_4 rfl rfl ?_
  refine vr_iv1 (q := 8) dX8_nods_5 rfl vX8_132 (Nat.le_of_ble_eq_true rfl) ?_
  refine c_hasStranger (fun c5 => ?_) (fun c5 => ?_)
  · refine vr_if_ne (t := 14) (q := 11) dX8_nods_8 (by decide) rfl (fun _ => ?_) (fun c9 => absurd c9 (by omega))
    refine vr_aload_n (q := 15) dX8_nods_14 rfl rfl ?_
    refine vr_getA (q := 18) dX8_nods_15 rfl fX8_47 rfl ⟨by decide, by decide, rfl⟩ ?_
    refine vr_aload_n (q := 19) dX8_nods_18 rfl rfl ?_
    refine vr_getA (q := 22) dX8_nods_19 rfl fX8_26 rfl ⟨by decide, by decide, rfl⟩ ?_
    refine vr_iload_n (q := 23) dX8_nods_22 rfl rfl ?_
    refine vr_iv2 (q := 26) dX8_nods_23 rfl vX8_212 (Nat.le_of_ble_eq_true rfl) ?_
    refine c_nodsNow o ⟨by omega, by omega⟩ ?_
    refine vr_iret dX8_nods_26 rfl ?_
    first | exact k1 (by omega) | exact k2 ⟨by omega, by omega⟩
  · refine vr_if_ne (t := 14) (q := 11) dX8_nods_8 (by decide) rfl (fun c9 => absurd c9 (by omega)) (fun _ => ?_)
    refine vr_ldc (x := -1000001) (q := 13) dX8_nods_11 rfl ⟨by decide, by decide⟩ qX8_69 ?_
    refine vr_iret dX8_nods_13 rfl ?_
    first | exact k1 (by omega) | exact k2 ⟨by omega, by omega⟩
theorem x_dead {s : Int} (o : to_ h) (k1 : ¬ (0 ≤ s ∧ s < h 7 3) → Post (some (sv_i (-1000001))) h) (k2 : (0 ≤ s ∧ s < h 7 3) → ∀ h2, fk_ h h2 → Post (some (sv_i (dd_ h s))) h2) : Ctr_ g (d + 14) mX8_dead [sv_r 4 7 0, sv_i s] h Post := by
  refine V_mk (by decide +kernel) (Or.inr (Or.inl ⟨rfl, rfl⟩)) (Nat.le_of_ble_eq_true rfl) (by simp [sv_c]) ?_
  show V_ _ _ _ 0 [_, _] [] _ _
  refine vr_aload_n (q := 1) dX8_dead_0 rfl rfl ?_
  refine vr_getA (q := 4) dX8_dead_1 rfl fX8_26 rfl ⟨by decide, by decide, rfl⟩ ?_
  refine vr_iload_n (q := 5) dX8_dead_4 rfl rfl ?_
  refine vr_iv1 (q := 8) dX8_dead_5 rfl vX8_132 (Nat.le_of_ble_eq_true rfl) ?_
  refine c_hasStranger (fun c5 => ?_) (fun c5 => ?_)
  · refine vr_if_ne (t := 14) (q := 11) dX8_dead_8 (by decide) rfl (fun _ => ?_) (fun c9 => absurd c9 (by omega))
    refine vr_aload_n (q := 15) dX8_dead_14 rfl rfl ?_
    refine vr_getA (q := 18) dX8_dead_15 rfl fX8_47 rfl ⟨by decide, by decide, rfl⟩ ?_
    refine vr_aload_n (q := 19) dX8_dead_18 rfl rfl ?_
    refine vr_getA (q := 22) dX8_dead_19 rfl fX8_26 rfl ⟨by decide, by decide, rfl⟩ ?_
    refine vr_iload_n (q := 23) dX8_dead_22 rfl rfl ?_
    refine vr_iv2 (q := 26) dX8_dead_23 rfl vX8_236 (Nat.le_of_ble_eq_true rfl) ?_
    refine c_deadLies o ⟨by omega, by omega⟩ (fun h2 f2 => ?_)
    refine vr_iret dX8_dead_26 rfl ?_
    first | exact k1 (by omega) | exact k2 ⟨by omega, by omega⟩ h2 f2
  · refine vr_if_ne (t := 14) (q := 11) dX8_dead_8 (by decide) rfl (fun c9 => absurd c9 (by omega)) (fun _ => ?_)
    refine vr_ldc (x := -1000001) (q := 13) dX8_dead_11 rfl ⟨by decide, by decide⟩ qX8_69 ?_
    refine vr_iret dX8_dead_13 rfl ?_
    first | exact k1 (by omega) | exact k2 ⟨by omega, by omega⟩ h2 f2
theorem l_order62 {s x k : Int} {b : BR_} {h2 : SH_} (hb : br_ h2 b) (hk : -1 ≤ k ∧ k < 6) (kk : Post (some (sv_i (if k < 0 then b.2 else (b.1[k.toNat]?).getD (-1000000)))) h2) : V_ g (d + 14) mX8_order 66 [some (sv_r 4 7 0), some (sv_i s), some (sv_i x), some (sv_i k)] [] h2 Post := by
  obtain ⟨b1, b2, b3, b4, b5⟩ := hb
  refine vr_iload_n (q := 67) dX8_order_66 rfl rfl ?_
  -- at X8.order 67: .ifCond .ge 13
  refine vr_if_ge (t := 80) (q := 70) dX8_order_67 (by decide) rfl (fun c1 => ?_) (fun c1 => ?_)
  · rw [if_neg (by omega)] at kk
    refine vr_aload_n (q := 81) dX8_order_80 rfl rfl ?_
    refine vr_getA (q := 84) dX8_order_81 rfl fX8_47 rfl ⟨by decide, by decide, rfl⟩ ?_
    refine vr_iload_n (q := 85) dX8_order_84 rfl rfl ?_
    -- at X8.order 85: .invokevirtual 225
    refine vr_iv1 (q := 88) dX8_order_85 rfl vX8_225 (Nat.le_of_ble_eq_true rfl) ?_
    refine c_bestAt ⟨by omega, by omega⟩ ?_
    refine vr_iret dX8_order_88 rfl ?_
    by_cases c2 : k < h2 46 3
    · rw [if_pos ⟨by omega, c2⟩]
      have hlt : k.toNat < b.1.length := by omega
      have e1 : b.1[k.toNat]? = some b.1[k.toNat] := List.getElem?_eq_getElem hlt
      have e2 := b5 k.toNat _ e1
      rw [show ((k.toNat : Nat) : Int) = k by omega] at e2
      rw [e1] at kk
      rw [e2]
      exact kk
    · rw [if_neg (by omega)]
      rw [List.getElem?_eq_none (by omega)] at kk
      exact kk
  · rw [if_pos (by omega)] at kk
    refine vr_aload_n (q := 71) dX8_order_70 rfl rfl ?_
    refine vr_getA (q := 74) dX8_order_71 rfl fX8_47 rfl ⟨by decide, by decide, rfl⟩ ?_
    -- at X8.order 74: .invokevirtual 222
    refine vr_iv0 (q := 77) dX8_order_74 rfl vX8_222 (Nat.le_of_ble_eq_true rfl) ?_
    refine c_bestNods ?_
    rw [b2]
    refine vr_goto (q := 88) dX8_order_77 (by decide) ?_
    refine vr_iret dX8_order_88 rfl ?_
    first | exact kk | (exfalso; omega) | (repeat (first | exact kk | rw [if_pos (by omega)] at kk | rw [if_neg (by omega)] at kk))
theorem x_order {s x k : Int} (o : to_ h) (k1 : ¬ ((0 ≤ s ∧ s < h 7 3) ∧ (0 ≤ x ∧ x < sb_ishl 1 (h 7 2)) ∧ (-1 ≤ k ∧ k < 6)) → Post (some (sv_i (-1000001))) h) (k2 : ((0 ≤ s ∧ s < h 7 3) ∧ (0 ≤ x ∧ x < sb_ishl 1 (h 7 2)) ∧ (-1 ≤ k ∧ k < 6)) → ¬ sb_iand (h 13 s) x = 0 → Post (some (sv_i (-1000002))) h) (k3 : ((0 ≤ s ∧ s < h 7 3) ∧ (0 ≤ x ∧ x < sb_ishl 1 (h 7 2)) ∧ (-1 ≤ k ∧ k < 6)) → sb_iand (h 13 s) x = 0 → ∀ h2, fk_ h h2 → Post (some (sv_i (if k < 0 then (od_ h s x).2 else ((od_ h s x).1[k.toNat]?).getD (-1000000)))) h2) : Ctr_ g (d + 14) mX8_order [sv_r 4 7 0, sv_i s, sv_i x, sv_i k] h Post := by
  have o1 := sh_r o.1
  have o2 := o.2.1
  refine V_mk (by decide +kernel) (Or.inr (Or.inl ⟨rfl, rfl⟩)) (Nat.le_of_ble_eq_true rfl) (by simp [sv_c]) ?_
  show V_ _ _ _ 0 [_, _, _, _] [] _ _
  refine vr_aload_n (q := 1) dX8_order_0 rfl rfl ?_
  refine vr_getA (q := 4) dX8_order_1 rfl fX8_26 rfl ⟨by decide, by decide, rfl⟩ ?_
  refine vr_iload_n (q := 5) dX8_order_4 rfl rfl ?_
  refine vr_iv1 (q := 8) dX8_order_5 rfl vX8_132 (Nat.le_of_ble_eq_true rfl) ?_
  refine c_hasStranger (fun c5 => ?_) (fun c5 => ?_)
  · refine vr_if_eq (t := 33) (q := 11) dX8_order_8 (by decide) rfl (fun c9 => absurd c9 (by omega)) (fun _ => ?_)
    refine vr_aload_n (q := 12) dX8_order_11 rfl rfl ?_
    refine vr_getA (q := 15) dX8_order_12 rfl fX8_26 rfl ⟨by decide, by decide, rfl⟩ ?_
    refine vr_iload_n (q := 16) dX8_order_15 rfl rfl ?_
    refine vr_iv1 (q := 19) dX8_order_16 rfl vX8_215 (Nat.le_of_ble_eq_true rfl) ?_
    refine c_isSetOfLies (fun c16 => ?_) (fun c16 => ?_)
    · refine vr_if_eq (t := 33) (q := 22) dX8_order_19 (by decide) rfl (fun c9 => absurd c9 (by omega)) (fun _ => ?_)
      refine vr_iload_n (q := 23) dX8_order_22 rfl rfl ?_
      refine vr_iconst (q := 24) dX8_order_23 rfl ⟨by decide, by decide⟩ ?_
      refine vr_ic_lt (t := 33) (q := 27) dX8_order_24 (by decide) rfl (fun c24 => ?_) (fun c24 => ?_)
      · refine vr_ldc (x := -1000001) (q := 35) dX8_order_33 rfl ⟨by decide, by decide⟩ qX8_69 ?_
        refine vr_iret dX8_order_35 rfl ?_
        first | exact k1 (by omega) | exact k2 (by omega) (by assumption)
      · refine vr_iload_n (q := 28) dX8_order_27 rfl rfl ?_
        refine vr_bipush (q := 30) dX8_order_28 rfl ⟨by decide, by decide⟩ (by decide) ?_
        refine vr_ic_lt (t := 36) (q := 33) dX8_order_30 (by decide) rfl (fun c30 => ?_) (fun c30 => ?_)
        · refine vr_aload_n (q := 37) dX8_order_36 rfl rfl ?_
          refine vr_getA (q := 40) dX8_order_37 rfl fX8_26 rfl ⟨by decide, by decide, rfl⟩ ?_
          refine vr_getR (q := 43) dX8_order_40 rfl fX8_174 rfl y_X7_9 (by first | (simp only [Int.reduceAdd]; rfl) | rfl) ?_
          refine vr_iload_n (q := 44) dX8_order_43 rfl rfl ?_
          refine vr_iald (q := 45) dX8_order_44 rfl ⟨by omega, by omega⟩ ?_
          refine vr_iload_n (q := 46) dX8_order_45 rfl rfl ?_
          refine vr_iand (q := 47) dX8_order_46 rfl ?_
          refine vr_if_eq (t := 53) (q := 50) dX8_order_47 (by decide) rfl (fun c47 => ?_) (fun c47 => ?_)
          · refine vr_aload_n (q := 54) dX8_order_53 rfl rfl ?_
            refine vr_getA (q := 57) dX8_order_54 rfl fX8_47 rfl ⟨by decide, by decide, rfl⟩ ?_
            refine vr_aload_n (q := 58) dX8_order_57 rfl rfl ?_
            refine vr_getA (q := 61) dX8_order_58 rfl fX8_26 rfl ⟨by decide, by decide, rfl⟩ ?_
            refine vr_iload_n (q := 62) dX8_order_61 rfl rfl ?_
            refine vr_iload_n (q := 63) dX8_order_62 rfl rfl ?_
            refine vr_iv3 (q := 66) dX8_order_63 rfl vX8_218 (Nat.le_of_ble_eq_true rfl) ?_
            refine c_seekOrder o ⟨by omega, by omega⟩ ⟨by omega, by omega⟩ (fun h2 f2 b2 => ?_)
            exact l_order62 b2 ⟨by omega, by omega⟩ (k3 (by omega) (by assumption) h2 f2)
          · refine vr_ldc (x := -1000002) (q := 52) dX8_order_50 rfl ⟨by decide, by decide⟩ qX8_142 ?_
            refine vr_iret dX8_order_52 rfl ?_
            first | exact k1 (by omega) | exact k2 (by omega) (by assumption)
        · refine vr_ldc (x := -1000001) (q := 35) dX8_order_33 rfl ⟨by decide, by decide⟩ qX8_69 ?_
          refine vr_iret dX8_order_35 rfl ?_
          first | exact k1 (by omega) | exact k2 (by omega) (by assumption)
    · refine vr_if_eq (t := 33) (q := 22) dX8_order_19 (by decide) rfl (fun _ => ?_) (fun c9 => absurd c9 (by omega))
      refine vr_ldc (x := -1000001) (q := 35) dX8_order_33 rfl ⟨by decide, by decide⟩ qX8_69 ?_
      refine vr_iret dX8_order_35 rfl ?_
      first | exact k1 (by omega) | exact k2 (by omega) (by assumption)
  · refine vr_if_eq (t := 33) (q := 11) dX8_order_8 (by decide) rfl (fun _ => ?_) (fun c9 => absurd c9 (by omega))
    refine vr_ldc (x := -1000001) (q := 35) dX8_order_33 rfl ⟨by decide, by decide⟩ qX8_69 ?_
    refine vr_iret dX8_order_35 rfl ?_
    first | exact k1 (by omega) | exact k2 (by omega) (by assumption)
theorem x_tell {s l : Int} (o : to_ h) (hn : 0 ≤ h 40 5 ∧ h 40 5 < 24) (hk : 0 ≤ h 40 6 ∧ h 40 6 ≤ 24) (k1 : ¬ ((0 ≤ s ∧ s < h 7 3) ∧ (0 ≤ l ∧ l < h 7 2)) → Post (some (sv_i (-1000001))) h) (k2 : ((0 ≤ s ∧ s < h 7 3) ∧ (0 ≤ l ∧ l < h 7 2)) → ¬ bt_ (h 13 s) l = 0 → Post (some (sv_i (-1000002))) h) (k3 : ((0 ≤ s ∧ s < h 7 3) ∧ (0 ≤ l ∧ l < h 7 2)) → bt_ (h 13 s) l = 0 → Post (some (sv_i (nl_ (tf_ h) (en_ h s) l))) (nt_ (ms_ (ka_ h s) 52 (hl_ (tf_ h) (en_ h s) l)) s l (nl_ (tf_ h) (en_ h s) l) (hl_ (tf_ h) (en_ h s) l).1)) : Ctr_ g (d + 5) mX8_tell [sv_r 4 7 0, sv_i s, sv_i l] h Post := by
  have o1 := o.1
  have o2 := o.2.1
  have ek : ∀ a, a < 40 → ka_ h s a = h a := fun a ha => by
    unfold ka_
    rw [hs_k (by omega), hs_k (by omega), hs_k (by omega), hs_k (by omega), hs_k (by omega), hs_k (by omega), hs_k (by omega)]
  have oK : to_ (ka_ h s) := to_k (fun a _ _ => ek a (by omega)) o
  have en : en_ (ka_ h s) s = en_ h s := by
    unfold en_
    rw [ek 7 (by decide), ek 10 (by decide), ek 11 (by decide), ek 12 (by decide), ek 13 (by decide), ek 14 (by decide)]
  have e8 : ∀ m, ms_ (ka_ h s) 52 m 8 = h 8 := fun m => by rw [ms_lo (by decide) (by decide), ek 8 (by decide)]
  have e9 : ∀ m, ms_ (ka_ h s) 52 m 9 = h 9 := fun m => by rw [ms_lo (by decide) (by decide), ek 9 (by decide)]
  have e10 : ∀ m, ms_ (ka_ h s) 52 m 10 = h 10 := fun m => by rw [ms_lo (by decide) (by decide), ek 10 (by decide)]
  have e7 : ∀ m, ms_ (ka_ h s) 52 m 7 = h 7 := fun m => by rw [ms_lo (by decide) (by decide), ek 7 (by decide)]
  have t1 : ∀ m : MU_, ms_ (ka_ h s) 52 m 52 0 = m.1 := fun m => congrArg (fun z : MU_ => z.1) (mu_ms (ka_ h s) 52 m)
  refine V_mk (by decide +kernel) (Or.inr (Or.inl ⟨rfl, rfl⟩)) (Nat.le_of_ble_eq_true rfl) (by simp [sv_c]) ?_
  show V_ _ _ _ 0 [_, _, _, _, _] [] _ _
  refine vr_aload_n (q := 1) dX8_tell_0 rfl rfl ?_
  refine vr_getA (q := 4) dX8_tell_1 rfl fX8_26 rfl ⟨by decide, by decide, rfl⟩ ?_
  refine vr_iload_n (q := 5) dX8_tell_4 rfl rfl ?_
  -- at X8.tell 5: .invokevirtual 132
  refine vr_iv1 (q := 8) dX8_tell_5 rfl vX8_132 (Nat.le_of_ble_eq_true rfl) ?_
  refine c_hasStranger (fun c5 => ?_) (fun c5 => ?_)
  · refine vr_if_eq (t := 22) (q := 11) dX8_tell_8 (by decide) rfl (fun c9 => absurd c9 (by omega)) (fun _ => ?_)
    refine vr_aload_n (q := 12) dX8_tell_11 rfl rfl ?_
    refine vr_getA (q := 15) dX8_tell_12 rfl fX8_26 rfl ⟨by decide, by decide, rfl⟩ ?_
    refine vr_iload_n (q := 16) dX8_tell_15 rfl rfl ?_
    -- at X8.tell 16: .invokevirtual 135
    refine vr_iv1 (q := 19) dX8_tell_16 rfl vX8_135 (Nat.le_of_ble_eq_true rfl) ?_
    refine c_hasLie (fun c16 => ?_) (fun c16 => ?_)
    · refine vr_if_ne (t := 25) (q := 22) dX8_tell_19 (by decide) rfl (fun _ => ?_) (fun c9 => absurd c9 (by omega))
      refine vr_aload_n (q := 26) dX8_tell_25 rfl rfl ?_
      refine vr_getA (q := 29) dX8_tell_26 rfl fX8_26 rfl ⟨by decide, by decide, rfl⟩ ?_
      refine vr_iload_n (q := 30) dX8_tell_29 rfl rfl ?_
      refine vr_iload_n (q := 31) dX8_tell_30 rfl rfl ?_
      -- at X8.tell 31: .invokevirtual 138
      refine vr_iv2 (q := 34) dX8_tell_31 rfl vX8_138 (Nat.le_of_ble_eq_true rfl) ?_
      refine c_wasTold ⟨by omega, by omega⟩ (fun c31 => ?_) (fun c31 => ?_)
      · refine vr_if_eq (t := 40) (q := 37) dX8_tell_34 (by decide) rfl (fun c9 => absurd c9 (by omega)) (fun _ => ?_)
        refine vr_ldc (x := -1000002) (q := 39) dX8_tell_37 rfl ⟨by decide, by decide⟩ qX8_142 ?_
        refine vr_iret dX8_tell_39 rfl ?_
        exact k2 ⟨c5, c16⟩ c31
      · have k4 := k3 ⟨c5, c16⟩ c31
        have hlo := o.2.2.2.1 l c16.1 c16.2
        have hm := en_mo o c5
        have eh : hl_ (tf_ h) (en_ h s) l = he_ (h 9 l) (h 10 l) (nl_ (tf_ h) (en_ h s) l) (en_ h s) := rfl
        rw [eh] at k4
        refine vr_if_eq (t := 40) (q := 37) dX8_tell_34 (by decide) rfl (fun _ => ?_) (fun c9 => absurd c9 (by omega))
        refine vr_aload_n (q := 41) dX8_tell_40 rfl rfl ?_
        refine vr_getA (q := 44) dX8_tell_41 rfl fX8_40 rfl ⟨by decide, by decide, rfl⟩ ?_
        refine vr_aload_n (q := 45) dX8_tell_44 rfl rfl ?_
        refine vr_getA (q := 48) dX8_tell_45 rfl fX8_26 rfl ⟨by decide, by decide, rfl⟩ ?_
        refine vr_iload_n (q := 49) dX8_tell_48 rfl rfl ?_
        -- at X8.tell 49: .invokevirtual 143
        refine vr_iv2 (q := 52) dX8_tell_49 rfl vX8_143 (Nat.le_of_ble_eq_true rfl) ?_
        refine c_keepAhead ⟨by omega, by omega⟩ hn hk ?_
        refine vr_aload_n (q := 53) dX8_tell_52 rfl rfl ?_
        refine vr_getA (q := 56) dX8_tell_53 rfl fX8_47 rfl ⟨by decide, by decide, rfl⟩ ?_
        refine vr_aload_n (q := 57) dX8_tell_56 rfl rfl ?_
        refine vr_getA (q := 60) dX8_tell_57 rfl fX8_26 rfl ⟨by decide, by decide, rfl⟩ ?_
        refine vr_iload_n (q := 61) dX8_tell_60 rfl rfl ?_
        -- at X8.tell 61: .invokevirtual 147
        refine vr_iv2 (q := 64) dX8_tell_61 rfl vX8_147 (Nat.le_of_ble_eq_true rfl) ?_
        refine c_mindOf oK (by rw [ek 7 (by decide)]; exact c5) ?_
        rw [en]
        refine vr_astore_n (q := 65) dX8_tell_64 rfl rfl (Nat.le_of_ble_eq_true rfl) rfl rfl ?_
        refine vr_aload_n (q := 66) dX8_tell_65 rfl rfl ?_
        refine vr_aload_n (q := 67) dX8_tell_66 rfl rfl ?_
        refine vr_getA (q := 70) dX8_tell_67 rfl fX8_26 rfl ⟨by decide, by decide, rfl⟩ ?_
        refine vr_iload_n (q := 71) dX8_tell_70 rfl rfl ?_
        -- at X8.tell 71: .invokevirtual 151
        refine vr_iv2 (q := 74) dX8_tell_71 rfl vX8_151 (Nat.le_of_ble_eq_true rfl) ?_
        refine c_hear (n := 6) ⟨by omega, by omega⟩ (by decide) (by rw [e8, e9, e10]; exact hlo) (by rw [mu_ms]; exact hm) (by decide) ?_
        rw [e8, e9, e10, mu_ms, ms_ms]
        refine vr_istore (q := 76) dX8_tell_74 rfl (Nat.le_of_ble_eq_true rfl) rfl rfl ?_
        refine vr_aload_n (q := 77) dX8_tell_76 rfl rfl ?_
        refine vr_getA (q := 80) dX8_tell_77 rfl fX8_26 rfl ⟨by decide, by decide, rfl⟩ ?_
        refine vr_iload_n (q := 81) dX8_tell_80 rfl rfl ?_
        refine vr_iload_n (q := 82) dX8_tell_81 rfl rfl ?_
        refine vr_iload (q := 84) dX8_tell_82 rfl rfl ?_
        refine vr_aload_n (q := 85) dX8_tell_84 rfl rfl ?_
        refine vr_getV (ji := 0) (q := 88) dX8_tell_85 rfl fX8_157 rfl rfl (t1 _) ?_
        -- at X8.tell 88: .invokevirtual 160
        refine vr_iv4 (q := 91) dX8_tell_88 rfl vX8_160 (Nat.le_of_ble_eq_true rfl) ?_
        refine c_noteTold ⟨by omega, by omega⟩ (by rw [e7]; exact o.2.2.1) ?_
        refine vr_iload (q := 93) dX8_tell_91 rfl rfl ?_
        -- at X8.tell 93: .ifCond .eq 7
        refine vr_if_eq (t := 100) (q := 96) dX8_tell_93 (by decide) rfl (fun c6 => ?_) (fun c6 => ?_)
        · have c7 : nl_ (tf_ h) (en_ h s) l = 0 := c6
          rw [c7] at k4
          have c8 : nb_ (h 8 l) (h 9 l) (h 10 l) (en_ h s) = 0 := c6
          rw [c8]
          refine vr_iconst (q := 101) dX8_tell_100 rfl ⟨by decide, by decide⟩ ?_
          refine vr_iret dX8_tell_101 rfl ?_
          exact k4
        · have c8 : nb_ (h 8 l) (h 9 l) (h 10 l) (en_ h s) = 1 := by
            rcases nb_01 (h 8 l) (h 9 l) (h 10 l) (en_ h s) with z | z
            · exact absurd z c6
            · exact z
          have c7 : nl_ (tf_ h) (en_ h s) l = 1 := c8
          rw [c7] at k4
          rw [c8]
          refine vr_iconst (q := 97) dX8_tell_96 rfl ⟨by decide, by decide⟩ ?_
          refine vr_goto (q := 101) dX8_tell_97 (by decide) ?_
          refine vr_iret dX8_tell_101 rfl ?_
          exact k4
    · refine vr_if_ne (t := 25) (q := 22) dX8_tell_19 (by decide) rfl (fun c9 => absurd c9 (by omega)) (fun _ => ?_)
      refine vr_ldc (x := -1000001) (q := 24) dX8_tell_22 rfl ⟨by decide, by decide⟩ qX8_69 ?_
      refine vr_iret dX8_tell_24 rfl ?_
      exact k1 (fun z => c16 z.2)
  · refine vr_if_eq (t := 22) (q := 11) dX8_tell_8 (by decide) rfl (fun _ => ?_) (fun c9 => absurd c9 (by omega))
    refine vr_ldc (x := -1000001) (q := 24) dX8_tell_22 rfl ⟨by decide, by decide⟩ qX8_69 ?_
    refine vr_iret dX8_tell_24 rfl ?_
    exact k1 (fun z => c5 z.1)
theorem x_image {k : Int} (k1 : ¬ (0 ≤ k ∧ k < 2) → Post (some (sv_i (-1000001))) h) (k2 : (0 ≤ k ∧ k < 2) → ¬ 0 < h 7 0 → Post (some (sv_i (-1000002))) h) (k3 : (0 ≤ k ∧ k < 2) → 0 < h 7 0 → ∀ h2, tc_ h (23 + 8 * k) 7 6 4 h2 → Post (some (sv_i 1)) h2) : Ctr_ g (d + 1) mX8_image [sv_r 4 7 0, sv_i k] h Post := by
  refine V_mk (by decide +kernel) (Or.inr (Or.inl ⟨rfl, rfl⟩)) (Nat.le_of_ble_eq_true rfl) (by simp [sv_c]) ?_
  show V_ _ _ _ 0 [_, _] [] _ _
  refine vr_iload_n (q := 1) dX8_image_0 rfl rfl ?_
  refine vr_if_lt (t := 9) (q := 4) dX8_image_1 (by decide) rfl (fun c1 => ?_) (fun c1 => ?_)
  · refine vr_ldc (x := -1000001) (q := 11) dX8_image_9 rfl ⟨by decide, by decide⟩ qX8_69 ?_
    refine vr_iret dX8_image_11 rfl ?_
    first | exact k1 (by omega) | exact k2 (by omega) (by omega) | exact k3 (by omega) (by omega) h2 t2
  · refine vr_iload_n (q := 5) dX8_image_4 rfl rfl ?_
    refine vr_iconst (q := 6) dX8_image_5 rfl ⟨by decide, by decide⟩ ?_
    refine vr_ic_lt (t := 12) (q := 9) dX8_image_6 (by decide) rfl (fun c6 => ?_) (fun c6 => ?_)
    · refine vr_aload_n (q := 13) dX8_image_12 rfl rfl ?_
      refine vr_getA (q := 16) dX8_image_13 rfl fX8_26 rfl ⟨by decide, by decide, rfl⟩ ?_
      refine vr_iv0 (q := 19) dX8_image_16 rfl vX8_258 (Nat.le_of_ble_eq_true rfl) ?_
      refine c_stands (fun c16 => ?_) (fun c16 => ?_)
      · refine vr_if_ne (t := 25) (q := 22) dX8_image_19 (by decide) rfl (fun _ => ?_) (fun c9 => absurd c9 (by omega))
        refine vr_aload_n (q := 26) dX8_image_25 rfl rfl ?_
        refine vr_getA (q := 29) dX8_image_26 rfl fX8_33 rfl ⟨by decide, by decide, rfl⟩ ?_
        refine vr_iload_n (q := 30) dX8_image_29 rfl rfl ?_
        refine vr_aaTV (q := 31) dX8_image_30 rfl ⟨by omega, by omega⟩ (by first | (simp only [Int.reduceMul, Int.reduceAdd]; rfl) | rfl) ?_
        refine vr_aload_n (q := 32) dX8_image_31 rfl rfl ?_
        refine vr_getA (q := 35) dX8_image_32 rfl fX8_26 rfl ⟨by decide, by decide, rfl⟩ ?_
        refine vr_iv1 (q := 38) dX8_image_35 rfl vX8_119 (Nat.le_of_ble_eq_true rfl) ?_
        refine c_townBecome (Or.inr (by omega)) (fun h2 t2 => ?_)
        refine vr_iconst (q := 39) dX8_image_38 rfl ⟨by decide, by decide⟩ ?_
        refine vr_iret dX8_image_39 rfl ?_
        first | exact k1 (by omega) | exact k2 (by omega) (by omega) | exact k3 (by omega) (by omega) h2 t2
      · refine vr_if_ne (t := 25) (q := 22) dX8_image_19 (by decide) rfl (fun c9 => absurd c9 (by omega)) (fun _ => ?_)
        refine vr_ldc (x := -1000002) (q := 24) dX8_image_22 rfl ⟨by decide, by decide⟩ qX8_142 ?_
        refine vr_iret dX8_image_24 rfl ?_
        first | exact k1 (by omega) | exact k2 (by omega) (by omega) | exact k3 (by omega) (by omega) h2 t2
    · refine vr_ldc (x := -1000001) (q := 11) dX8_image_9 rfl ⟨by decide, by decide⟩ qX8_69 ?_
      refine vr_iret dX8_image_11 rfl ?_
      first | exact k1 (by omega) | exact k2 (by omega) (by omega) | exact k3 (by omega) (by omega) h2 t2
theorem x_restore {k : Int} (k1 : ¬ (0 ≤ k ∧ k < 2) → Post (some (sv_i (-1000001))) h) (k2 : (0 ≤ k ∧ k < 2) → ¬ 0 < h (23 + 8 * k) 0 → Post (some (sv_i (-1000002))) h) (k3 : (0 ≤ k ∧ k < 2) → 0 < h (23 + 8 * k) 0 → ∀ h2, tc_ h 7 (23 + 8 * k) 6 4 h2 → Post (some (sv_i 1)) (hs_ h2 40 6 0)) : Ctr_ g (d + 1) mX8_restore [sv_r 4 7 0, sv_i k] h Post := by
  refine V_mk (by decide +kernel) (Or.inr (Or.inl ⟨rfl, rfl⟩)) (Nat.le_of_ble_eq_true rfl) (by simp [sv_c]) ?_
  show V_ _ _ _ 0 [_, _] [] _ _
  refine vr_iload_n (q := 1) dX8_restore_0 rfl rfl ?_
  refine vr_if_lt (t := 9) (q := 4) dX8_restore_1 (by decide) rfl (fun c1 => ?_) (fun c1 => ?_)
  · refine vr_ldc (x := -1000001) (q := 11) dX8_restore_9 rfl ⟨by decide, by decide⟩ qX8_69 ?_
    refine vr_iret dX8_restore_11 rfl ?_
    first | exact k1 (by omega) | exact k2 (by omega) (by omega) | exact k3 (by omega) (by omega) h2 t2
  · refine vr_iload_n (q := 5) dX8_restore_4 rfl rfl ?_
    refine vr_iconst (q := 6) dX8_restore_5 rfl ⟨by decide, by decide⟩ ?_
    refine vr_ic_lt (t := 12) (q := 9) dX8_restore_6 (by decide) rfl (fun c6 => ?_) (fun c6 => ?_)
    · refine vr_aload_n (q := 13) dX8_restore_12 rfl rfl ?_
      refine vr_getA (q := 16) dX8_restore_13 rfl fX8_33 rfl ⟨by decide, by decide, rfl⟩ ?_
      refine vr_iload_n (q := 17) dX8_restore_16 rfl rfl ?_
      refine vr_aaTV (q := 18) dX8_restore_17 rfl ⟨by omega, by omega⟩ (by first | (simp only [Int.reduceMul, Int.reduceAdd]; rfl) | rfl) ?_
      refine vr_iv0 (q := 21) dX8_restore_18 rfl vX8_258 (Nat.le_of_ble_eq_true rfl) ?_
      refine c_stands (fun c18 => ?_) (fun c18 => ?_)
      · refine vr_if_ne (t := 27) (q := 24) dX8_restore_21 (by decide) rfl (fun _ => ?_) (fun c9 => absurd c9 (by omega))
        refine vr_aload_n (q := 28) dX8_restore_27 rfl rfl ?_
        refine vr_getA (q := 31) dX8_restore_28 rfl fX8_26 rfl ⟨by decide, by decide, rfl⟩ ?_
        refine vr_aload_n (q := 32) dX8_restore_31 rfl rfl ?_
        refine vr_getA (q := 35) dX8_restore_32 rfl fX8_33 rfl ⟨by decide, by decide, rfl⟩ ?_
        refine vr_iload_n (q := 36) dX8_restore_35 rfl rfl ?_
        refine vr_aaTV (q := 37) dX8_restore_36 rfl ⟨by omega, by omega⟩ (by first | (simp only [Int.reduceMul, Int.reduceAdd]; rfl) | rfl) ?_
        refine vr_iv1 (q := 40) dX8_restore_37 rfl vX8_119 (Nat.le_of_ble_eq_true rfl) ?_
        refine c_townBecome (Or.inl (by omega)) (fun h2 t2 => ?_)
        refine vr_aload_n (q := 41) dX8_restore_40 rfl rfl ?_
        refine vr_getA (q := 44) dX8_restore_41 rfl fX8_40 rfl ⟨by decide, by decide, rfl⟩ ?_
        refine vr_iv0 (q := 47) dX8_restore_44 rfl vX8_123 (Nat.le_of_ble_eq_true rfl) ?_
        refine c_clear ?_
        refine vr_iconst (q := 48) dX8_restore_47 rfl ⟨by decide, by decide⟩ ?_
        refine vr_iret dX8_restore_48 rfl ?_
        first | exact k1 (by omega) | exact k2 (by omega) (by omega) | exact k3 (by omega) (by omega) h2 t2
      · refine vr_if_ne (t := 27) (q := 24) dX8_restore_21 (by decide) rfl (fun c9 => absurd c9 (by omega)) (fun _ => ?_)
        refine vr_ldc (x := -1000002) (q := 26) dX8_restore_24 rfl ⟨by decide, by decide⟩ qX8_142 ?_
        refine vr_iret dX8_restore_26 rfl ?_
        first | exact k1 (by omega) | exact k2 (by omega) (by omega) | exact k3 (by omega) (by omega) h2 t2
    · refine vr_ldc (x := -1000001) (q := 11) dX8_restore_9 rfl ⟨by decide, by decide⟩ qX8_69 ?_
      refine vr_iret dX8_restore_11 rfl ?_
      first | exact k1 (by omega) | exact k2 (by omega) (by omega) | exact k3 (by omega) (by omega) h2 t2
theorem x_town (hn : 0 ≤ h 5 1 ∧ h 5 1 ≤ 120) (kf : ∀ q k h2, pt_ (bz_ (h 6) (h 5 1)) (h 5 1) = .error (q, k) → ro_ h h2 q k → Post (some (sv_i (sw_32 (-1000100 - q)))) h2) (ko : ∀ st ls ss h2 q h3, pt_ (bz_ (h 6) (h 5 1)) (h 5 1) = .ok (st, ls, ss) → ro_ h h2 q (h 5 3) → td_ h2 15 st ls ss → tc_ h2 7 15 6 4 h3 → Post (some (sv_i (h3 7 3))) (hs_ h3 40 6 0)) : Ctr_ g (d + 5) mX8_town [sv_r 4 7 0] h Post := by
  refine V_mk (by decide +kernel) (Or.inr (Or.inl ⟨rfl, rfl⟩)) (Nat.le_of_ble_eq_true rfl) (by simp [sv_c]) ?_
  show V_ _ _ _ 0 [_] [] _ _
  refine vr_aload_n (q := 1) dX8_town_0 rfl rfl ?_
  refine vr_getA (q := 4) dX8_town_1 rfl fX8_19 rfl ⟨by decide, by decide, rfl⟩ ?_
  refine vr_aload_n (q := 5) dX8_town_4 rfl rfl ?_
  refine vr_getA (q := 8) dX8_town_5 rfl fX8_30 rfl ⟨by decide, by decide, rfl⟩ ?_
  -- at X8.town 8: .invokevirtual 110
  refine vr_iv1 (q := 11) dX8_town_8 rfl vX8_110 (Nat.le_of_ble_eq_true rfl) ?_
  refine c_readInto hn ?_
  cases e : pt_ (bz_ (h 6) (h 5 1)) (h 5 1) with
  | error x =>
    obtain ⟨q, k⟩ := x
    intro h2 hR
    refine vr_if_ne (t := 25) (q := 14) dX8_town_11 (by decide) rfl (fun c9 => absurd c9 (by omega)) (fun _ => ?_)
    refine vr_ldc (x := -1000100) (q := 16) dX8_town_14 rfl ⟨by decide, by decide⟩ qX8_114 ?_
    refine vr_aload_n (q := 17) dX8_town_16 rfl rfl ?_
    refine vr_getA (q := 20) dX8_town_17 rfl fX8_19 rfl ⟨by decide, by decide, rfl⟩ ?_
    refine vr_iv0 (q := 23) dX8_town_20 rfl vX8_115 (Nat.le_of_ble_eq_true rfl) ?_
    refine c_faultPlace ?_
    rw [hR.2.2.1]
    refine vr_isub (q := 24) dX8_town_23 rfl ?_
    refine vr_iret dX8_town_24 rfl ?_
    exact kf q k h2 e hR
  | ok x =>
    obtain ⟨st, ls, ss⟩ := x
    intro h2 q hR hT
    refine vr_if_ne (t := 25) (q := 14) dX8_town_11 (by decide) rfl (fun _ => ?_) (fun c9 => absurd c9 (by omega))
    refine vr_aload_n (q := 26) dX8_town_25 rfl rfl ?_
    refine vr_getA (q := 29) dX8_town_26 rfl fX8_26 rfl ⟨by decide, by decide, rfl⟩ ?_
    refine vr_aload_n (q := 30) dX8_town_29 rfl rfl ?_
    refine vr_getA (q := 33) dX8_town_30 rfl fX8_30 rfl ⟨by decide, by decide, rfl⟩ ?_
    refine vr_iv1 (q := 36) dX8_town_33 rfl vX8_119 (Nat.le_of_ble_eq_true rfl) ?_
    refine c_townBecome (Or.inl (by decide)) (fun h3 t3 => ?_)
    refine vr_aload_n (q := 37) dX8_town_36 rfl rfl ?_
    refine vr_getA (q := 40) dX8_town_37 rfl fX8_40 rfl ⟨by decide, by decide, rfl⟩ ?_
    refine vr_iv0 (q := 43) dX8_town_40 rfl vX8_123 (Nat.le_of_ble_eq_true rfl) ?_
    refine c_clear ?_
    refine vr_aload_n (q := 44) dX8_town_43 rfl rfl ?_
    refine vr_getA (q := 47) dX8_town_44 rfl fX8_26 rfl ⟨by decide, by decide, rfl⟩ ?_
    refine vr_getV (ji := 3) (q := 50) dX8_town_47 rfl fX8_126 rfl rfl (by rw [hs_k (by decide)]) ?_
    refine vr_iret dX8_town_50 rfl ?_
    exact ko st ls ss h2 q h3 e hR hT t3
theorem x_count {w : Int} (k1 : ¬ (0 ≤ w ∧ w ≤ 6) → Post (some (sv_i (-1000001))) h) (k2 : (0 ≤ w ∧ w ≤ 6) → Post (some (sv_i (if w = 0 then pr_ (h 2) (-1) 8 else if w = 1 then h 7 2 else if w = 2 then h 7 3 else if w = 3 then h 7 0 else if w = 4 then h 7 1 else if w = 5 then h 40 6 else h 5 1))) h) : Ctr_ g (d + 1) mX8_count [sv_r 4 7 0, sv_i w] h Post := by
  refine V_mk (by decide +kernel) (Or.inr (Or.inl ⟨rfl, rfl⟩)) (Nat.le_of_ble_eq_true rfl) (by simp [sv_c]) ?_
  show V_ _ _ _ 0 [_, _] [] _ _
  refine vr_iload_n (q := 1) dX8_count_0 rfl rfl ?_
  -- at X8.count 1: .tableswitch 99 0 6 #[43, 51, 59, 67, 75, 83, 91]
  by_cases cw : 0 ≤ w ∧ w ≤ 6
  · have k4 := k2 cw
    rcases (by omega : w = 0 ∨ w = 1 ∨ w = 2 ∨ w = 3 ∨ w = 4 ∨ w = 5 ∨ w = 6) with rfl | rfl | rfl | rfl | rfl | rfl | rfl
    · refine vr_tsI (q := 44) dX8_count_1 (by decide) (by decide) rfl (by decide) ?_
      refine vr_aload_n (q := 45) dX8_count_44 rfl rfl ?_
      refine vr_getA (q := 48) dX8_count_45 rfl fX8_10 rfl ⟨by decide, by decide, rfl⟩ ?_
      refine vr_iv0 (q := 51) dX8_count_48 rfl vX8_289 (Nat.le_of_ble_eq_true rfl) ?_
      refine c_present ?_
      refine vr_iret dX8_count_51 rfl ?_
      exact k4
    · refine vr_tsI (q := 52) dX8_count_1 (by decide) (by decide) rfl (by decide) ?_
      refine vr_aload_n (q := 53) dX8_count_52 rfl rfl ?_
      refine vr_getA (q := 56) dX8_count_53 rfl fX8_26 rfl ⟨by decide, by decide, rfl⟩ ?_
      refine vr_getI (ji := 2) (q := 59) dX8_count_56 rfl fX8_239 rfl rfl ?_
      refine vr_iret dX8_count_59 rfl ?_
      exact k4
    · refine vr_tsI (q := 60) dX8_count_1 (by decide) (by decide) rfl (by decide) ?_
      refine vr_aload_n (q := 61) dX8_count_60 rfl rfl ?_
      refine vr_getA (q := 64) dX8_count_61 rfl fX8_26 rfl ⟨by decide, by decide, rfl⟩ ?_
      refine vr_getI (ji := 3) (q := 67) dX8_count_64 rfl fX8_126 rfl rfl ?_
      refine vr_iret dX8_count_67 rfl ?_
      exact k4
    · refine vr_tsI (q := 68) dX8_count_1 (by decide) (by decide) rfl (by decide) ?_
      refine vr_aload_n (q := 69) dX8_count_68 rfl rfl ?_
      refine vr_getA (q := 72) dX8_count_69 rfl fX8_26 rfl ⟨by decide, by decide, rfl⟩ ?_
      refine vr_getI (ji := 0) (q := 75) dX8_count_72 rfl fX8_292 rfl rfl ?_
      refine vr_iret dX8_count_75 rfl ?_
      exact k4
    · refine vr_tsI (q := 76) dX8_count_1 (by decide) (by decide) rfl (by decide) ?_
      refine vr_aload_n (q := 77) dX8_count_76 rfl rfl ?_
      refine vr_getA (q := 80) dX8_count_77 rfl fX8_26 rfl ⟨by decide, by decide, rfl⟩ ?_
      refine vr_getI (ji := 1) (q := 83) dX8_count_80 rfl fX8_295 rfl rfl ?_
      refine vr_iret dX8_count_83 rfl ?_
      exact k4
    · refine vr_tsI (q := 84) dX8_count_1 (by decide) (by decide) rfl (by decide) ?_
      refine vr_aload_n (q := 85) dX8_count_84 rfl rfl ?_
      refine vr_getA (q := 88) dX8_count_85 rfl fX8_40 rfl ⟨by decide, by decide, rfl⟩ ?_
      refine vr_iv0 (q := 91) dX8_count_88 rfl vX8_183 (Nat.le_of_ble_eq_true rfl) ?_
      refine c_kept ?_
      refine vr_iret dX8_count_91 rfl ?_
      exact k4
    · refine vr_tsI (q := 92) dX8_count_1 (by decide) (by decide) rfl (by decide) ?_
      refine vr_aload_n (q := 93) dX8_count_92 rfl rfl ?_
      refine vr_getA (q := 96) dX8_count_93 rfl fX8_19 rfl ⟨by decide, by decide, rfl⟩ ?_
      refine vr_iv0 (q := 99) dX8_count_96 rfl vX8_298 (Nat.le_of_ble_eq_true rfl) ?_
      refine c_length ?_
      refine vr_iret dX8_count_99 rfl ?_
      exact k4
  · refine vr_tsO (q := 100) dX8_count_1 (by omega) (by decide) ?_
    refine vr_ldc (x := -1000001) (q := 102) dX8_count_100 rfl ⟨by decide, by decide⟩ qX8_69 ?_
    refine vr_iret dX8_count_102 rfl ?_
    exact k1 cw
end PN2_
