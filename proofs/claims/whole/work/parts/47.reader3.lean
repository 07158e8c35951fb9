/-- behind a reading: the tape is empty -/
def ro_ (h hc : SH_) (p k : Int) : Prop := (∀ a, a ≠ 5 → (a < 15 ∨ 22 < a) → hc a = h a) ∧ hc 5 1 = 0 ∧ hc 5 2 = p ∧ hc 5 3 = k
theorem rs_o {h hc : SH_} {p k : Int} (hR : rs_ h hc p k) : ro_ h (hs_ hc 5 1 0) p k := by
  obtain ⟨h1, h2, h3, h4⟩ := hR
  exact ⟨fun a a5 ha => by rw [hs_k a5]; exact h1 a a5 ha, hs_e _ _ _ _, by rw [hs_n (by omega)]; exact h3, by rw [hs_n (by omega)]; exact h4⟩
section PRG_
variable {g : SG_} {d : Nat} {h : SH_} {Post : Option SV_ → SH_ → Prop}
theorem c_readLaw {hc : SH_} (hn : 0 ≤ h 5 1 ∧ h 5 1 ≤ 120) (hR : rs_ h hc 0 (h 5 3)) (k0 : ∀ h2, ¬ bz_ (h 6) (h 5 1) 0 = 116 → rs_ h h2 0 1 → Post (some (sv_i 0)) h2) (k1 : ∀ h2 k, bz_ (h 6) (h 5 1) 0 = 116 → rn_ (bz_ (h 6) (h 5 1)) 1 1 9 = .error (1, k) → rs_ h h2 1 k → Post (some (sv_i 0)) h2) (k2 : ∀ h2 st p, bz_ (h 6) (h 5 1) 0 = 116 → rn_ (bz_ (h 6) (h 5 1)) 1 1 9 = .ok (st, p) → ¬ bz_ (h 6) (h 5 1) p = 59 → rs_ h h2 p 1 → Post (some (sv_i 0)) h2) (k3 : ∀ h2 st p, bz_ (h 6) (h 5 1) 0 = 116 → rn_ (bz_ (h 6) (h 5 1)) 1 1 9 = .ok (st, p) → bz_ (h 6) (h 5 1) p = 59 → (0 ≤ p ∧ p < h 5 1) → rs_ h h2 (p + 1) (h 5 3) → td_ h2 15 st [] [] → Post (some (sv_i 1)) h2) : Ctr_ g (d + 3) mX5_readLaw [sv_r 4 4 5, sv_r 4 6 15] hc Post := by
  refine V_mk (by decide +kernel) (Or.inr (Or.inr (Or.inl ⟨rfl, rfl⟩))) (Nat.le_of_ble_eq_true rfl) (by simp [sv_c]) ?_
  show V_ _ _ _ 0 [_, _, _] [] _ _
  refine vr_aload_n (q := 1) dX5_readLaw_0 rfl rfl ?_
  refine vr_bipush (q := 3) dX5_readLaw_1 rfl ⟨by decide, by decide⟩ (by decide) ?_
  -- at X5.readLaw 3: .invokevirtual 37
  refine vr_iv1 (q := 6) dX5_readLaw_3 rfl vX5_37 (Nat.le_of_ble_eq_true rfl) ?_
  refine cr_passed hn (by decide) hR (fun h1 e1 i1 hR1 _ => ?_) (fun h1 e1 hR1 => ?_)
  · refine vr_if_ne (t := 11) (q := 9) dX5_readLaw_6 (by decide) rfl (fun _ => ?_) (fun c9 => absurd c9 (by omega))
    refine vr_aload_n (q := 12) dX5_readLaw_11 rfl rfl ?_
    refine vr_iconst (q := 13) dX5_readLaw_12 rfl ⟨by decide, by decide⟩ ?_
    refine vr_bipush (q := 15) dX5_readLaw_13 rfl ⟨by decide, by decide⟩ (by decide) ?_
    -- at X5.readLaw 15: .invokevirtual 40
    refine vr_iv2 (q := 18) dX5_readLaw_15 rfl vX5_40 (Nat.le_of_ble_eq_true rfl) ?_
    refine cr_number hn ⟨by omega, by omega⟩ hR1 (fun w p1 h2 e2 hR2 _ => ?_) (fun k h2 e2 hR2 => ?_)
    · have b2 := rn_ok e2
      refine vr_istore_n (q := 19) dX5_readLaw_18 rfl rfl (Nat.le_of_ble_eq_true rfl) rfl rfl ?_
      refine vr_iload_n (q := 20) dX5_readLaw_19 rfl rfl ?_
      refine vr_iconst (q := 21) dX5_readLaw_20 rfl ⟨by decide, by decide⟩ ?_
      -- at X5.readLaw 21: .if_icmp .eq 12
      refine vr_ic_eq (t := 33) (q := 24) dX5_readLaw_21 (by decide) rfl (fun c9 => absurd c9 (by omega)) (fun _ => ?_)
      refine vr_aload_n (q := 25) dX5_readLaw_24 rfl rfl ?_
      refine vr_bipush (q := 27) dX5_readLaw_25 rfl ⟨by decide, by decide⟩ (by decide) ?_
      -- at X5.readLaw 27: .invokevirtual 37
      refine vr_iv1 (q := 30) dX5_readLaw_27 rfl vX5_37 (Nat.le_of_ble_eq_true rfl) ?_
      refine cr_passed hn (by decide) hR2 (fun h3 e3 i3 hR3 _ => ?_) (fun h3 e3 hR3 => ?_)
      · refine vr_if_ne (t := 35) (q := 33) dX5_readLaw_30 (by decide) rfl (fun _ => ?_) (fun c9 => absurd c9 (by omega))
        refine vr_aload_n (q := 36) dX5_readLaw_35 rfl rfl ?_
        refine vr_iload_n (q := 37) dX5_readLaw_36 rfl rfl ?_
        -- at X5.readLaw 37: .invokevirtual 44
        refine vr_iv1 (q := 40) dX5_readLaw_37 rfl vX5_44 (Nat.le_of_ble_eq_true rfl) ?_
        refine c_begin ?_
        refine vr_iconst (q := 41) dX5_readLaw_40 rfl ⟨by decide, by decide⟩ ?_
        -- at X5.readLaw 41: .ireturn
        refine vr_zret dX5_readLaw_41 rfl ?_ ?_
        · exact Or.inr rfl
        · refine k3 _ w p1 e1 e2 e3 i3 (rs_d ⟨by decide, by decide⟩ (rs_d ⟨by decide, by decide⟩ (rs_d ⟨by decide, by decide⟩ (rs_d ⟨by decide, by decide⟩ hR3)))) ⟨?_, ?_, ?_, ?_, fun i x hx => by simp at hx, fun i x hx => by simp at hx⟩
          · rw [hs_n (by omega), hs_n (by omega), hs_n (by omega), hs_e]
          · rw [hs_n (by omega), hs_n (by omega), hs_e]
          · rw [hs_n (by omega), hs_e]; rfl
          · rw [hs_e]; rfl
      · refine vr_if_ne (t := 35) (q := 33) dX5_readLaw_30 (by decide) rfl (fun c9 => absurd c9 (by omega)) (fun _ => ?_)
        refine vr_iconst (q := 34) dX5_readLaw_33 rfl ⟨by decide, by decide⟩ ?_
        -- at X5.readLaw 34: .ireturn
        refine vr_zret dX5_readLaw_34 rfl ?_ ?_
        · exact Or.inl rfl
        · exact k2 _ w p1 e1 e2 e3 hR3
    · refine vr_istore_n (q := 19) dX5_readLaw_18 rfl rfl (Nat.le_of_ble_eq_true rfl) rfl rfl ?_
      refine vr_iload_n (q := 20) dX5_readLaw_19 rfl rfl ?_
      refine vr_iconst (q := 21) dX5_readLaw_20 rfl ⟨by decide, by decide⟩ ?_
      -- at X5.readLaw 21: .if_icmp .eq 12
      refine vr_ic_eq (t := 33) (q := 24) dX5_readLaw_21 (by decide) rfl (fun _ => ?_) (fun c9 => absurd c9 (by omega))
      refine vr_iconst (q := 34) dX5_readLaw_33 rfl ⟨by decide, by decide⟩ ?_
      -- at X5.readLaw 34: .ireturn
      refine vr_zret dX5_readLaw_34 rfl ?_ ?_
      · exact Or.inl rfl
      · exact k1 _ k e1 e2 hR2
  · refine vr_if_ne (t := 11) (q := 9) dX5_readLaw_6 (by decide) rfl (fun c9 => absurd c9 (by omega)) (fun _ => ?_)
    refine vr_iconst (q := 10) dX5_readLaw_9 rfl ⟨by decide, by decide⟩ ?_
    -- at X5.readLaw 10: .ireturn
    refine vr_zret dX5_readLaw_10 rfl ?_ ?_
    · exact Or.inl rfl
    · exact k0 _ e1 hR1
theorem c_readLies {hc : SH_} {st p : Int} (hn : 0 ≤ h 5 1 ∧ h 5 1 ≤ 120) (hp : 0 ≤ p ∧ p ≤ 120) (hR : rs_ h hc p (h 5 3)) (hT : td_ hc 15 st [] []) (hK : pk_ (pl_ (bz_ (h 6) (h 5 1)) 6 p []) (fun q k => ∀ h2, rs_ h h2 q k → Post (some (sv_i 0)) h2) (fun r => ∀ h2, (0 ≤ r.1 ∧ r.1 ≤ 120) → rs_ h h2 r.1 (h 5 3) → td_ h2 15 st r.2 [] → Post (some (sv_i 1)) h2)) : Ctr_ g (d + 3) mX5_readLies [sv_r 4 4 5, sv_r 4 6 15] hc Post := by
  refine V_mk (by decide +kernel) (Or.inr (Or.inr (Or.inl ⟨rfl, rfl⟩))) (Nat.le_of_ble_eq_true rfl) (by simp [sv_c]) ?_
  show V_ _ _ _ 0 [_, _, _, _, _, _] [] _ _
  refine vr_iconst (q := 1) dX5_readLies_0 rfl ⟨by decide, by decide⟩ ?_
  refine vr_istore_n (q := 2) dX5_readLies_1 rfl rfl (Nat.le_of_ble_eq_true rfl) rfl rfl ?_
  -- at X5.readLies 2: .iload_n 2
  exact l_readLies hn 6 [] p hc _ _ _ rfl hp hR hT hK
theorem c_readStrangers {hc : SH_} {st p : Int} {ls : List (Int × Int × Int)} (hn : 0 ≤ h 5 1 ∧ h 5 1 ≤ 120) (hp : 0 ≤ p ∧ p ≤ 120) (hR : rs_ h hc p (h 5 3)) (hT : td_ hc 15 st ls []) (hK : pk_ (ps_ (bz_ (h 6) (h 5 1)) 4 p []) (fun q k => ∀ h2, rs_ h h2 q k → Post (some (sv_i 0)) h2) (fun r => ∀ h2, (0 ≤ r.1 ∧ r.1 ≤ 120) → rs_ h h2 r.1 (h 5 3) → td_ h2 15 st ls r.2 → Post (some (sv_i 1)) h2)) : Ctr_ g (d + 3) mX5_readStrangers [sv_r 4 4 5, sv_r 4 6 15] hc Post := by
  refine V_mk (by decide +kernel) (Or.inr (Or.inr (Or.inl ⟨rfl, rfl⟩))) (Nat.le_of_ble_eq_true rfl) (by simp [sv_c]) ?_
  show V_ _ _ _ 0 [_, _, _, _, _] [] _ _
  refine vr_iconst (q := 1) dX5_readStrangers_0 rfl ⟨by decide, by decide⟩ ?_
  refine vr_istore_n (q := 2) dX5_readStrangers_1 rfl rfl (Nat.le_of_ble_eq_true rfl) rfl rfl ?_
  -- at X5.readStrangers 2: .iload_n 2
  exact l_readStrangers hn 4 [] p hc _ _ rfl hp hR hT hK
theorem l_ri0 {hc : SH_} {q k : Int} {o : Option SV_} (hR : rs_ h hc q k) (kk : ∀ h2, ro_ h h2 q k → Post (some (sv_i 0)) h2) : V_ g (d + 4) mX5_readInto 33 [some (sv_r 4 4 5), some (sv_r 4 6 15), o] [] hc Post := by
  refine vr_iconst (q := 34) dX5_readInto_33 rfl ⟨by decide, by decide⟩ ?_
  refine vr_istore_n (q := 35) dX5_readInto_34 rfl rfl (Nat.le_of_ble_eq_true rfl) rfl rfl ?_
  refine vr_iload_n (q := 36) dX5_readInto_35 rfl rfl ?_
  -- at X5.readInto 36: .ifCond .eq 20
  refine vr_if_eq (t := 56) (q := 39) dX5_readInto_36 (by decide) rfl (fun _ => ?_) (fun c9 => absurd c9 (by omega))
  refine vr_aload_n (q := 57) dX5_readInto_56 rfl rfl ?_
  refine vr_iconst (q := 58) dX5_readInto_57 rfl ⟨by decide, by decide⟩ ?_
  refine vr_put (ji := 1) (q := 61) dX5_readInto_58 rfl pX5_13 rfl rfl ?_
  refine vr_iload_n (q := 62) dX5_readInto_61 rfl rfl ?_
  -- at X5.readInto 62: .ireturn
  refine vr_zret dX5_readInto_62 rfl ?_ ?_
  · exact Or.inl rfl
  · exact kk _ (rs_o hR)
theorem c_readInto (hn : 0 ≤ h 5 1 ∧ h 5 1 ≤ 120) (hK : pk_ (pt_ (bz_ (h 6) (h 5 1)) (h 5 1)) (fun q k => ∀ h2, ro_ h h2 q k → Post (some (sv_i 0)) h2) (fun r => ∀ h2 q, ro_ h h2 q (h 5 3) → td_ h2 15 r.1 r.2.1 r.2.2 → Post (some (sv_i 1)) h2)) : Ctr_ g (d + 4) mX5_readInto [sv_r 4 4 5, sv_r 4 6 15] h Post := by
  unfold pt_ at hK
  have hR0 : rs_ h (hs_ h 5 2 0) 0 (h 5 3) := rs_at 0 (p := h 5 2) ⟨fun _ _ _ => rfl, rfl, rfl, rfl⟩
  refine V_mk (by decide +kernel) (Or.inr (Or.inr (Or.inl ⟨rfl, rfl⟩))) (Nat.le_of_ble_eq_true rfl) (by simp [sv_c]) ?_
  show V_ _ _ _ 0 [_, _, _] [] _ _
  refine vr_aload_n (q := 1) dX5_readInto_0 rfl rfl ?_
  refine vr_iconst (q := 2) dX5_readInto_1 rfl ⟨by decide, by decide⟩ ?_
  refine vr_put (ji := 2) (q := 5) dX5_readInto_2 rfl pX5_17 rfl rfl ?_
  refine vr_aload_n (q := 6) dX5_readInto_5 rfl rfl ?_
  refine vr_aload_n (q := 7) dX5_readInto_6 rfl rfl ?_
  -- at X5.readInto 7: .invokevirtual 23
  refine vr_iv1 (q := 10) dX5_readInto_7 rfl vX5_23 (Nat.le_of_ble_eq_true rfl) ?_
  refine c_readLaw hn hR0 (fun h2 e1 hR => ?_) (fun h2 k e1 e2 hR => ?_) (fun h2 s1 p1 e1 e2 e3 hR => ?_) (fun h2 s1 p1 e1 e2 e3 i3 hR hT => ?_)
  · rw [if_neg e1] at hK
    refine vr_if_eq (t := 33) (q := 13) dX5_readInto_10 (by decide) rfl (fun _ => ?_) (fun c9 => absurd c9 (by omega))
    exact l_ri0 hR hK
  · rw [if_pos e1, e2] at hK
    refine vr_if_eq (t := 33) (q := 13) dX5_readInto_10 (by decide) rfl (fun _ => ?_) (fun c9 => absurd c9 (by omega))
    exact l_ri0 hR hK
  · rw [if_pos e1, e2] at hK
    dsimp only at hK
    rw [if_neg e3] at hK
    refine vr_if_eq (t := 33) (q := 13) dX5_readInto_10 (by decide) rfl (fun _ => ?_) (fun c9 => absurd c9 (by omega))
    exact l_ri0 hR hK
  · rw [if_pos e1, e2] at hK
    dsimp only at hK
    rw [if_pos e3] at hK
    refine vr_if_eq (t := 33) (q := 13) dX5_readInto_10 (by decide) rfl (fun c9 => absurd c9 (by omega)) (fun _ => ?_)
    refine vr_aload_n (q := 14) dX5_readInto_13 rfl rfl ?_
    refine vr_aload_n (q := 15) dX5_readInto_14 rfl rfl ?_
    -- at X5.readInto 15: .invokevirtual 27
    refine vr_iv1 (q := 18) dX5_readInto_15 rfl vX5_27 (Nat.le_of_ble_eq_true rfl) ?_
    refine c_readLies hn ⟨by omega, by omega⟩ hR hT ?_
    cases e4 : pl_ (bz_ (h 6) (h 5 1)) 6 (p1 + 1) [] with
    | error e =>
      rw [e4] at hK
      intro h3 hR3
      refine vr_if_eq (t := 33) (q := 21) dX5_readInto_18 (by decide) rfl (fun _ => ?_) (fun c9 => absurd c9 (by omega))
      exact l_ri0 hR3 hK
    | ok r =>
      obtain ⟨p2, ls⟩ := r
      rw [e4] at hK
      dsimp only at hK
      intro h3 hp3 hR3 hT3
      refine vr_if_eq (t := 33) (q := 21) dX5_readInto_18 (by decide) rfl (fun c9 => absurd c9 (by omega)) (fun _ => ?_)
      refine vr_aload_n (q := 22) dX5_readInto_21 rfl rfl ?_
      refine vr_aload_n (q := 23) dX5_readInto_22 rfl rfl ?_
      -- at X5.readInto 23: .invokevirtual 30
      refine vr_iv1 (q := 26) dX5_readInto_23 rfl vX5_30 (Nat.le_of_ble_eq_true rfl) ?_
      refine c_readStrangers hn hp3 hR3 hT3 ?_
      cases e5 : ps_ (bz_ (h 6) (h 5 1)) 4 p2 [] with
      | error e =>
        rw [e5] at hK
        intro h4 hR4
        refine vr_if_eq (t := 33) (q := 29) dX5_readInto_26 (by decide) rfl (fun _ => ?_) (fun c9 => absurd c9 (by omega))
        exact l_ri0 hR4 hK
      | ok r =>
        obtain ⟨p3, ss⟩ := r
        rw [e5] at hK
        dsimp only at hK
        intro h4 hp4 hR4 hT4
        refine vr_if_eq (t := 33) (q := 29) dX5_readInto_26 (by decide) rfl (fun c9 => absurd c9 (by omega)) (fun _ => ?_)
        refine vr_iconst (q := 30) dX5_readInto_29 rfl ⟨by decide, by decide⟩ ?_
        refine vr_goto (q := 34) dX5_readInto_30 (by decide) ?_
        refine vr_istore_n (q := 35) dX5_readInto_34 rfl rfl (Nat.le_of_ble_eq_true rfl) rfl rfl ?_
        refine vr_iload_n (q := 36) dX5_readInto_35 rfl rfl ?_
        -- at X5.readInto 36: .ifCond .eq 20
        refine vr_if_eq (t := 56) (q := 39) dX5_readInto_36 (by decide) rfl (fun c9 => absurd c9 (by omega)) (fun _ => ?_)
        refine vr_aload_n (q := 40) dX5_readInto_39 rfl rfl ?_
        refine vr_getV (ji := 2) (q := 43) dX5_readInto_40 rfl fX5_17 rfl rfl (hR4.2.2.1) ?_
        refine vr_aload_n (q := 44) dX5_readInto_43 rfl rfl ?_
        refine vr_getV (ji := 1) (q := 47) dX5_readInto_44 rfl fX5_13 rfl rfl (hR4.2.1) ?_
        -- at X5.readInto 47: .if_icmp .ge 9
        refine vr_ic_ge (t := 56) (q := 50) dX5_readInto_47 (by decide) rfl (fun c1 => ?_) (fun c1 => ?_)
        · rw [if_neg (by omega)] at hK
          refine vr_aload_n (q := 57) dX5_readInto_56 rfl rfl ?_
          refine vr_iconst (q := 58) dX5_readInto_57 rfl ⟨by decide, by decide⟩ ?_
          refine vr_put (ji := 1) (q := 61) dX5_readInto_58 rfl pX5_13 rfl rfl ?_
          refine vr_iload_n (q := 62) dX5_readInto_61 rfl rfl ?_
          -- at X5.readInto 62: .ireturn
          refine vr_zret dX5_readInto_62 rfl ?_ ?_
          · exact Or.inr rfl
          · exact hK _ p3 (rs_o hR4) (td_k (fun a ha => hs_k (by omega)) hT4)
        · rw [if_pos (by omega)] at hK
          refine vr_aload_n (q := 51) dX5_readInto_50 rfl rfl ?_
          refine vr_iconst (q := 52) dX5_readInto_51 rfl ⟨by decide, by decide⟩ ?_
          -- at X5.readInto 52: .invokevirtual 33
          refine vr_iv1 (q := 55) dX5_readInto_52 rfl vX5_33 (Nat.le_of_ble_eq_true rfl) ?_
          refine c_refuse ?_
          refine vr_istore_n (q := 56) dX5_readInto_55 rfl rfl (Nat.le_of_ble_eq_true rfl) rfl rfl ?_
          refine vr_aload_n (q := 57) dX5_readInto_56 rfl rfl ?_
          refine vr_iconst (q := 58) dX5_readInto_57 rfl ⟨by decide, by decide⟩ ?_
          refine vr_put (ji := 1) (q := 61) dX5_readInto_58 rfl pX5_13 rfl rfl ?_
          refine vr_iload_n (q := 62) dX5_readInto_61 rfl rfl ?_
          -- at X5.readInto 62: .ireturn
          refine vr_zret dX5_readInto_62 rfl ?_ ?_
          · exact Or.inl rfl
          · exact hK _ (rs_o (rs_ft _ hR4))
end PRG_
