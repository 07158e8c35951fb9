section PRF_
variable {g : SG_} {d : Nat} {h : SH_} {Post : Option SV_ → SH_ → Prop}
theorem l_readLies {st : Int} (hn : 0 ≤ h 5 1 ∧ h 5 1 ≤ 120) : ∀ (n : Nat) (ls : List (Int × Int × Int)) (p : Int) (hc : SH_) (o3 o4 o5 : Option SV_), ls.length + n = 6 → (0 ≤ p ∧ p ≤ 120) → rs_ h hc p (h 5 3) → td_ hc 15 st ls [] →
    pk_ (pl_ (bz_ (h 6) (h 5 1)) n p ls) (fun q k => ∀ h2, rs_ h h2 q k → Post (some (sv_i 0)) h2) (fun r => ∀ h2, (0 ≤ r.1 ∧ r.1 ≤ 120) → rs_ h h2 r.1 (h 5 3) → td_ h2 15 st r.2 [] → Post (some (sv_i 1)) h2) →
    V_ g (d + 3) mX5_readLies 2 [some (sv_r 4 4 5), some (sv_r 4 6 15), some (sv_i ls.length), o3, o4, o5] [] hc Post := by
  intro n
  induction n with
  | zero =>
    intro ls p hc o3 o4 o5 hl hp hR hT hK
    unfold pl_ at hK
    refine vr_iload_n (q := 3) dX5_readLies_2 rfl rfl ?_
    refine vr_bipush (q := 5) dX5_readLies_3 rfl ⟨by decide, by decide⟩ (by decide) ?_
    -- at X5.readLies 5: .if_icmp .gt 105
    refine vr_ic_gt (t := 110) (q := 8) dX5_readLies_5 (by decide) rfl (fun c9 => absurd c9 (by omega)) (fun _ => ?_)
    refine vr_aload_n (q := 9) dX5_readLies_8 rfl rfl ?_
    -- at X5.readLies 9: .invokevirtual 50
    refine vr_iv0 (q := 12) dX5_readLies_9 rfl vX5_50 (Nat.le_of_ble_eq_true rfl) ?_
    refine cr_here hn hR ?_
    refine vr_is1 (q := 15) dX5_readLies_12 rfl vX5_54 (Nat.le_of_ble_eq_true rfl) ?_
    refine c_ofLetter ?_
    refine vr_istore_n (q := 16) dX5_readLies_15 rfl rfl (Nat.le_of_ble_eq_true rfl) rfl rfl ?_
    refine vr_iload_n (q := 17) dX5_readLies_16 rfl rfl ?_
    -- at X5.readLies 17: .ifCond .ne 5
    refine vr_if_ne (t := 22) (q := 20) dX5_readLies_17 (by decide) rfl (fun c1 => ?_) (fun c1 => ?_)
    · rw [if_neg c1] at hK
      refine vr_iload_n (q := 23) dX5_readLies_22 rfl rfl ?_
      refine vr_bipush (q := 25) dX5_readLies_23 rfl ⟨by decide, by decide⟩ (by decide) ?_
      -- at X5.readLies 25: .if_icmp .ne 9
      refine vr_ic_ne (t := 34) (q := 28) dX5_readLies_25 (by decide) rfl (fun c9 => absurd c9 (by omega)) (fun _ => ?_)
      refine vr_aload_n (q := 29) dX5_readLies_28 rfl rfl ?_
      refine vr_iconst (q := 30) dX5_readLies_29 rfl ⟨by decide, by decide⟩ ?_
      -- at X5.readLies 30: .invokevirtual 33
      refine vr_iv1 (q := 33) dX5_readLies_30 rfl vX5_33 (Nat.le_of_ble_eq_true rfl) ?_
      refine c_refuse ?_
      refine vr_zret dX5_readLies_33 rfl ?_ ?_
      · exact Or.inl rfl
      · exact hK _ (rs_ft _ hR)
    · rw [if_pos c1] at hK
      refine vr_iconst (q := 21) dX5_readLies_20 rfl ⟨by decide, by decide⟩ ?_
      -- at X5.readLies 21: .ireturn
      refine vr_zret dX5_readLies_21 rfl ?_ ?_
      · exact Or.inr rfl
      · exact hK _ hp hR hT
  | succ n ih =>
    intro ls p hc o3 o4 o5 hl hp hR hT hK
    unfold pl_ at hK
    refine vr_iload_n (q := 3) dX5_readLies_2 rfl rfl ?_
    refine vr_bipush (q := 5) dX5_readLies_3 rfl ⟨by decide, by decide⟩ (by decide) ?_
    -- at X5.readLies 5: .if_icmp .gt 105
    refine vr_ic_gt (t := 110) (q := 8) dX5_readLies_5 (by decide) rfl (fun c9 => absurd c9 (by omega)) (fun _ => ?_)
    refine vr_aload_n (q := 9) dX5_readLies_8 rfl rfl ?_
    -- at X5.readLies 9: .invokevirtual 50
    refine vr_iv0 (q := 12) dX5_readLies_9 rfl vX5_50 (Nat.le_of_ble_eq_true rfl) ?_
    refine cr_here hn hR ?_
    refine vr_is1 (q := 15) dX5_readLies_12 rfl vX5_54 (Nat.le_of_ble_eq_true rfl) ?_
    refine c_ofLetter ?_
    refine vr_istore_n (q := 16) dX5_readLies_15 rfl rfl (Nat.le_of_ble_eq_true rfl) rfl rfl ?_
    refine vr_iload_n (q := 17) dX5_readLies_16 rfl rfl ?_
    -- at X5.readLies 17: .ifCond .ne 5
    refine vr_if_ne (t := 22) (q := 20) dX5_readLies_17 (by decide) rfl (fun c1 => ?_) (fun c1 => ?_)
    · rw [if_neg c1] at hK
      refine vr_iload_n (q := 23) dX5_readLies_22 rfl rfl ?_
      refine vr_bipush (q := 25) dX5_readLies_23 rfl ⟨by decide, by decide⟩ (by decide) ?_
      -- at X5.readLies 25: .if_icmp .ne 9
      refine vr_ic_ne (t := 34) (q := 28) dX5_readLies_25 (by decide) rfl (fun _ => ?_) (fun c9 => absurd c9 (by omega))
      refine vr_aload_n (q := 35) dX5_readLies_34 rfl rfl ?_
      refine vr_dup (q := 36) dX5_readLies_35 rfl rfl ?_
      refine vr_getV (ji := 2) (q := 39) dX5_readLies_36 rfl fX5_17 rfl rfl (hR.2.2.1) ?_
      refine vr_iconst (q := 40) dX5_readLies_39 rfl ⟨by decide, by decide⟩ ?_
      refine vr_iaddN (q := 41) dX5_readLies_40 rfl ⟨by omega, by omega⟩ ?_
      refine vr_put (ji := 2) (q := 44) dX5_readLies_41 rfl pX5_17 rfl rfl ?_
      -- at X5.readLies 44: .aload_n 0
      have hR1 := rs_at (p + 1) hR
      have hT1 := td_k (h := hs_ hc 5 2 (p + 1)) (fun a ha => hs_k (by omega)) hT
      generalize hs_ hc 5 2 (p + 1) = h1 at hR1 hT1 ⊢
      refine vr_aload_n (q := 45) dX5_readLies_44 rfl rfl ?_
      refine vr_iconst (q := 46) dX5_readLies_45 rfl ⟨by decide, by decide⟩ ?_
      refine vr_bipush (q := 48) dX5_readLies_46 rfl ⟨by decide, by decide⟩ (by decide) ?_
      -- at X5.readLies 48: .invokevirtual 40
      refine vr_iv2 (q := 51) dX5_readLies_48 rfl vX5_40 (Nat.le_of_ble_eq_true rfl) ?_
      refine cr_number hn ⟨by omega, by omega⟩ hR1 (fun w p1 h2 e2 hR2 k2 => ?_) (fun k h2 e2 hR2 => ?_)
      · have hT2 := td_k k2 hT1
        have b2 := rn_ok e2
        rw [e2] at hK
        dsimp only at hK
        refine vr_istore (q := 53) dX5_readLies_51 rfl (Nat.le_of_ble_eq_true rfl) rfl rfl ?_
        refine vr_iload (q := 55) dX5_readLies_53 rfl rfl ?_
        refine vr_iconst (q := 56) dX5_readLies_55 rfl ⟨by decide, by decide⟩ ?_
        -- at X5.readLies 56: .if_icmp .eq 12
        refine vr_ic_eq (t := 68) (q := 59) dX5_readLies_56 (by decide) rfl (fun c9 => absurd c9 (by omega)) (fun _ => ?_)
        refine vr_aload_n (q := 60) dX5_readLies_59 rfl rfl ?_
        refine vr_bipush (q := 62) dX5_readLies_60 rfl ⟨by decide, by decide⟩ (by decide) ?_
        -- at X5.readLies 62: .invokevirtual 37
        refine vr_iv1 (q := 65) dX5_readLies_62 rfl vX5_37 (Nat.le_of_ble_eq_true rfl) ?_
        refine cr_passed hn (by decide) hR2 (fun h3 e3 i3 hR3 k3 => ?_) (fun h3 e3 hR3 => ?_)
        · have hT3 := td_k k3 hT2
          rw [if_pos e3] at hK
          refine vr_if_ne (t := 70) (q := 68) dX5_readLies_65 (by decide) rfl (fun _ => ?_) (fun c9 => absurd c9 (by omega))
          refine vr_aload_n (q := 71) dX5_readLies_70 rfl rfl ?_
          refine vr_iconst (q := 72) dX5_readLies_71 rfl ⟨by decide, by decide⟩ ?_
          refine vr_iconst (q := 73) dX5_readLies_72 rfl ⟨by decide, by decide⟩ ?_
          -- at X5.readLies 73: .invokevirtual 40
          refine vr_iv2 (q := 76) dX5_readLies_73 rfl vX5_40 (Nat.le_of_ble_eq_true rfl) ?_
          refine cr_number hn ⟨by omega, by omega⟩ hR3 (fun t p4 h4 e4 hR4 k4 => ?_) (fun k h4 e4 hR4 => ?_)
          · have hT4 := td_k k4 hT3
            have b4 := rn_ok e4
            rw [e4] at hK
            dsimp only at hK
            refine vr_istore (q := 78) dX5_readLies_76 rfl (Nat.le_of_ble_eq_true rfl) rfl rfl ?_
            refine vr_iload (q := 80) dX5_readLies_78 rfl rfl ?_
            refine vr_iconst (q := 81) dX5_readLies_80 rfl ⟨by decide, by decide⟩ ?_
            -- at X5.readLies 81: .if_icmp .eq 12
            refine vr_ic_eq (t := 93) (q := 84) dX5_readLies_81 (by decide) rfl (fun c9 => absurd c9 (by omega)) (fun _ => ?_)
            refine vr_aload_n (q := 85) dX5_readLies_84 rfl rfl ?_
            refine vr_bipush (q := 87) dX5_readLies_85 rfl ⟨by decide, by decide⟩ (by decide) ?_
            -- at X5.readLies 87: .invokevirtual 37
            refine vr_iv1 (q := 90) dX5_readLies_87 rfl vX5_37 (Nat.le_of_ble_eq_true rfl) ?_
            refine cr_passed hn (by decide) hR4 (fun h5 e5 i5 hR5 k5 => ?_) (fun h5 e5 hR5 => ?_)
            · have hT5 := td_k k5 hT4
              rw [if_pos e5] at hK
              refine vr_if_ne (t := 95) (q := 93) dX5_readLies_90 (by decide) rfl (fun _ => ?_) (fun c9 => absurd c9 (by omega))
              refine vr_aload_n (q := 96) dX5_readLies_95 rfl rfl ?_
              refine vr_iload_n (q := 97) dX5_readLies_96 rfl rfl ?_
              refine vr_iload (q := 99) dX5_readLies_97 rfl rfl ?_
              refine vr_iload (q := 101) dX5_readLies_99 rfl rfl ?_
              -- at X5.readLies 101: .invokevirtual 60
              refine vr_iv3 (q := 104) dX5_readLies_101 rfl vX5_60 (Nat.le_of_ble_eq_true rfl) ?_
              refine c_addLie (by rw [hT5.2.2.1]; omega) ?_
              refine vr_iinc (q := 107) dX5_readLies_104 rfl rfl ⟨by omega, by omega⟩ (Nat.le_of_ble_eq_true rfl) rfl rfl ?_
              refine vr_goto (q := 2) dX5_readLies_107 (by decide) ?_
              -- at X5.readLies 2: .iload_n 2
              have e6 : ((ls.length : Nat) : Int) + 1 = (((ls ++ [(kl_ (bz_ (h 6) (h 5 1) p), w, t)]).length : Nat) : Int) := by simp
              rw [e6]
              exact ih _ _ _ _ _ _ (by simp; omega) ⟨by omega, by omega⟩ (rs_d ⟨by decide, by decide⟩ (rs_d ⟨by decide, by decide⟩ (rs_d ⟨by decide, by decide⟩ (rs_d ⟨by decide, by decide⟩ hR5)))) (td_l hT5) hK
            · rw [if_neg e5] at hK
              refine vr_if_ne (t := 95) (q := 93) dX5_readLies_90 (by decide) rfl (fun c9 => absurd c9 (by omega)) (fun _ => ?_)
              refine vr_iconst (q := 94) dX5_readLies_93 rfl ⟨by decide, by decide⟩ ?_
              -- at X5.readLies 94: .ireturn
              refine vr_zret dX5_readLies_94 rfl ?_ ?_
              · exact Or.inl rfl
              · exact hK _ hR5
          · rw [e4] at hK
            refine vr_istore (q := 78) dX5_readLies_76 rfl (Nat.le_of_ble_eq_true rfl) rfl rfl ?_
            refine vr_iload (q := 80) dX5_readLies_78 rfl rfl ?_
            refine vr_iconst (q := 81) dX5_readLies_80 rfl ⟨by decide, by decide⟩ ?_
            -- at X5.readLies 81: .if_icmp .eq 12
            refine vr_ic_eq (t := 93) (q := 84) dX5_readLies_81 (by decide) rfl (fun _ => ?_) (fun c9 => absurd c9 (by omega))
            refine vr_iconst (q := 94) dX5_readLies_93 rfl ⟨by decide, by decide⟩ ?_
            -- at X5.readLies 94: .ireturn
            refine vr_zret dX5_readLies_94 rfl ?_ ?_
            · exact Or.inl rfl
            · exact hK _ hR4
        · rw [if_neg e3] at hK
          refine vr_if_ne (t := 70) (q := 68) dX5_readLies_65 (by decide) rfl (fun c9 => absurd c9 (by omega)) (fun _ => ?_)
          refine vr_iconst (q := 69) dX5_readLies_68 rfl ⟨by decide, by decide⟩ ?_
          -- at X5.readLies 69: .ireturn
          refine vr_zret dX5_readLies_69 rfl ?_ ?_
          · exact Or.inl rfl
          · exact hK _ hR3
      · rw [e2] at hK
        refine vr_istore (q := 53) dX5_readLies_51 rfl (Nat.le_of_ble_eq_true rfl) rfl rfl ?_
        refine vr_iload (q := 55) dX5_readLies_53 rfl rfl ?_
        refine vr_iconst (q := 56) dX5_readLies_55 rfl ⟨by decide, by decide⟩ ?_
        -- at X5.readLies 56: .if_icmp .eq 12
        refine vr_ic_eq (t := 68) (q := 59) dX5_readLies_56 (by decide) rfl (fun _ => ?_) (fun c9 => absurd c9 (by omega))
        refine vr_iconst (q := 69) dX5_readLies_68 rfl ⟨by decide, by decide⟩ ?_
        -- at X5.readLies 69: .ireturn
        refine vr_zret dX5_readLies_69 rfl ?_ ?_
        · exact Or.inl rfl
        · exact hK _ hR2
    · rw [if_pos c1] at hK
      refine vr_iconst (q := 21) dX5_readLies_20 rfl ⟨by decide, by decide⟩ ?_
      -- at X5.readLies 21: .ireturn
      refine vr_zret dX5_readLies_21 rfl ?_ ?_
      · exact Or.inr rfl
      · exact hK _ hp hR hT
theorem l_readStrangers {st : Int} {ls : List (Int × Int × Int)} (hn : 0 ≤ h 5 1 ∧ h 5 1 ≤ 120) : ∀ (n : Nat) (ss : List (Int × Int)) (p : Int) (hc : SH_) (o3 o4 : Option SV_), ss.length + n = 4 → (0 ≤ p ∧ p ≤ 120) → rs_ h hc p (h 5 3) → td_ hc 15 st ls ss →
    pk_ (ps_ (bz_ (h 6) (h 5 1)) n p ss) (fun q k => ∀ h2, rs_ h h2 q k → Post (some (sv_i 0)) h2) (fun r => ∀ h2, (0 ≤ r.1 ∧ r.1 ≤ 120) → rs_ h h2 r.1 (h 5 3) → td_ h2 15 st ls r.2 → Post (some (sv_i 1)) h2) →
    V_ g (d + 3) mX5_readStrangers 2 [some (sv_r 4 4 5), some (sv_r 4 6 15), some (sv_i ss.length), o3, o4] [] hc Post := by
  intro n
  induction n with
  | zero =>
    intro ss p hc o3 o4 hl hp hR hT hK
    unfold ps_ at hK
    refine vr_iload_n (q := 3) dX5_readStrangers_2 rfl rfl ?_
    refine vr_iconst (q := 4) dX5_readStrangers_3 rfl ⟨by decide, by decide⟩ ?_
    -- at X5.readStrangers 4: .if_icmp .gt 98
    refine vr_ic_gt (t := 102) (q := 7) dX5_readStrangers_4 (by decide) rfl (fun c9 => absurd c9 (by omega)) (fun _ => ?_)
    refine vr_aload_n (q := 8) dX5_readStrangers_7 rfl rfl ?_
    -- at X5.readStrangers 8: .invokevirtual 50
    refine vr_iv0 (q := 11) dX5_readStrangers_8 rfl vX5_50 (Nat.le_of_ble_eq_true rfl) ?_
    refine cr_here hn hR ?_
    refine vr_bipush (q := 13) dX5_readStrangers_11 rfl ⟨by decide, by decide⟩ (by decide) ?_
    -- at X5.readStrangers 13: .if_icmp .eq 5
    refine vr_ic_eq (t := 18) (q := 16) dX5_readStrangers_13 (by decide) rfl (fun c1 => ?_) (fun c1 => ?_)
    · rw [if_pos c1] at hK
      refine vr_iload_n (q := 19) dX5_readStrangers_18 rfl rfl ?_
      refine vr_iconst (q := 20) dX5_readStrangers_19 rfl ⟨by decide, by decide⟩ ?_
      -- at X5.readStrangers 20: .if_icmp .ne 9
      refine vr_ic_ne (t := 29) (q := 23) dX5_readStrangers_20 (by decide) rfl (fun c9 => absurd c9 (by omega)) (fun _ => ?_)
      refine vr_aload_n (q := 24) dX5_readStrangers_23 rfl rfl ?_
      refine vr_iconst (q := 25) dX5_readStrangers_24 rfl ⟨by decide, by decide⟩ ?_
      -- at X5.readStrangers 25: .invokevirtual 33
      refine vr_iv1 (q := 28) dX5_readStrangers_25 rfl vX5_33 (Nat.le_of_ble_eq_true rfl) ?_
      refine c_refuse ?_
      refine vr_zret dX5_readStrangers_28 rfl ?_ ?_
      · exact Or.inl rfl
      · exact hK _ (rs_ft _ hR)
    · rw [if_neg c1] at hK
      refine vr_iconst (q := 17) dX5_readStrangers_16 rfl ⟨by decide, by decide⟩ ?_
      -- at X5.readStrangers 17: .ireturn
      refine vr_zret dX5_readStrangers_17 rfl ?_ ?_
      · exact Or.inr rfl
      · exact hK _ hp hR hT
  | succ n ih =>
    intro ss p hc o3 o4 hl hp hR hT hK
    unfold ps_ at hK
    refine vr_iload_n (q := 3) dX5_readStrangers_2 rfl rfl ?_
    refine vr_iconst (q := 4) dX5_readStrangers_3 rfl ⟨by decide, by decide⟩ ?_
    -- at X5.readStrangers 4: .if_icmp .gt 98
    refine vr_ic_gt (t := 102) (q := 7) dX5_readStrangers_4 (by decide) rfl (fun c9 => absurd c9 (by omega)) (fun _ => ?_)
    refine vr_aload_n (q := 8) dX5_readStrangers_7 rfl rfl ?_
    -- at X5.readStrangers 8: .invokevirtual 50
    refine vr_iv0 (q := 11) dX5_readStrangers_8 rfl vX5_50 (Nat.le_of_ble_eq_true rfl) ?_
    refine cr_here hn hR ?_
    refine vr_bipush (q := 13) dX5_readStrangers_11 rfl ⟨by decide, by decide⟩ (by decide) ?_
    -- at X5.readStrangers 13: .if_icmp .eq 5
    refine vr_ic_eq (t := 18) (q := 16) dX5_readStrangers_13 (by decide) rfl (fun c1 => ?_) (fun c1 => ?_)
    · rw [if_pos c1] at hK
      refine vr_iload_n (q := 19) dX5_readStrangers_18 rfl rfl ?_
      refine vr_iconst (q := 20) dX5_readStrangers_19 rfl ⟨by decide, by decide⟩ ?_
      -- at X5.readStrangers 20: .if_icmp .ne 9
      refine vr_ic_ne (t := 29) (q := 23) dX5_readStrangers_20 (by decide) rfl (fun _ => ?_) (fun c9 => absurd c9 (by omega))
      refine vr_aload_n (q := 30) dX5_readStrangers_29 rfl rfl ?_
      refine vr_dup (q := 31) dX5_readStrangers_30 rfl rfl ?_
      refine vr_getV (ji := 2) (q := 34) dX5_readStrangers_31 rfl fX5_17 rfl rfl (hR.2.2.1) ?_
      refine vr_iconst (q := 35) dX5_readStrangers_34 rfl ⟨by decide, by decide⟩ ?_
      refine vr_iaddN (q := 36) dX5_readStrangers_35 rfl ⟨by omega, by omega⟩ ?_
      refine vr_put (ji := 2) (q := 39) dX5_readStrangers_36 rfl pX5_17 rfl rfl ?_
      -- at X5.readStrangers 39: .aload_n 0
      have hR1 := rs_at (p + 1) hR
      have hT1 := td_k (h := hs_ hc 5 2 (p + 1)) (fun a ha => hs_k (by omega)) hT
      generalize hs_ hc 5 2 (p + 1) = h1 at hR1 hT1 ⊢
      refine vr_aload_n (q := 40) dX5_readStrangers_39 rfl rfl ?_
      refine vr_iconst (q := 41) dX5_readStrangers_40 rfl ⟨by decide, by decide⟩ ?_
      refine vr_bipush (q := 43) dX5_readStrangers_41 rfl ⟨by decide, by decide⟩ (by decide) ?_
      -- at X5.readStrangers 43: .invokevirtual 40
      refine vr_iv2 (q := 46) dX5_readStrangers_43 rfl vX5_40 (Nat.le_of_ble_eq_true rfl) ?_
      refine cr_number hn ⟨by omega, by omega⟩ hR1 (fun w p1 h2 e2 hR2 k2 => ?_) (fun k h2 e2 hR2 => ?_)
      · have hT2 := td_k k2 hT1
        have b2 := rn_ok e2
        rw [e2] at hK
        dsimp only at hK
        refine vr_istore_n (q := 47) dX5_readStrangers_46 rfl rfl (Nat.le_of_ble_eq_true rfl) rfl rfl ?_
        refine vr_iload_n (q := 48) dX5_readStrangers_47 rfl rfl ?_
        refine vr_iconst (q := 49) dX5_readStrangers_48 rfl ⟨by decide, by decide⟩ ?_
        -- at X5.readStrangers 49: .if_icmp .eq 12
        refine vr_ic_eq (t := 61) (q := 52) dX5_readStrangers_49 (by decide) rfl (fun c9 => absurd c9 (by omega)) (fun _ => ?_)
        refine vr_aload_n (q := 53) dX5_readStrangers_52 rfl rfl ?_
        refine vr_bipush (q := 55) dX5_readStrangers_53 rfl ⟨by decide, by decide⟩ (by decide) ?_
        -- at X5.readStrangers 55: .invokevirtual 37
        refine vr_iv1 (q := 58) dX5_readStrangers_55 rfl vX5_37 (Nat.le_of_ble_eq_true rfl) ?_
        refine cr_passed hn (by decide) hR2 (fun h3 e3 i3 hR3 k3 => ?_) (fun h3 e3 hR3 => ?_)
        · have hT3 := td_k k3 hT2
          rw [if_pos e3] at hK
          refine vr_if_ne (t := 63) (q := 61) dX5_readStrangers_58 (by decide) rfl (fun _ => ?_) (fun c9 => absurd c9 (by omega))
          refine vr_aload_n (q := 64) dX5_readStrangers_63 rfl rfl ?_
          refine vr_iconst (q := 65) dX5_readStrangers_64 rfl ⟨by decide, by decide⟩ ?_
          refine vr_bipush (q := 67) dX5_readStrangers_65 rfl ⟨by decide, by decide⟩ (by decide) ?_
          -- at X5.readStrangers 67: .invokevirtual 40
          refine vr_iv2 (q := 70) dX5_readStrangers_67 rfl vX5_40 (Nat.le_of_ble_eq_true rfl) ?_
          refine cr_number hn ⟨by omega, by omega⟩ hR3 (fun t p4 h4 e4 hR4 k4 => ?_) (fun k h4 e4 hR4 => ?_)
          · have hT4 := td_k k4 hT3
            have b4 := rn_ok e4
            rw [e4] at hK
            dsimp only at hK
            refine vr_istore (q := 72) dX5_readStrangers_70 rfl (Nat.le_of_ble_eq_true rfl) rfl rfl ?_
            refine vr_iload (q := 74) dX5_readStrangers_72 rfl rfl ?_
            refine vr_iconst (q := 75) dX5_readStrangers_74 rfl ⟨by decide, by decide⟩ ?_
            -- at X5.readStrangers 75: .if_icmp .eq 12
            refine vr_ic_eq (t := 87) (q := 78) dX5_readStrangers_75 (by decide) rfl (fun c9 => absurd c9 (by omega)) (fun _ => ?_)
            refine vr_aload_n (q := 79) dX5_readStrangers_78 rfl rfl ?_
            refine vr_bipush (q := 81) dX5_readStrangers_79 rfl ⟨by decide, by decide⟩ (by decide) ?_
            -- at X5.readStrangers 81: .invokevirtual 37
            refine vr_iv1 (q := 84) dX5_readStrangers_81 rfl vX5_37 (Nat.le_of_ble_eq_true rfl) ?_
            refine cr_passed hn (by decide) hR4 (fun h5 e5 i5 hR5 k5 => ?_) (fun h5 e5 hR5 => ?_)
            · have hT5 := td_k k5 hT4
              rw [if_pos e5] at hK
              refine vr_if_ne (t := 89) (q := 87) dX5_readStrangers_84 (by decide) rfl (fun _ => ?_) (fun c9 => absurd c9 (by omega))
              refine vr_aload_n (q := 90) dX5_readStrangers_89 rfl rfl ?_
              refine vr_iload_n (q := 91) dX5_readStrangers_90 rfl rfl ?_
              refine vr_iload (q := 93) dX5_readStrangers_91 rfl rfl ?_
              -- at X5.readStrangers 93: .invokevirtual 64
              refine vr_iv2 (q := 96) dX5_readStrangers_93 rfl vX5_64 (Nat.le_of_ble_eq_true rfl) ?_
              refine c_addStranger (by rw [hT5.2.2.2.1]; omega) ?_
              refine vr_iinc (q := 99) dX5_readStrangers_96 rfl rfl ⟨by omega, by omega⟩ (Nat.le_of_ble_eq_true rfl) rfl rfl ?_
              refine vr_goto (q := 2) dX5_readStrangers_99 (by decide) ?_
              -- at X5.readStrangers 2: .iload_n 2
              have e6 : ((ss.length : Nat) : Int) + 1 = (((ss ++ [(w, t)]).length : Nat) : Int) := by simp
              rw [e6]
              exact ih _ _ _ _ _ (by simp; omega) ⟨by omega, by omega⟩ (rs_d ⟨by decide, by decide⟩ (rs_d ⟨by decide, by decide⟩ (rs_d ⟨by decide, by decide⟩ (rs_d ⟨by decide, by decide⟩ (rs_d ⟨by decide, by decide⟩ hR5))))) (td_s hT5) hK
            · rw [if_neg e5] at hK
              refine vr_if_ne (t := 89) (q := 87) dX5_readStrangers_84 (by decide) rfl (fun c9 => absurd c9 (by omega)) (fun _ => ?_)
              refine vr_iconst (q := 88) dX5_readStrangers_87 rfl ⟨by decide, by decide⟩ ?_
              -- at X5.readStrangers 88: .ireturn
              refine vr_zret dX5_readStrangers_88 rfl ?_ ?_
              · exact Or.inl rfl
              · exact hK _ hR5
          · rw [e4] at hK
            refine vr_istore (q := 72) dX5_readStrangers_70 rfl (Nat.le_of_ble_eq_true rfl) rfl rfl ?_
            refine vr_iload (q := 74) dX5_readStrangers_72 rfl rfl ?_
            refine vr_iconst (q := 75) dX5_readStrangers_74 rfl ⟨by decide, by decide⟩ ?_
            -- at X5.readStrangers 75: .if_icmp .eq 12
            refine vr_ic_eq (t := 87) (q := 78) dX5_readStrangers_75 (by decide) rfl (fun _ => ?_) (fun c9 => absurd c9 (by omega))
            refine vr_iconst (q := 88) dX5_readStrangers_87 rfl ⟨by decide, by decide⟩ ?_
            -- at X5.readStrangers 88: .ireturn
            refine vr_zret dX5_readStrangers_88 rfl ?_ ?_
            · exact Or.inl rfl
            · exact hK _ hR4
        · rw [if_neg e3] at hK
          refine vr_if_ne (t := 63) (q := 61) dX5_readStrangers_58 (by decide) rfl (fun c9 => absurd c9 (by omega)) (fun _ => ?_)
          refine vr_iconst (q := 62) dX5_readStrangers_61 rfl ⟨by decide, by decide⟩ ?_
          -- at X5.readStrangers 62: .ireturn
          refine vr_zret dX5_readStrangers_62 rfl ?_ ?_
          · exact Or.inl rfl
          · exact hK _ hR3
      · rw [e2] at hK
        refine vr_istore_n (q := 47) dX5_readStrangers_46 rfl rfl (Nat.le_of_ble_eq_true rfl) rfl rfl ?_
        refine vr_iload_n (q := 48) dX5_readStrangers_47 rfl rfl ?_
        refine vr_iconst (q := 49) dX5_readStrangers_48 rfl ⟨by decide, by decide⟩ ?_
        -- at X5.readStrangers 49: .if_icmp .eq 12
        refine vr_ic_eq (t := 61) (q := 52) dX5_readStrangers_49 (by decide) rfl (fun _ => ?_) (fun c9 => absurd c9 (by omega))
        refine vr_iconst (q := 62) dX5_readStrangers_61 rfl ⟨by decide, by decide⟩ ?_
        -- at X5.readStrangers 62: .ireturn
        refine vr_zret dX5_readStrangers_62 rfl ?_ ?_
        · exact Or.inl rfl
        · exact hK _ hR2
    · rw [if_neg c1] at hK
      refine vr_iconst (q := 17) dX5_readStrangers_16 rfl ⟨by decide, by decide⟩ ?_
      -- at X5.readStrangers 17: .ireturn
      refine vr_zret dX5_readStrangers_17 rfl ?_ ?_
      · exact Or.inr rfl
      · exact hK _ hp hR hT
end PRF_
