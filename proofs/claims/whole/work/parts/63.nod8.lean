theorem wf_c {F : TF_} {L L2 : Int → Int} {c : Int} : ∀ (k : Nat) (t : Int) (m : MU_) (w : Int), (∀ j, t ≤ j → j < t + k → L j = L2 j) → wf_ F L c k t m w = wf_ F L2 c k t m w := by
  intro k
  induction k with
  | zero => intro t m w _; rfl
  | succ k ih =>
    intro t m w hh
    have h0 := hh t (by omega) (by omega)
    unfold wf_
    rw [h0, ih (t + 1) _ _ (fun j a b => hh j (by omega) (by omega)), ih (t + 1) _ (w - 1) (fun j a b => hh j (by omega) (by omega))]
/-- the greatest common divisor as the class takes it, one at least -/
def gd_ (a b : Int) : Int := if gc_ 64 (if a < b then b else a) (if b < a then b else a) < 1 then 1 else gc_ 64 (if a < b then b else a) (if b < a then b else a)
theorem gd_r (a b : Int) : 0 < gd_ a b := by
  unfold gd_
  split <;> omega
/-- the ways to nod k times, of a telling that lies in a row from p on -/
def wo_ (h : SH_) (s p n k c : Int) : Int := wf_ (tf_ h) (fun t => h 4 (p + 2 * t)) c n.toNat 0 (en_ h s) k
section PN8_
variable {g : SG_} {d : Nat} {h : SH_} {Post : Option SV_ → SH_ → Prop}
theorem cg_ways {hc : SH_} {s k c p n : Int} (o : to_ h) (hs : 0 ≤ s ∧ s < h 7 3) (hk : 0 ≤ k ∧ k ≤ 6) (hv : 0 ≤ c ∧ c ≤ 10) (hn : 0 ≤ n ∧ n ≤ 6) (hall : ∀ t, 0 ≤ t → t < n → 0 ≤ h 4 (p + 2 * t) ∧ h 4 (p + 2 * t) < h 7 2) (hT : tt_ h p n hc) (kk : ∀ h2, fk_ h h2 → h2 46 7 = n → Post (some (sv_i (wo_ h s p n k c))) h2) : Ctr_ g (d + 12) mX2_waysToNod [sv_r 4 2 46, sv_r 4 6 7, sv_i s, sv_i k, sv_i c] hc Post := by
  obtain ⟨t1, t2, t3⟩ := id hT
  rw [show d + 12 = (d + (6 - n.toNat)) + n.toNat + 6 by omega]
  refine c_waysToNod (n := n) (fk_to t1 o) (by rw [t1 7 (by omega)]; exact hs) hv hk hn t2 (fun t a b => by rw [(t3 t a b).1, t1 7 (by omega)]; exact hall t a b) (fun h2 s2 => ?_)
  rw [fk_tf t1, en_k (fun x _ _ => t1 x (by omega)), wf_c (L2 := fun t => h 4 (p + 2 * t)) n.toNat 0 _ _ (fun j a b => (t3 j a (by omega)).1)]
  refine kk h2 (fk_t (fk_t t1 (fk_m ⟨by decide, by decide⟩ (fk_r _))) (sd_fk s2 (by decide))) ?_
  rw [sd_lo s2 (by decide) (by omega), ms_lo (by decide) (by decide)]
  exact t2
theorem x_odds {s r i n k c w : Int} (o : to_ h) (ho : ∀ r, 0 ≤ r → r < 8 → 0 ≤ h 3 r ∧ h 3 r ≤ 40) (k1 : ¬ ((0 ≤ s ∧ s < h 7 3) ∧ ((0 ≤ r ∧ r < 8) ∧ (0 ≤ n ∧ n ≤ 6)) ∧ (0 ≤ k ∧ k ≤ 6) ∧ (0 ≤ c ∧ c ≤ 10) ∧ (0 ≤ w ∧ w ≤ 1)) → Post (some (sv_i (-1000001))) h) (k2 : ((0 ≤ s ∧ s < h 7 3) ∧ ((0 ≤ r ∧ r < 8) ∧ (0 ≤ n ∧ n ≤ 6)) ∧ (0 ≤ k ∧ k ≤ 6) ∧ (0 ≤ c ∧ c ≤ 10) ∧ (0 ≤ w ∧ w ≤ 1)) → h 2 r = -1 → Post (some (sv_i (-1000010 - 1))) (hs_ h 0 8 1)) (k3 : ((0 ≤ s ∧ s < h 7 3) ∧ ((0 ≤ r ∧ r < 8) ∧ (0 ≤ n ∧ n ≤ 6)) ∧ (0 ≤ k ∧ k ≤ 6) ∧ (0 ≤ c ∧ c ≤ 10) ∧ (0 ≤ w ∧ w ≤ 1)) → ¬ h 2 r = -1 → ¬ (0 ≤ i ∧ i + 2 * n ≤ h 3 r) → Post (some (sv_i (-1000010 - 2))) (hs_ h 0 8 2)) (k4 : ((0 ≤ s ∧ s < h 7 3) ∧ ((0 ≤ r ∧ r < 8) ∧ (0 ≤ n ∧ n ≤ 6)) ∧ (0 ≤ k ∧ k ≤ 6) ∧ (0 ≤ c ∧ c ≤ 10) ∧ (0 ≤ w ∧ w ≤ 1)) → ¬ h 2 r = -1 → (0 ≤ i ∧ i + 2 * n ≤ h 3 r) → ¬ (∀ t, 0 ≤ t → t < n → 0 ≤ h 4 (r * 40 + i + 2 * t) ∧ h 4 (r * 40 + i + 2 * t) < h 7 2) → ∀ h2, fk_ h h2 → Post (some (sv_i (-1000001))) h2) (k5 : ((0 ≤ s ∧ s < h 7 3) ∧ ((0 ≤ r ∧ r < 8) ∧ (0 ≤ n ∧ n ≤ 6)) ∧ (0 ≤ k ∧ k ≤ 6) ∧ (0 ≤ c ∧ c ≤ 10) ∧ (0 ≤ w ∧ w ≤ 1)) → ¬ h 2 r = -1 → (0 ≤ i ∧ i + 2 * n ≤ h 3 r) → (∀ t, 0 ≤ t → t < n → 0 ≤ h 4 (r * 40 + i + 2 * t) ∧ h 4 (r * 40 + i + 2 * t) < h 7 2) → ∀ h2, fk_ h h2 → Post (some (sv_i ((if w = 0 then wo_ h s (r * 40 + i) n k c else pw_ n.toNat).tdiv (gd_ (wo_ h s (r * 40 + i) n k c) (pw_ n.toNat))))) (hs_ h2 0 8 0)) : Ctr_ g (d + 13) mX8_odds [sv_r 4 7 0, sv_i s, sv_i r, sv_i i, sv_i n, sv_i k, sv_i c, sv_i w] h Post := by
  have r69 : ∀ (v : Int) (h2 : SH_), v ≠ 0 → Post (some (sv_i v)) h2 → V_ g (d + 13) mX8_odds 69 [some (sv_r 4 7 0), some (sv_i s), some (sv_i r), some (sv_i i), some (sv_i n), some (sv_i k), some (sv_i c), some (sv_i w), none, none, none, none] [sv_i v] h2 Post := by
    intro v h2 hv kk
    refine vr_istore (q := 71) dX8_odds_69 rfl (Nat.le_of_ble_eq_true rfl) rfl rfl ?_
    refine vr_iload (q := 73) dX8_odds_71 rfl rfl ?_
    -- at X8.odds 73: .ifCond .eq 6
    refine vr_if_eq (t := 79) (q := 76) dX8_odds_73 (by decide) rfl (fun c9 => absurd c9 (by omega)) (fun _ => ?_)
    refine vr_iload (q := 78) dX8_odds_76 rfl rfl ?_
    refine vr_iret dX8_odds_78 rfl ?_
    first | exact kk | (exfalso; omega) | (repeat (first | exact kk | rw [if_pos (by omega)] at kk | rw [if_neg (by omega)] at kk))
  have r61 : ((0 ≤ s ∧ s < h 7 3) ∧ ((0 ≤ r ∧ r < 8) ∧ (0 ≤ n ∧ n ≤ 6)) ∧ (0 ≤ k ∧ k ≤ 6) ∧ (0 ≤ c ∧ c ≤ 10) ∧ (0 ≤ w ∧ w ≤ 1)) → V_ g (d + 13) mX8_odds 61 [some (sv_r 4 7 0), some (sv_i s), some (sv_i r), some (sv_i i), some (sv_i n), some (sv_i k), some (sv_i c), some (sv_i w), none, none, none, none] [] h Post := by
    intro z
    refine vr_aload_n (q := 62) dX8_odds_61 rfl rfl ?_
    refine vr_iload_n (q := 63) dX8_odds_62 rfl rfl ?_
    refine vr_iload_n (q := 64) dX8_odds_63 rfl rfl ?_
    refine vr_iload (q := 66) dX8_odds_64 rfl rfl ?_
    -- at X8.odds 66: .invokevirtual 252
    refine vr_iv3 (q := 69) dX8_odds_66 rfl vX8_252 (Nat.le_of_ble_eq_true rfl) ?_
    refine c_xTake o ho z.2.1.1 z.2.1.2 (fun a1 => ?_) (fun a1 a2 => ?_) (fun a1 a2 a3 h2 f2 => ?_) (fun a1 a2 a3 h2 t2 => ?_)
    · exact r69 _ _ (by decide) (k2 z a1)
    · exact r69 _ _ (by decide) (k3 z a1 a2)
    · exact r69 _ _ (by decide) (k4 z a1 a2 a3 h2 f2)
    · have kk := k5 z a1 a2 a3
      have wr := wf_r (F := tf_ h) (L := fun t => h 4 (r * 40 + i + 2 * t)) z.2.2.2.1 n.toNat 0 (en_ h s) k
      have pb := pw_b (n := n.toNat) (by omega)
      have gr := gd_r (wo_ h s (r * 40 + i) n k c) (pw_ n.toNat)
      refine vr_istore (q := 71) dX8_odds_69 rfl (Nat.le_of_ble_eq_true rfl) rfl rfl ?_
      refine vr_iload (q := 73) dX8_odds_71 rfl rfl ?_
      -- at X8.odds 73: .ifCond .eq 6
      refine vr_if_eq (t := 79) (q := 76) dX8_odds_73 (by decide) rfl (fun _ => ?_) (fun c9 => absurd c9 (by omega))
      refine vr_aload_n (q := 80) dX8_odds_79 rfl rfl ?_
      refine vr_getA (q := 83) dX8_odds_80 rfl fX8_47 rfl ⟨by decide, by decide, rfl⟩ ?_
      refine vr_aload_n (q := 84) dX8_odds_83 rfl rfl ?_
      refine vr_getA (q := 87) dX8_odds_84 rfl fX8_26 rfl ⟨by decide, by decide, rfl⟩ ?_
      refine vr_iload_n (q := 88) dX8_odds_87 rfl rfl ?_
      refine vr_iload (q := 90) dX8_odds_88 rfl rfl ?_
      refine vr_iload (q := 92) dX8_odds_90 rfl rfl ?_
      -- at X8.odds 92: .invokevirtual 261
      refine vr_iv4 (q := 95) dX8_odds_92 rfl vX8_261 (Nat.le_of_ble_eq_true rfl) ?_
      refine cg_ways (d := d) o z.1 z.2.2.1 z.2.2.2.1 z.2.1.2 a3 t2 (fun h3 f3 e3 => ?_)
      change 0 ≤ wo_ h s (r * 40 + i) n k c ∧ wo_ h s (r * 40 + i) n k c ≤ _ at wr
      refine vr_istore (q := 97) dX8_odds_95 rfl (Nat.le_of_ble_eq_true rfl) rfl rfl ?_
      refine vr_aload_n (q := 98) dX8_odds_97 rfl rfl ?_
      refine vr_getA (q := 101) dX8_odds_98 rfl fX8_47 rfl ⟨by decide, by decide, rfl⟩ ?_
      -- at X8.odds 101: .invokevirtual 265
      refine vr_iv0 (q := 104) dX8_odds_101 rfl vX8_265 (Nat.le_of_ble_eq_true rfl) ?_
      refine c_waysInAll z.2.1.2 e3 ?_
      refine vr_istore (q := 106) dX8_odds_104 rfl (Nat.le_of_ble_eq_true rfl) rfl rfl ?_
      refine vr_iload (q := 108) dX8_odds_106 rfl rfl ?_
      refine vr_iload (q := 110) dX8_odds_108 rfl rfl ?_
      -- at X8.odds 110: .invokestatic 268
      refine vr_is2 (q := 113) dX8_odds_110 rfl vX8_268 (Nat.le_of_ble_eq_true rfl) ?_
      refine c_common ⟨wr.1, by omega⟩ ⟨by omega, pb.2⟩ ?_
      change V_ _ _ _ _ _ (sv_i (gd_ (wo_ h s (r * 40 + i) n k c) (pw_ n.toNat)) :: _) _ _
      generalize gd_ (wo_ h s (r * 40 + i) n k c) (pw_ n.toNat) = gv at kk gr ⊢
      refine vr_istore (q := 115) dX8_odds_113 rfl (Nat.le_of_ble_eq_true rfl) rfl rfl ?_
      refine vr_aload_n (q := 116) dX8_odds_115 rfl rfl ?_
      refine vr_iload (q := 118) dX8_odds_116 rfl rfl ?_
      refine vr_if_ne (t := 126) (q := 121) dX8_odds_118 (by decide) rfl (fun c118 => ?_) (fun c118 => ?_)
      · refine vr_iload (q := 128) dX8_odds_126 rfl rfl ?_
        refine vr_iload (q := 130) dX8_odds_128 rfl rfl ?_
        refine vr_idiv (q := 131) dX8_odds_130 rfl (by omega) ?_
        refine vr_iv1 (q := 134) dX8_odds_131 rfl vX8_78 (Nat.le_of_ble_eq_true rfl) ?_
        refine c_unfound ?_
        refine vr_iret dX8_odds_134 rfl ?_
        first | (rw [if_pos (by assumption)] at kk; exact kk h3 f3) | (rw [if_neg (by assumption)] at kk; exact kk h3 f3)
      · refine vr_iload (q := 123) dX8_odds_121 rfl rfl ?_
        refine vr_goto (q := 128) dX8_odds_123 (by decide) ?_
        refine vr_iload (q := 130) dX8_odds_128 rfl rfl ?_
        refine vr_idiv (q := 131) dX8_odds_130 rfl (by omega) ?_
        refine vr_iv1 (q := 134) dX8_odds_131 rfl vX8_78 (Nat.le_of_ble_eq_true rfl) ?_
        refine c_unfound ?_
        refine vr_iret dX8_odds_134 rfl ?_
        first | (rw [if_pos (by assumption)] at kk; exact kk h3 f3) | (rw [if_neg (by assumption)] at kk; exact kk h3 f3)
  refine V_mk (by decide +kernel) (Or.inr (Or.inl ⟨rfl, rfl⟩)) (Nat.le_of_ble_eq_true rfl) (by simp [sv_c]) ?_
  show V_ _ _ _ 0 [_, _, _, _, _, _, _, _, _, _, _, _] [] _ _
  refine vr_aload_n (q := 1) dX8_odds_0 rfl rfl ?_
  refine vr_getA (q := 4) dX8_odds_1 rfl fX8_26 rfl ⟨by decide, by decide, rfl⟩ ?_
  refine vr_iload_n (q := 5) dX8_odds_4 rfl rfl ?_
  refine vr_iv1 (q := 8) dX8_odds_5 rfl vX8_132 (Nat.le_of_ble_eq_true rfl) ?_
  refine c_hasStranger (fun c5 => ?_) (fun c5 => ?_)
  · refine vr_if_eq (t := 20) (q := 11) dX8_odds_8 (by decide) rfl (fun c9 => absurd c9 (by omega)) (fun _ => ?_)
    refine vr_iload_n (q := 12) dX8_odds_11 rfl rfl ?_
    refine vr_iload (q := 14) dX8_odds_12 rfl rfl ?_
    refine vr_is2 (q := 17) dX8_odds_14 rfl vX8_249 (Nat.le_of_ble_eq_true rfl) ?_
    refine c_isTelling (fun c14 => ?_) (fun c14 => ?_)
    · refine vr_if_ne (t := 23) (q := 20) dX8_odds_17 (by decide) rfl (fun _ => ?_) (fun c9 => absurd c9 (by omega))
      refine vr_iload (q := 25) dX8_odds_23 rfl rfl ?_
      refine vr_if_lt (t := 58) (q := 28) dX8_odds_25 (by decide) rfl (fun c25 => ?_) (fun c25 => ?_)
      · refine vr_ldc (x := -1000001) (q := 60) dX8_odds_58 rfl ⟨by decide, by decide⟩ qX8_69 ?_
        refine vr_iret dX8_odds_60 rfl ?_
        exact k1 (by omega)
      · refine vr_iload (q := 30) dX8_odds_28 rfl rfl ?_
        refine vr_bipush (q := 32) dX8_odds_30 rfl ⟨by decide, by decide⟩ (by decide) ?_
        refine vr_ic_gt (t := 58) (q := 35) dX8_odds_32 (by decide) rfl (fun c32 => ?_) (fun c32 => ?_)
        · refine vr_ldc (x := -1000001) (q := 60) dX8_odds_58 rfl ⟨by decide, by decide⟩ qX8_69 ?_
          refine vr_iret dX8_odds_60 rfl ?_
          exact k1 (by omega)
        · refine vr_iload (q := 37) dX8_odds_35 rfl rfl ?_
          refine vr_if_lt (t := 58) (q := 40) dX8_odds_37 (by decide) rfl (fun c37 => ?_) (fun c37 => ?_)
          · refine vr_ldc (x := -1000001) (q := 60) dX8_odds_58 rfl ⟨by decide, by decide⟩ qX8_69 ?_
            refine vr_iret dX8_odds_60 rfl ?_
            exact k1 (by omega)
          · refine vr_iload (q := 42) dX8_odds_40 rfl rfl ?_
            refine vr_bipush (q := 44) dX8_odds_42 rfl ⟨by decide, by decide⟩ (by decide) ?_
            refine vr_ic_gt (t := 58) (q := 47) dX8_odds_44 (by decide) rfl (fun c44 => ?_) (fun c44 => ?_)
            · refine vr_ldc (x := -1000001) (q := 60) dX8_odds_58 rfl ⟨by decide, by decide⟩ qX8_69 ?_
              refine vr_iret dX8_odds_60 rfl ?_
              exact k1 (by omega)
            · refine vr_iload (q := 49) dX8_odds_47 rfl rfl ?_
              refine vr_if_lt (t := 58) (q := 52) dX8_odds_49 (by decide) rfl (fun c49 => ?_) (fun c49 => ?_)
              · refine vr_ldc (x := -1000001) (q := 60) dX8_odds_58 rfl ⟨by decide, by decide⟩ qX8_69 ?_
                refine vr_iret dX8_odds_60 rfl ?_
                exact k1 (by omega)
              · refine vr_iload (q := 54) dX8_odds_52 rfl rfl ?_
                refine vr_iconst (q := 55) dX8_odds_54 rfl ⟨by decide, by decide⟩ ?_
                refine vr_ic_le (t := 61) (q := 58) dX8_odds_55 (by decide) rfl (fun c55 => ?_) (fun c55 => ?_)
                · exact r61 (by omega)
                · refine vr_ldc (x := -1000001) (q := 60) dX8_odds_58 rfl ⟨by decide, by decide⟩ qX8_69 ?_
                  refine vr_iret dX8_odds_60 rfl ?_
                  exact k1 (by omega)
    · refine vr_if_ne (t := 23) (q := 20) dX8_odds_17 (by decide) rfl (fun c9 => absurd c9 (by omega)) (fun _ => ?_)
      refine vr_ldc (x := -1000001) (q := 22) dX8_odds_20 rfl ⟨by decide, by decide⟩ qX8_69 ?_
      refine vr_iret dX8_odds_22 rfl ?_
      exact k1 (by omega)
  · refine vr_if_eq (t := 20) (q := 11) dX8_odds_8 (by decide) rfl (fun _ => ?_) (fun c9 => absurd c9 (by omega))
    refine vr_ldc (x := -1000001) (q := 22) dX8_odds_20 rfl ⟨by decide, by decide⟩ qX8_69 ?_
    refine vr_iret dX8_odds_22 rfl ?_
    exact k1 (by omega)
end PN8_
