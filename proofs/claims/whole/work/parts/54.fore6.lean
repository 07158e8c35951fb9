def fa_ (f : Nat → Option (List Int)) : Nat → Nat → Option (Nat × List Int)
  | 0, _ => none
  | c + 1, i => match f i with
    | some r => some (i, r)
    | none => fa_ f c (i + 1)
/-- the fewest lies ahead, so that stranger s nods at a lie, and their first row -/
def fw_ (h : SH_) (s l : Int) : Option (Nat × List Int) := fa_ (fun k => cp_ (tf_ h) (h 7 2).toNat l k (en_ h s) (dl_ (ut_ (h 7 2) (h 13 s)) l)) (pc_ (dl_ (ut_ (h 7 2) (h 13 s)) l) + 1).toNat 0
theorem ut_c : ∀ n : Fin 7, ∀ x : Fin 64, 0 ≤ ut_ ((n : Nat) : Int) ((x : Nat) : Int) ∧ ut_ ((n : Nat) : Int) ((x : Nat) : Int) < 64 := by decide +kernel
theorem ut_r {n x : Int} (hn : 0 ≤ n ∧ n ≤ 6) (hx : 0 ≤ x ∧ x < 64) : 0 ≤ ut_ n x ∧ ut_ n x < 64 := by
  have e := ut_c ⟨n.toNat, by omega⟩ ⟨x.toNat, by omega⟩
  rw [show (((⟨n.toNat, by omega⟩ : Fin 7) : Nat) : Int) = n from Int.toNat_of_nonneg hn.1, show (((⟨x.toNat, by omega⟩ : Fin 64) : Nat) : Int) = x from Int.toNat_of_nonneg hx.1] at e
  exact e
section PF7_
variable {g : SG_} {d : Nat} {h : SH_} {Post : Option SV_ → SH_ → Prop}
theorem c_fewestAhead {s l : Int} (o : to_ h) (hs : 0 ≤ s ∧ s < h 7 3) (hl : 0 ≤ l ∧ l < h 7 2) (kt : ∀ i r h2, fw_ h s l = some (i, r) → fk_ h h2 → (∀ x r2, r = x :: r2 → h2 48 0 = x) → i ≤ 6 → Post (some (sv_i (i : Int))) h2) (kf : ∀ h2, fw_ h s l = none → fk_ h h2 → Post (some (sv_i (-1000000))) h2) : Ctr_ g (d + 13) mX2_fewestAhead [sv_r 4 2 46, sv_r 4 6 7, sv_i s, sv_i l] h Post := by
  have o2 := o.2.1
  have o1 := o.1
  have ht := (o.2.2.2.2 s hs.1 hs.2).2.2.1
  have k1 : fk_ h (ms_ h 52 (en_ h s)) := fk_m ⟨by decide, by decide⟩ (fk_r h)
  have m1 := mu_ms h 52 (en_ h s)
  have hu := dl_r (ut_r o1 ht) (l := l) ⟨by omega, by omega⟩
  have hp := pc_r (x := dl_ (ut_ (h 7 2) (h 13 s)) l)
  unfold fw_ at kt kf
  generalize hF : (fun k => cp_ (tf_ h) (h 7 2).toNat l k (en_ h s) (dl_ (ut_ (h 7 2) (h 13 s)) l)) = f at kt kf
  refine V_mk (by decide +kernel) (Or.inr (Or.inl ⟨rfl, rfl⟩)) (Nat.le_of_ble_eq_true rfl) (by simp [sv_c]) ?_
  show V_ _ _ _ 0 [_, _, _, _, _, _, _] [] _ _
  refine vr_aload_n (q := 1) dX2_fewestAhead_0 rfl rfl ?_
  refine vr_aload_n (q := 2) dX2_fewestAhead_1 rfl rfl ?_
  refine vr_iload_n (q := 3) dX2_fewestAhead_2 rfl rfl ?_
  -- at X2.fewestAhead 3: .invokevirtual 45
  refine vr_iv2 (q := 6) dX2_fewestAhead_3 rfl vX2_45 (Nat.le_of_ble_eq_true rfl) ?_
  refine c_mindOf o hs ?_
  refine vr_pop (q := 7) dX2_fewestAhead_6 rfl rfl ?_
  refine vr_aload_n (q := 8) dX2_fewestAhead_7 rfl rfl ?_
  refine vr_iload_n (q := 9) dX2_fewestAhead_8 rfl rfl ?_
  -- at X2.fewestAhead 9: .invokevirtual 49
  generalize ms_ h 52 (en_ h s) = h1 at k1 m1 ⊢
  refine vr_iv1 (q := 12) dX2_fewestAhead_9 rfl vX2_49 (Nat.le_of_ble_eq_true rfl) ?_
  refine c_untold ⟨by omega, by omega⟩ (by rw [k1 7 (by omega)]; exact o.1) ?_
  rw [k1 7 (by omega), k1 13 (by omega)]
  refine vr_iconst (q := 13) dX2_fewestAhead_12 rfl ⟨by decide, by decide⟩ ?_
  refine vr_iload_n (q := 14) dX2_fewestAhead_13 rfl rfl ?_
  refine vr_ishl (q := 15) dX2_fewestAhead_14 rfl ?_
  refine vr_iconst (q := 16) dX2_fewestAhead_15 rfl ⟨by decide, by decide⟩ ?_
  refine vr_ixor (q := 17) dX2_fewestAhead_16 rfl ?_
  refine vr_iand (q := 18) dX2_fewestAhead_17 rfl ?_
  -- at X2.fewestAhead 18: .istore 4
  have edl : sb_iand (ut_ (h 7 2) (h 13 s)) (sb_ixor (sb_ishl 1 l) (-1)) = dl_ (ut_ (h 7 2) (h 13 s)) l := rfl
  rw [edl]
  generalize dl_ (ut_ (h 7 2) (h 13 s)) l = u at hu hp hF kt kf ⊢
  have lp : ∀ (c i : Nat) (hq : SH_), (i : Int) + c = pc_ u + 1 → fa_ f (pc_ u + 1).toNat 0 = fa_ f c i → fk_ h hq → mu_ hq 52 = en_ h s → V_ g (d + 13) mX2_fewestAhead 30 [some (sv_r 4 2 46), some (sv_r 4 6 7), some (sv_i s), some (sv_i l), some (sv_i u), some (sv_i (pc_ u)), some (sv_i i)] [] hq Post := by
    intro c
    induction c with
    | zero =>
      intro i hq hi ef k2 m2
      refine vr_iload (q := 32) dX2_fewestAhead_30 rfl rfl ?_
      refine vr_iload (q := 34) dX2_fewestAhead_32 rfl rfl ?_
      -- at X2.fewestAhead 34: .if_icmp .gt 26
      refine vr_ic_gt (t := 60) (q := 37) dX2_fewestAhead_34 (by decide) rfl (fun _ => ?_) (fun c9 => absurd c9 (by omega))
      refine vr_ldc (x := -1000000) (q := 62) dX2_fewestAhead_60 rfl ⟨by decide, by decide⟩ qX2_66 ?_
      refine vr_iret dX2_fewestAhead_62 rfl ?_
      exact kf hq ef k2
    | succ c ihc =>
      intro i hq hi ef k2 m2
      have ef2 : fa_ f (c + 1) i = match f i with | some r => some (i, r) | none => fa_ f c (i + 1) := rfl
      have efi : f i = cp_ (tf_ h) (h 7 2).toNat l i (en_ h s) u := by rw [← hF]
      refine vr_iload (q := 32) dX2_fewestAhead_30 rfl rfl ?_
      refine vr_iload (q := 34) dX2_fewestAhead_32 rfl rfl ?_
      -- at X2.fewestAhead 34: .if_icmp .gt 26
      refine vr_ic_gt (t := 60) (q := 37) dX2_fewestAhead_34 (by decide) rfl (fun c9 => absurd c9 (by omega)) (fun _ => ?_)
      refine vr_aload_n (q := 38) dX2_fewestAhead_37 rfl rfl ?_
      refine vr_aload_n (q := 39) dX2_fewestAhead_38 rfl rfl ?_
      refine vr_iconst (q := 40) dX2_fewestAhead_39 rfl ⟨by decide, by decide⟩ ?_
      refine vr_iload (q := 42) dX2_fewestAhead_40 rfl rfl ?_
      refine vr_iload_n (q := 43) dX2_fewestAhead_42 rfl rfl ?_
      refine vr_iload (q := 45) dX2_fewestAhead_43 rfl rfl ?_
      -- at X2.fewestAhead 45: .invokevirtual 88
      refine vr_iv5 (q := 48) dX2_fewestAhead_45 rfl vX2_88 (Nat.le_of_ble_eq_true rfl) ?_
      rw [show d + 12 = d + (6 - i) + i + 6 by omega]
      refine c_comesInFrom (d := d + (6 - i)) (w := i) ⟨by omega, by omega⟩ i 0 u hq _ (fk_to k2 o) (by rw [k2 7 (by omega)]; exact hl) (by decide) (by omega) (by rw [show (52 : Int) + 2 * 0 = 52 by decide, m2]; exact en_mo o hs) (fun r h3 e3 s3 p3 => ?_) (fun h3 e3 s3 => ?_)
      · rw [show (52 : Int) + 2 * 0 = 52 by decide, m2, fk_tf k2, k2 7 (by omega), ← efi] at e3
        rw [e3] at ef2
        rw [show d + (6 - i) + i + 6 = d + 12 by omega]
        refine vr_if_eq (t := 54) (q := 51) dX2_fewestAhead_48 (by decide) rfl (fun c9 => absurd c9 (by omega)) (fun _ => ?_)
        refine vr_iload (q := 53) dX2_fewestAhead_51 rfl rfl ?_
        refine vr_iret dX2_fewestAhead_53 rfl ?_
        exact kt i r h3 (ef.trans ef2) (fk_t k2 (sd_fk s3 (by decide))) p3 (by omega)
      · rw [show (52 : Int) + 2 * 0 = 52 by decide, m2, fk_tf k2, k2 7 (by omega), ← efi] at e3
        rw [e3] at ef2
        rw [show d + (6 - i) + i + 6 = d + 12 by omega]
        have m3 := sd_mu s3 (by decide)
        rw [show (52 : Int) + 2 * 0 = 52 by decide, m2] at m3
        refine vr_if_eq (t := 54) (q := 51) dX2_fewestAhead_48 (by decide) rfl (fun _ => ?_) (fun c9 => absurd c9 (by omega))
        refine vr_iinc (q := 57) dX2_fewestAhead_54 rfl rfl ⟨by omega, by omega⟩ (Nat.le_of_ble_eq_true rfl) rfl rfl ?_
        refine vr_goto (q := 30) dX2_fewestAhead_57 (by decide) ?_
        -- at X2.fewestAhead 30: .iload 6
        exact ihc (i + 1) h3 (by omega) (ef.trans ef2) (fk_t k2 (sd_fk s3 (by decide))) m3
  refine vr_istore (q := 20) dX2_fewestAhead_18 rfl (Nat.le_of_ble_eq_true rfl) rfl rfl ?_
  refine vr_iload (q := 22) dX2_fewestAhead_20 rfl rfl ?_
  -- at X2.fewestAhead 22: .invokestatic 67
  refine vr_is1 (q := 25) dX2_fewestAhead_22 rfl vX2_67 (Nat.le_of_ble_eq_true rfl) ?_
  refine c_bitCount hu ?_
  refine vr_istore (q := 27) dX2_fewestAhead_25 rfl (Nat.le_of_ble_eq_true rfl) rfl rfl ?_
  refine vr_iconst (q := 28) dX2_fewestAhead_27 rfl ⟨by decide, by decide⟩ ?_
  refine vr_istore (q := 30) dX2_fewestAhead_28 rfl (Nat.le_of_ble_eq_true rfl) rfl rfl ?_
  -- at X2.fewestAhead 30: .iload 6
  exact lp (pc_ u + 1).toNat 0 h1 (by omega) rfl k1 m1
end PF7_
