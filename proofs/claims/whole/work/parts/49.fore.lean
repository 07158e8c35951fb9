/-- a town as it must be -/
def to_ (h : SH_) : Prop := (0 ≤ h 7 2 ∧ h 7 2 ≤ 6) ∧ (0 ≤ h 7 3 ∧ h 7 3 ≤ 4) ∧ (0 ≤ h 7 0 ∧ h 7 0 ≤ 9) ∧ (∀ l, 0 ≤ l → l < h 7 2 → lo_ (h 8 l) (h 9 l) (h 10 l)) ∧
  (∀ s, 0 ≤ s → s < h 7 3 → (0 ≤ h 11 s ∧ h 11 s ≤ 20) ∧ (0 ≤ h 12 s ∧ h 12 s < 16) ∧ (0 ≤ h 13 s ∧ h 13 s < 64) ∧ (0 ≤ h 14 s ∧ h 14 s < 64))
theorem pc_r {x : Int} : 0 ≤ pc_ x ∧ pc_ x ≤ 6 := by
  unfold pc_
  omega
theorem en_mo {h : SH_} {s : Int} (o : to_ h) (hs : 0 ≤ s ∧ s < h 7 3) : mo_ 6 (en_ h s) := by
  obtain ⟨o1, o2, o3, o4, o5⟩ := o
  obtain ⟨t1, t2, t3, t4⟩ := o5 s hs.1 hs.2
  refine ⟨t1, t2, pc_r, fun t h0 h1 => ?_⟩
  have h2 := cn_r (tp := h 10) (s := h 14 s) (n := (h 7 2).toNat) (fun l a b => (o4 l a (by omega)).2.2) t h0 h1
  show 0 ≤ q4_ (cn_ (h 10) (h 14 s) (h 7 2).toNat) t ∧ q4_ (cn_ (h 10) (h 14 s) (h 7 2).toNat) t ≤ 6
  omega
/-- kinds, weights, topics -/
abbrev TF_ : Type := (Int → Int) × (Int → Int) × (Int → Int)
def tf_ (h : SH_) : TF_ := (h 8, h 9, h 10)
def nl_ (F : TF_) (m : MU_) (l : Int) : Int := nb_ (F.1 l) (F.2.1 l) (F.2.2 l) m
def hl_ (F : TF_) (m : MU_) (l : Int) : MU_ := he_ (F.2.1 l) (F.2.2 l) (nl_ F m l) m
section PF0_
variable {g : SG_} {d : Nat} {M : MD_} {pc q : Nat} {ls : List (Option SV_)} {st : List SV_} {h : SH_} {Post : Option SV_ → SH_ → Prop}
theorem vr_aaMV {k i k2 : Int} (hd : decode M.2.1 pc = .ok (.aaload, 1)) (hq : pc + 1 = q) (hi : 0 ≤ i ∧ i < 7) (hk : 52 + 2 * i = k2) (kk : V_ g d M q ls (sv_r 4 3 k2 :: st) h Post) : V_ g d M pc ls (sv_i i :: sv_r 2 7 k :: st) h Post := vr_aaM hd hq hi (hk ▸ kk)
theorem vr_aaTV {k i k2 : Int} (hd : decode M.2.1 pc = .ok (.aaload, 1)) (hq : pc + 1 = q) (hi : 0 ≤ i ∧ i < 2) (hk : 23 + 8 * i = k2) (kk : V_ g d M q ls (sv_r 4 6 k2 :: st) h Post) : V_ g d M pc ls (sv_i i :: sv_r 3 2 k :: st) h Post := vr_aaT hd hq hi (hk ▸ kk)
end PF0_
section PF1_
variable {g : SG_} {d : Nat} {h : SH_} {Post : Option SV_ → SH_ → Prop}
theorem c_mindOf {s : Int} (o : to_ h) (hs : 0 ≤ s ∧ s < h 7 3) (kk : Post (some (sv_r 4 3 52)) (ms_ h 52 (en_ h s))) : Ctr_ g (d + 2) mX2_mindOf [sv_r 4 2 46, sv_r 4 6 7, sv_i s] h Post := by
  have o2 := o.2.1
  refine V_mk (by decide +kernel) (Or.inr (Or.inr (Or.inr (Or.inr ⟨rfl, _, rfl⟩)))) (Nat.le_of_ble_eq_true rfl) (by simp [sv_c]) ?_
  show V_ _ _ _ 0 [_, _, _] [] _ _
  refine vr_aload_n (q := 1) dX2_mindOf_0 rfl rfl ?_
  refine vr_getR (q := 4) dX2_mindOf_1 rfl fX2_13 rfl y_X2_0 (by first | (simp only [Int.reduceAdd]; rfl) | rfl) ?_
  refine vr_iconst (q := 5) dX2_mindOf_4 rfl ⟨by decide, by decide⟩ ?_
  refine vr_aaMV (q := 6) dX2_mindOf_5 rfl ⟨by omega, by omega⟩ (by first | (simp only [Int.reduceMul, Int.reduceAdd]; rfl) | rfl) ?_
  refine vr_aload_n (q := 7) dX2_mindOf_6 rfl rfl ?_
  refine vr_iload_n (q := 8) dX2_mindOf_7 rfl rfl ?_
  refine vr_iv2 (q := 11) dX2_mindOf_8 rfl vX2_41 (Nat.le_of_ble_eq_true rfl) ?_
  refine c_enter (by decide) ⟨by omega, by omega⟩ o.1 (fun l a b => (o.2.2.2.1 l a b).2.2) (o.2.2.2.2 s hs.1 hs.2).2.2.1 ?_
  refine vr_aload_n (q := 12) dX2_mindOf_11 rfl rfl ?_
  refine vr_getR (q := 15) dX2_mindOf_12 rfl fX2_13 rfl y_X2_0 (by first | (simp only [Int.reduceAdd]; rfl) | rfl) ?_
  refine vr_iconst (q := 16) dX2_mindOf_15 rfl ⟨by decide, by decide⟩ ?_
  refine vr_aaMV (q := 17) dX2_mindOf_16 rfl ⟨by omega, by omega⟩ (by first | (simp only [Int.reduceMul, Int.reduceAdd]; rfl) | rfl) ?_
  refine vr_aret dX2_mindOf_17 rfl ?_
  first | exact kk | (exfalso; omega) | (repeat (first | exact kk | rw [if_pos (by omega)] at kk | rw [if_neg (by omega)] at kk))
theorem c_bestNods (kk : Post (some (sv_i (h 46 4))) h) : Ctr_ g d mX2_bestNods [sv_r 4 2 46] h Post := by
  refine V_mk (by decide +kernel) (Or.inr (Or.inl ⟨rfl, rfl⟩)) (Nat.le_of_ble_eq_true rfl) (by simp [sv_c]) ?_
  show V_ _ _ _ 0 [_] [] _ _
  refine vr_aload_n (q := 1) dX2_bestNods_0 rfl rfl ?_
  refine vr_getI (ji := 4) (q := 4) dX2_bestNods_1 rfl fX2_28 rfl rfl ?_
  refine vr_iret dX2_bestNods_4 rfl ?_
  first | exact kk | (exfalso; omega) | (repeat (first | exact kk | rw [if_pos (by omega)] at kk | rw [if_neg (by omega)] at kk))
theorem c_bestAt {i : Int} (hb : 0 ≤ h 46 3 ∧ h 46 3 ≤ 6) (kk : Post (some (sv_i (if 0 ≤ i ∧ i < h 46 3 then h 49 i else -1000000))) h) : Ctr_ g d mX2_bestAt [sv_r 4 2 46, sv_i i] h Post := by
  refine V_mk (by decide +kernel) (Or.inr (Or.inl ⟨rfl, rfl⟩)) (Nat.le_of_ble_eq_true rfl) (by simp [sv_c]) ?_
  show V_ _ _ _ 0 [_, _] [] _ _
  refine vr_iload_n (q := 1) dX2_bestAt_0 rfl rfl ?_
  refine vr_if_lt (t := 21) (q := 4) dX2_bestAt_1 (by decide) rfl (fun c1 => ?_) (fun c1 => ?_)
  · refine vr_ldc (x := -1000000) (q := 23) dX2_bestAt_21 rfl ⟨by decide, by decide⟩ qX2_66 ?_
    refine vr_iret dX2_bestAt_23 rfl ?_
    first | exact kk | (exfalso; omega) | (repeat (first | exact kk | rw [if_pos (by omega)] at kk | rw [if_neg (by omega)] at kk))
  · refine vr_iload_n (q := 5) dX2_bestAt_4 rfl rfl ?_
    refine vr_aload_n (q := 6) dX2_bestAt_5 rfl rfl ?_
    refine vr_getI (ji := 3) (q := 9) dX2_bestAt_6 rfl fX2_24 rfl rfl ?_
    refine vr_ic_ge (t := 21) (q := 12) dX2_bestAt_9 (by decide) rfl (fun c9 => ?_) (fun c9 => ?_)
    · refine vr_ldc (x := -1000000) (q := 23) dX2_bestAt_21 rfl ⟨by decide, by decide⟩ qX2_66 ?_
      refine vr_iret dX2_bestAt_23 rfl ?_
      first | exact kk | (exfalso; omega) | (repeat (first | exact kk | rw [if_pos (by omega)] at kk | rw [if_neg (by omega)] at kk))
    · refine vr_aload_n (q := 13) dX2_bestAt_12 rfl rfl ?_
      refine vr_getR (q := 16) dX2_bestAt_13 rfl fX2_21 rfl y_X2_2 (by first | (simp only [Int.reduceAdd]; rfl) | rfl) ?_
      refine vr_iload_n (q := 17) dX2_bestAt_16 rfl rfl ?_
      refine vr_iald (q := 18) dX2_bestAt_17 rfl ⟨by omega, by omega⟩ ?_
      refine vr_goto (q := 23) dX2_bestAt_18 (by decide) ?_
      refine vr_iret dX2_bestAt_23 rfl ?_
      first | exact kk | (exfalso; omega) | (repeat (first | exact kk | rw [if_pos (by omega)] at kk | rw [if_neg (by omega)] at kk))
theorem c_firstAhead (kk : Post (some (sv_i (h 48 0))) h) : Ctr_ g d mX2_firstAhead [sv_r 4 2 46] h Post := by
  refine V_mk (by decide +kernel) (Or.inr (Or.inl ⟨rfl, rfl⟩)) (Nat.le_of_ble_eq_true rfl) (by simp [sv_c]) ?_
  show V_ _ _ _ 0 [_] [] _ _
  refine vr_aload_n (q := 1) dX2_firstAhead_0 rfl rfl ?_
  refine vr_getR (q := 4) dX2_firstAhead_1 rfl fX2_17 rfl y_X2_1 (by first | (simp only [Int.reduceAdd]; rfl) | rfl) ?_
  refine vr_iconst (q := 5) dX2_firstAhead_4 rfl ⟨by decide, by decide⟩ ?_
  refine vr_iald (q := 6) dX2_firstAhead_5 rfl ⟨by omega, by omega⟩ ?_
  refine vr_iret dX2_firstAhead_6 rfl ?_
  first | exact kk | (exfalso; omega) | (repeat (first | exact kk | rw [if_pos (by omega)] at kk | rw [if_neg (by omega)] at kk))
/-- the town's cells, and what stands ahead of the minds, under a write to a mind -/
theorem ms_lo {h : SH_} {k a : Int} {m : MU_} (hk : 52 ≤ k) (ha : a < 52) : ms_ h k m a = h a := ms_n (by omega) (by omega)
theorem to_k {h hc : SH_} (hk : ∀ a, 7 ≤ a → a ≤ 14 → hc a = h a) (o : to_ h) : to_ hc := by
  unfold to_ at o ⊢
  rw [hk 7 (by decide) (by decide), hk 8 (by decide) (by decide), hk 9 (by decide) (by decide), hk 10 (by decide) (by decide), hk 11 (by decide) (by decide), hk 12 (by decide) (by decide), hk 13 (by decide) (by decide), hk 14 (by decide) (by decide)]
  exact o
theorem tf_k {h hc : SH_} (hk : ∀ a, 7 ≤ a → a ≤ 14 → hc a = h a) : tf_ hc = tf_ h := by
  unfold tf_
  rw [hk 8 (by decide) (by decide), hk 9 (by decide) (by decide), hk 10 (by decide) (by decide)]
/-- the lies (of the first n) in a set at which a mind nods -/
def ns_ (F : TF_) (m : MU_) (s : Int) : Nat → Int
  | 0 => 0
  | n + 1 => if bt_ s n = 0 then ns_ F m s n else if nl_ F m n = 0 then ns_ F m s n else sb_ior (ns_ F m s n) (sb_ishl 1 n)
theorem l_nodsNow {s u : Int} (o : to_ h) (m : MU_) (hm : mo_ 6 m) (kk : Post (some (sv_i (ns_ (tf_ h) m u (h 7 2).toNat))) (ms_ h 52 m)) : ∀ (k i : Nat), (i : Int) + k = h 7 2 → V_ g (d + 4) mX2_nodsNow 20 [some (sv_r 4 2 46), some (sv_r 4 6 7), some (sv_i s), some (sv_r 4 3 52), some (sv_i u), some (sv_i (ns_ (tf_ h) m u i)), some (sv_i i)] [] (ms_ h 52 m) Post := by
  intro k
  have o1 := o.1
  have e7 : ms_ h 52 m 7 = h 7 := ms_lo (by decide) (by decide)
  have e8 : ms_ h 52 m 8 = h 8 := ms_lo (by decide) (by decide)
  have e9 : ms_ h 52 m 9 = h 9 := ms_lo (by decide) (by decide)
  have e10 : ms_ h 52 m 10 = h 10 := ms_lo (by decide) (by decide)
  induction k with
  | zero =>
    intro i hi
    rw [show (h 7 2).toNat = i by omega] at kk
    refine vr_iload (q := 22) dX2_nodsNow_20 rfl rfl ?_
    refine vr_aload_n (q := 23) dX2_nodsNow_22 rfl rfl ?_
    refine vr_getV (ji := 2) (q := 26) dX2_nodsNow_23 rfl fX2_55 rfl rfl (by rw [e7]) ?_
    -- at X2.nodsNow 26: .if_icmp .ge 38
    refine vr_ic_ge (t := 64) (q := 29) dX2_nodsNow_26 (by decide) rfl (fun _ => ?_) (fun c9 => absurd c9 (by omega))
    refine vr_iload (q := 66) dX2_nodsNow_64 rfl rfl ?_
    refine vr_iret dX2_nodsNow_66 rfl ?_
    first | exact kk | (exfalso; omega) | (repeat (first | exact kk | rw [if_pos (by omega)] at kk | rw [if_neg (by omega)] at kk))
  | succ k ih =>
    intro i hi
    have hl := o.2.2.2.1 i (by omega) (by omega)
    have k2 := ih (i + 1) (by omega)
    have e : ns_ (tf_ h) m u (i + 1) = if bt_ u i = 0 then ns_ (tf_ h) m u i else if nl_ (tf_ h) m i = 0 then ns_ (tf_ h) m u i else sb_ior (ns_ (tf_ h) m u i) (sb_ishl 1 i) := rfl
    rw [e] at k2
    refine vr_iload (q := 22) dX2_nodsNow_20 rfl rfl ?_
    refine vr_aload_n (q := 23) dX2_nodsNow_22 rfl rfl ?_
    refine vr_getV (ji := 2) (q := 26) dX2_nodsNow_23 rfl fX2_55 rfl rfl (by rw [e7]) ?_
    -- at X2.nodsNow 26: .if_icmp .ge 38
    refine vr_ic_ge (t := 64) (q := 29) dX2_nodsNow_26 (by decide) rfl (fun c9 => absurd c9 (by omega)) (fun _ => ?_)
    refine vr_iload (q := 31) dX2_nodsNow_29 rfl rfl ?_
    refine vr_iload (q := 33) dX2_nodsNow_31 rfl rfl ?_
    refine vr_ishr (q := 34) dX2_nodsNow_33 rfl ?_
    refine vr_iconst (q := 35) dX2_nodsNow_34 rfl ⟨by decide, by decide⟩ ?_
    refine vr_iand (q := 36) dX2_nodsNow_35 rfl ?_
    -- at X2.nodsNow 36: .ifCond .eq 22
    refine vr_if_eq (t := 58) (q := 39) dX2_nodsNow_36 (by decide) rfl (fun c1 => ?_) (fun c1 => ?_)
    · have c2 : bt_ u i = 0 := c1
      rw [if_pos c2] at k2
      refine vr_iinc (q := 61) dX2_nodsNow_58 rfl rfl ⟨by omega, by omega⟩ (Nat.le_of_ble_eq_true rfl) rfl rfl ?_
      refine vr_goto (q := 20) dX2_nodsNow_61 (by decide) ?_
      -- at X2.nodsNow 20: .iload 6
      exact k2
    · have c2 : ¬ bt_ u i = 0 := c1
      rw [if_neg c2] at k2
      refine vr_aload_n (q := 40) dX2_nodsNow_39 rfl rfl ?_
      refine vr_aload_n (q := 41) dX2_nodsNow_40 rfl rfl ?_
      refine vr_iload (q := 43) dX2_nodsNow_41 rfl rfl ?_
      -- at X2.nodsNow 43: .invokevirtual 58
      refine vr_iv2 (q := 46) dX2_nodsNow_43 rfl vX2_58 (Nat.le_of_ble_eq_true rfl) ?_
      refine c_wouldNod (n := 6) ⟨by omega, by omega⟩ (by rw [e8, e9, e10]; exact hl) (by rw [mu_ms]; exact hm) (by decide) ?_
      rw [e8, e9, e10, mu_ms]
      refine vr_if_eq (t := 58) (q := 49) dX2_nodsNow_46 (by decide) rfl (fun c3 => ?_) (fun c3 => ?_)
      · have c4 : nl_ (tf_ h) m i = 0 := c3
        rw [if_pos c4] at k2
        refine vr_iinc (q := 61) dX2_nodsNow_58 rfl rfl ⟨by omega, by omega⟩ (Nat.le_of_ble_eq_true rfl) rfl rfl ?_
        refine vr_goto (q := 20) dX2_nodsNow_61 (by decide) ?_
        -- at X2.nodsNow 20: .iload 6
        exact k2
      · have c4 : ¬ nl_ (tf_ h) m i = 0 := c3
        rw [if_neg c4] at k2
        refine vr_iload (q := 51) dX2_nodsNow_49 rfl rfl ?_
        refine vr_iconst (q := 52) dX2_nodsNow_51 rfl ⟨by decide, by decide⟩ ?_
        refine vr_iload (q := 54) dX2_nodsNow_52 rfl rfl ?_
        refine vr_ishl (q := 55) dX2_nodsNow_54 rfl ?_
        refine vr_ior (q := 56) dX2_nodsNow_55 rfl ?_
        refine vr_istore (q := 58) dX2_nodsNow_56 rfl (Nat.le_of_ble_eq_true rfl) rfl rfl ?_
        refine vr_iinc (q := 61) dX2_nodsNow_58 rfl rfl ⟨by omega, by omega⟩ (Nat.le_of_ble_eq_true rfl) rfl rfl ?_
        refine vr_goto (q := 20) dX2_nodsNow_61 (by decide) ?_
        -- at X2.nodsNow 20: .iload 6
        exact k2
theorem c_nodsNow {s : Int} (o : to_ h) (hs : 0 ≤ s ∧ s < h 7 3) (kk : Post (some (sv_i (ns_ (tf_ h) (en_ h s) (ut_ (h 7 2) (h 13 s)) (h 7 2).toNat))) (ms_ h 52 (en_ h s))) : Ctr_ g (d + 4) mX2_nodsNow [sv_r 4 2 46, sv_r 4 6 7, sv_i s] h Post := by
  have o1 := o.1
  have o2 := o.2.1
  have e7 : ms_ h 52 (en_ h s) 7 = h 7 := ms_lo (by decide) (by decide)
  have e13 : ms_ h 52 (en_ h s) 13 = h 13 := ms_lo (by decide) (by decide)
  refine V_mk (by decide +kernel) (Or.inr (Or.inl ⟨rfl, rfl⟩)) (Nat.le_of_ble_eq_true rfl) (by simp [sv_c]) ?_
  show V_ _ _ _ 0 [_, _, _, _, _, _, _] [] _ _
  refine vr_aload_n (q := 1) dX2_nodsNow_0 rfl rfl ?_
  refine vr_aload_n (q := 2) dX2_nodsNow_1 rfl rfl ?_
  refine vr_iload_n (q := 3) dX2_nodsNow_2 rfl rfl ?_
  -- at X2.nodsNow 3: .invokevirtual 45
  refine vr_iv2 (q := 6) dX2_nodsNow_3 rfl vX2_45 (Nat.le_of_ble_eq_true rfl) ?_
  refine c_mindOf o hs ?_
  refine vr_astore_n (q := 7) dX2_nodsNow_6 rfl rfl (Nat.le_of_ble_eq_true rfl) rfl rfl ?_
  refine vr_aload_n (q := 8) dX2_nodsNow_7 rfl rfl ?_
  refine vr_iload_n (q := 9) dX2_nodsNow_8 rfl rfl ?_
  -- at X2.nodsNow 9: .invokevirtual 49
  refine vr_iv1 (q := 12) dX2_nodsNow_9 rfl vX2_49 (Nat.le_of_ble_eq_true rfl) ?_
  refine c_untold ⟨by omega, by omega⟩ (by rw [e7]; exact o1) ?_
  rw [e7, e13]
  refine vr_istore (q := 14) dX2_nodsNow_12 rfl (Nat.le_of_ble_eq_true rfl) rfl rfl ?_
  refine vr_iconst (q := 15) dX2_nodsNow_14 rfl ⟨by decide, by decide⟩ ?_
  refine vr_istore (q := 17) dX2_nodsNow_15 rfl (Nat.le_of_ble_eq_true rfl) rfl rfl ?_
  refine vr_iconst (q := 18) dX2_nodsNow_17 rfl ⟨by decide, by decide⟩ ?_
  refine vr_istore (q := 20) dX2_nodsNow_18 rfl (Nat.le_of_ble_eq_true rfl) rfl rfl ?_
  -- at X2.nodsNow 20: .iload 6
  exact l_nodsNow o _ (en_mo o hs) kk (h 7 2).toNat 0 (by omega)
/-- one more lie is tried on the mind at depth e -/
def tn_ (h : SH_) (e l : Int) : SH_ := ms_ (hs_ h 48 e l) (52 + 2 * (e + 1)) (hl_ (tf_ h) (mu_ h (52 + 2 * e)) l)
theorem c_tryNext {e l n : Int} (he : 0 ≤ e ∧ e < 6) (hl : 0 ≤ l ∧ l < 6) (hlo : lo_ (h 8 l) (h 9 l) (h 10 l)) (hm : mo_ n (mu_ h (52 + 2 * e))) (hn : n ≤ 100) (kk : Post (some (sv_i (nl_ (tf_ h) (mu_ h (52 + 2 * e)) l))) (tn_ h e l)) : Ctr_ g (d + 5) mX2_tryNext [sv_r 4 2 46, sv_r 4 6 7, sv_i e, sv_i l] h Post := by
  have em : mu_ (hs_ h 48 e l) (52 + 2 * e) = mu_ h (52 + 2 * e) := by
    unfold mu_
    rw [hs_k (by omega), hs_k (by omega)]
  have e8 : ms_ (hs_ h 48 e l) (52 + 2 * (e + 1)) (mu_ h (52 + 2 * e)) 8 = h 8 := by rw [ms_lo (by omega) (by decide), hs_k (by decide)]
  have e9 : ms_ (hs_ h 48 e l) (52 + 2 * (e + 1)) (mu_ h (52 + 2 * e)) 9 = h 9 := by rw [ms_lo (by omega) (by decide), hs_k (by decide)]
  have e10 : ms_ (hs_ h 48 e l) (52 + 2 * (e + 1)) (mu_ h (52 + 2 * e)) 10 = h 10 := by rw [ms_lo (by omega) (by decide), hs_k (by decide)]
  have f8 : hs_ h 48 e l 8 = h 8 := hs_k (by decide)
  have f9 : hs_ h 48 e l 9 = h 9 := hs_k (by decide)
  have f10 : hs_ h 48 e l 10 = h 10 := hs_k (by decide)
  refine V_mk (by decide +kernel) (Or.inr (Or.inr (Or.inl ⟨rfl, rfl⟩))) (Nat.le_of_ble_eq_true rfl) (by simp [sv_c]) ?_
  show V_ _ _ _ 0 [_, _, _, _, _] [] _ _
  refine vr_aload_n (q := 1) dX2_tryNext_0 rfl rfl ?_
  refine vr_getR (q := 4) dX2_tryNext_1 rfl fX2_17 rfl y_X2_1 (by first | (simp only [Int.reduceAdd]; rfl) | rfl) ?_
  refine vr_iload_n (q := 5) dX2_tryNext_4 rfl rfl ?_
  refine vr_iload_n (q := 6) dX2_tryNext_5 rfl rfl ?_
  refine vr_iast (q := 7) dX2_tryNext_6 rfl ⟨by omega, by omega⟩ ?_
  refine vr_aload_n (q := 8) dX2_tryNext_7 rfl rfl ?_
  refine vr_getR (q := 11) dX2_tryNext_8 rfl fX2_13 rfl y_X2_0 (by first | (simp only [Int.reduceAdd]; rfl) | rfl) ?_
  refine vr_iload_n (q := 12) dX2_tryNext_11 rfl rfl ?_
  refine vr_aaMV (q := 13) dX2_tryNext_12 rfl ⟨by omega, by omega⟩ (by first | (simp only [Int.reduceMul, Int.reduceAdd]; rfl) | rfl) ?_
  refine vr_aload_n (q := 14) dX2_tryNext_13 rfl rfl ?_
  refine vr_iload_n (q := 15) dX2_tryNext_14 rfl rfl ?_
  -- at X2.tryNext 15: .invokevirtual 58
  refine vr_iv2 (q := 18) dX2_tryNext_15 rfl vX2_58 (Nat.le_of_ble_eq_true rfl) ?_
  refine c_wouldNod (n := n) hl (by rw [f8, f9, f10]; exact hlo) (by rw [em]; exact hm) hn ?_
  rw [f8, f9, f10, em]
  refine vr_istore (q := 20) dX2_tryNext_18 rfl (Nat.le_of_ble_eq_true rfl) rfl rfl ?_
  refine vr_aload_n (q := 21) dX2_tryNext_20 rfl rfl ?_
  refine vr_getR (q := 24) dX2_tryNext_21 rfl fX2_13 rfl y_X2_0 (by first | (simp only [Int.reduceAdd]; rfl) | rfl) ?_
  refine vr_iload_n (q := 25) dX2_tryNext_24 rfl rfl ?_
  refine vr_iconst (q := 26) dX2_tryNext_25 rfl ⟨by decide, by decide⟩ ?_
  refine vr_iaddN (q := 27) dX2_tryNext_26 rfl ⟨by omega, by omega⟩ ?_
  refine vr_aaMV (q := 28) dX2_tryNext_27 rfl ⟨by omega, by omega⟩ (by first | (simp only [Int.reduceMul, Int.reduceAdd]; rfl) | rfl) ?_
  refine vr_aload_n (q := 29) dX2_tryNext_28 rfl rfl ?_
  refine vr_getR (q := 32) dX2_tryNext_29 rfl fX2_13 rfl y_X2_0 (by first | (simp only [Int.reduceAdd]; rfl) | rfl) ?_
  refine vr_iload_n (q := 33) dX2_tryNext_32 rfl rfl ?_
  refine vr_aaMV (q := 34) dX2_tryNext_33 rfl ⟨by omega, by omega⟩ (by first | (simp only [Int.reduceMul, Int.reduceAdd]; rfl) | rfl) ?_
  -- at X2.tryNext 34: .invokevirtual 80
  refine vr_iv1 (q := 37) dX2_tryNext_34 rfl vX2_80 (Nat.le_of_ble_eq_true rfl) ?_
  refine c_become (by omega) ⟨by omega, by omega, by omega⟩ ?_
  rw [em]
  refine vr_aload_n (q := 38) dX2_tryNext_37 rfl rfl ?_
  refine vr_getR (q := 41) dX2_tryNext_38 rfl fX2_13 rfl y_X2_0 (by first | (simp only [Int.reduceAdd]; rfl) | rfl) ?_
  refine vr_iload_n (q := 42) dX2_tryNext_41 rfl rfl ?_
  refine vr_iconst (q := 43) dX2_tryNext_42 rfl ⟨by decide, by decide⟩ ?_
  refine vr_iaddN (q := 44) dX2_tryNext_43 rfl ⟨by omega, by omega⟩ ?_
  refine vr_aaMV (q := 45) dX2_tryNext_44 rfl ⟨by omega, by omega⟩ (by first | (simp only [Int.reduceMul, Int.reduceAdd]; rfl) | rfl) ?_
  refine vr_aload_n (q := 46) dX2_tryNext_45 rfl rfl ?_
  refine vr_iload_n (q := 47) dX2_tryNext_46 rfl rfl ?_
  refine vr_iload (q := 49) dX2_tryNext_47 rfl rfl ?_
  -- at X2.tryNext 49: .invokevirtual 84
  refine vr_iv3 (q := 52) dX2_tryNext_49 rfl vX2_84 (Nat.le_of_ble_eq_true rfl) ?_
  refine c_hearAs (n := n) hl (by omega) (by rw [e8, e9, e10]; exact hlo) (by rw [mu_ms]; exact hm) hn ?_
  rw [e9, e10, mu_ms, ms_ms]
  refine vr_iload (q := 54) dX2_tryNext_52 rfl rfl ?_
  -- at X2.tryNext 54: .ireturn
  refine vr_zret dX2_tryNext_54 rfl ?_ ?_
  · exact nb_01 _ _ _ _
  · exact kk
end PF1_
