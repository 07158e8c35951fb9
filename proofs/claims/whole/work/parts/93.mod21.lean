theorem chk_o {s : Int} {k : Nat} (h : chk_ s k = true) : ∃ r t, ar_ 6 k s = r :: t ∧ fil_ s k 0 = r ∧ chn_ s r t = true := by
  unfold chk_ at h
  split at h
  · exact absurd h (by decide)
  · next r t e =>
    rw [Bool.and_eq_true, beq_iff_eq] at h
    exact ⟨r, t, e, h.1, h.2⟩
theorem ftm_mo {p h : SH_} (c : cpl_ p h) : ∀ (b : List Int) (k : Int) (m : MU_), (∀ x ∈ b, 0 ≤ x ∧ x < p 7 2) → mo_ k m → mo_ (k + b.length) (ftm_ (tf_ p) b m) := by
  intro b
  induction b with
  | nil =>
    intro k m _ hm
    rw [show k + (([] : List Int).length : Int) = k by rw [List.length_nil]; omega]
    exact hm
  | cons l r ih =>
    intro k m hx hm
    have hl := hx l (List.mem_cons_self ..)
    have z := ih (k + 1) (hl_ (tf_ p) m l) (fun x h => hx x (List.mem_cons_of_mem _ h)) (he_mo (c.1.2.2.2.1 l hl.1 hl.2) hm)
    rw [show k + ((l :: r).length : Int) = k + 1 + (r.length : Int) by rw [List.length_cons]; omega]
    exact z
theorem rok_a {p : SH_} {k : Nat} {s : Int} (h6 : 0 ≤ p 7 2 ∧ p 7 2 ≤ 6) (hs : sbn_ (p 7 2).toNat s) : rok_ p k (ar_ 6 k s) := by
  intro r hr
  rw [← ar_6 (n := (p 7 2).toNat) (by omega) k s hs] at hr
  have z := ar_l _ _ _ hr
  refine ⟨by rw [z.1], fun x hx => ?_⟩
  have y := z.2 x hx
  omega
theorem nd_cm (x y : Int) : sb_iand x y = sb_iand y x := by
  unfold sb_iand
  rw [Int32.and_comm]
theorem od_ar (p : SH_) {s x : Int} (h6 : 0 ≤ p 7 2 ∧ p 7 2 ≤ 6) (hx : sbn_ (p 7 2).toNat x) {r : List Int} {t : List (List Int)} (e : ar_ 6 (pc_ x).toNat x = r :: t) : (r :: t).foldl (obs_ (tf_ p) (en_ p s) 0 []) ([], -1000000) = od_ p s x := by
  have hp := pc_r (x := x)
  have z := so_ar (tf_ p) (n := (p 7 2).toNat) (by omega) 6 (en_ p s) x 0 [] ([], -1) hx.1 (by omega)
  rw [ar_6 (by omega) _ _ hx, e] at z
  unfold od_
  rw [z]
  show t.foldl (obs_ (tf_ p) (en_ p s) 0 []) (obs_ (tf_ p) (en_ p s) 0 [] ([], -1000000) r) = t.foldl (obs_ (tf_ p) (en_ p s) 0 []) (obs_ (tf_ p) (en_ p s) 0 [] ([], -1) r)
  have y := ncn_r (tf_ p) r (en_ p s)
  rw [obs_0, obs_0, if_pos (show ((-1000000 : Int)) < _ by omega), if_pos (show ((-1 : Int)) < _ by omega)]
section PM22_
variable {g : SG_} {d : Nat} {h p : SH_} {Post : Option SV_ → SH_ → Prop}
theorem lm_order9 {s x k n : Int} {hc : SH_} {B : BR_} {o6 o7 : Option SV_} (hk : -1 ≤ k ∧ k < 6) (e27 : hc 68 27 = B.2) (e82 : ∀ i : Nat, i < B.1.length → hc 82 i = B.1.getD i 0) (hn : n = B.1.length) (kk : Post (some (sv_i (if k < 0 then B.2 else (B.1[k.toNat]?).getD (-1000000)))) hc) : V_ g (d + 4) mX9_order 154 [some (sv_r 4 8 68), some (sv_i s), some (sv_i x), some (sv_i k), some (sv_i n), some (sv_i 0), o6, o7] [] hc Post := by
  by_cases c1 : k = -1
  · rw [if_pos (by omega)] at kk
    refine vr_iload_n (q := 155) dX9_order_154 rfl rfl ?_
    refine vr_iconst (q := 156) dX9_order_155 rfl ⟨by decide, by decide⟩ ?_
    refine vr_ic_ne (t := 166) (q := 159) dX9_order_156 (by decide) rfl (fun c9 => absurd c9 (by omega)) (fun _ => ?_)
    refine vr_aload_n (q := 160) dX9_order_159 rfl rfl ?_
    refine vr_getV (ji := 27) (q := 163) dX9_order_160 rfl fX9_200 rfl rfl e27 ?_
    refine vr_goto (q := 183) dX9_order_163 (by decide) ?_
    refine vr_iret dX9_order_183 rfl ?_
    exact kk
  · rw [if_neg (by omega)] at kk
    by_cases c2 : k < n
    · have z := e82 k.toNat (by omega)
      rw [Int.toNat_of_nonneg (by omega)] at z
      rw [List.getElem?_eq_getElem (show k.toNat < B.1.length by omega), Option.getD_some] at kk
      have y : B.1.getD k.toNat 0 = B.1[k.toNat]'(by omega) := by
        rw [List.getD_eq_getElem?_getD, List.getElem?_eq_getElem (show k.toNat < B.1.length by omega)]
        rfl
      rw [← y] at kk
      refine vr_iload_n (q := 155) dX9_order_154 rfl rfl ?_
      refine vr_iconst (q := 156) dX9_order_155 rfl ⟨by decide, by decide⟩ ?_
      refine vr_ic_ne (t := 166) (q := 159) dX9_order_156 (by decide) rfl (fun _ => ?_) (fun c9 => absurd c9 (by omega))
      refine vr_iload_n (q := 167) dX9_order_166 rfl rfl ?_
      refine vr_iload (q := 169) dX9_order_167 rfl rfl ?_
      refine vr_ic_ge (t := 181) (q := 172) dX9_order_169 (by decide) rfl (fun c9 => absurd c9 (by omega)) (fun _ => ?_)
      refine vr_aload_n (q := 173) dX9_order_172 rfl rfl ?_
      refine vr_getR (q := 176) dX9_order_173 rfl fX9_50 rfl y_X9_26 (by first | (simp only [Int.reduceAdd]; rfl) | rfl) ?_
      refine vr_iload_n (q := 177) dX9_order_176 rfl rfl ?_
      refine vr_ialdV (q := 178) dX9_order_177 rfl ⟨by omega, by omega⟩ z ?_
      refine vr_goto (q := 183) dX9_order_178 (by decide) ?_
      refine vr_iret dX9_order_183 rfl ?_
      exact kk
    · rw [List.getElem?_eq_none (by omega)] at kk
      refine vr_iload_n (q := 155) dX9_order_154 rfl rfl ?_
      refine vr_iconst (q := 156) dX9_order_155 rfl ⟨by decide, by decide⟩ ?_
      refine vr_ic_ne (t := 166) (q := 159) dX9_order_156 (by decide) rfl (fun _ => ?_) (fun c9 => absurd c9 (by omega))
      refine vr_iload_n (q := 167) dX9_order_166 rfl rfl ?_
      refine vr_iload (q := 169) dX9_order_167 rfl rfl ?_
      refine vr_ic_ge (t := 181) (q := 172) dX9_order_169 (by decide) rfl (fun _ => ?_) (fun c9 => absurd c9 (by omega))
      refine vr_ldc (x := -1000000) (q := 183) dX9_order_181 rfl ⟨by decide, by decide⟩ qX9_53 ?_
      refine vr_iret dX9_order_183 rfl ?_
      exact kk
theorem mx_order {s x k : Int} (c : cpl_ p h) (k1 : ¬ ((0 ≤ s ∧ s < p 7 3) ∧ (0 ≤ x ∧ x < sb_ishl 1 (p 7 2)) ∧ (-1 ≤ k ∧ k < 6)) → Post (some (sv_i (-1000001))) h) (k2 : ((0 ≤ s ∧ s < p 7 3) ∧ (0 ≤ x ∧ x < sb_ishl 1 (p 7 2)) ∧ (-1 ≤ k ∧ k < 6)) → ¬ sb_iand (p 13 s) x = 0 → Post (some (sv_i (-1000002))) h) (k3 : ((0 ≤ s ∧ s < p 7 3) ∧ (0 ≤ x ∧ x < sb_ishl 1 (p 7 2)) ∧ (-1 ≤ k ∧ k < 6)) → sb_iand (p 13 s) x = 0 → ∀ h2, msc_ h h2 → Post (some (sv_i (if k < 0 then (od_ p s x).2 else ((od_ p s x).1[k.toNat]?).getD (-1000000)))) h2) : Ctr_ g (d + 4) mX9_order [sv_r 4 8 68, sv_i s, sv_i x, sv_i k] h Post := by
  have o1 := c.1.1
  have o2 := c.1.2.1
  have e2 := c.2.1.2.2.1
  have hr := sh_r o1
  have r59 : ((0 ≤ s ∧ s < p 7 3) ∧ (0 ≤ x ∧ x < sb_ishl 1 (p 7 2)) ∧ (-1 ≤ k ∧ k < 6)) → sb_iand (p 13 s) x = 0 → V_ g (d + 4) mX9_order 59 [some (sv_r 4 8 68), some (sv_i s), some (sv_i x), some (sv_i k), none, none, none, none] [] h Post := by
    intro q1 q2
    have kk := k3 q1 q2
    have hx : sbn_ (p 7 2).toNat x := hi_0 (by omega) q1.2.1.1 (by rw [Int.toNat_of_nonneg o1.1]; exact q1.2.1.2)
    have hp := pc_r (x := x)
    obtain ⟨r, t, e, ef, ech⟩ := chk_o (chk_i (s := x) (k := (pc_ x).toNat) hx.1 (by omega))
    have hR := rok_a (p := p) (k := (pc_ x).toNat) o1 hx
    rw [e, show (((pc_ x).toNat : Nat) : Int) = pc_ x by omega] at hR
    have eo := od_ar p (s := s) o1 hx e
    refine vr_iload_n (q := 60) dX9_order_59 rfl rfl ?_
    -- at X9.order 60: .invokestatic 150
    refine vr_is1 (q := 63) dX9_order_60 rfl vX9_150 (Nat.le_of_ble_eq_true rfl) ?_
    refine m_ones hx.1 ?_
    refine vr_istore (q := 65) dX9_order_63 rfl (Nat.le_of_ble_eq_true rfl) rfl rfl ?_
    refine vr_aload_n (q := 66) dX9_order_65 rfl rfl ?_
    refine vr_iload_n (q := 67) dX9_order_66 rfl rfl ?_
    refine vr_iconst (q := 68) dX9_order_67 rfl ⟨by decide, by decide⟩ ?_
    refine vr_iconst (q := 69) dX9_order_68 rfl ⟨by decide, by decide⟩ ?_
    refine vr_iload (q := 71) dX9_order_69 rfl rfl ?_
    -- at X9.order 71: .invokevirtual 196
    refine vr_iv4 (q := 74) dX9_order_71 rfl vX9_196 (Nat.le_of_ble_eq_true rfl) ?_
    refine m_fills (k := (pc_ x).toNat) (Int.le_refl 0) (by omega) hp.2 (fun y hy => by rw [ef] at hy; have := (hR r (List.mem_cons_self ..)).2 y hy; omega) (fun h2 a1 a2 a3 => ?_)
    rw [ef] at a3
    refine vr_aload_n (q := 75) dX9_order_74 rfl rfl ?_
    refine vr_ldc (x := -1000000) (q := 77) dX9_order_75 rfl ⟨by decide, by decide⟩ qX9_53 ?_
    refine vr_put (ji := 27) (q := 80) dX9_order_77 rfl pX9_200 rfl rfl ?_
    refine vr_iconst (q := 81) dX9_order_80 rfl ⟨by decide, by decide⟩ ?_
    refine vr_istore (q := 83) dX9_order_81 rfl (Nat.le_of_ble_eq_true rfl) rfl rfl ?_
    -- at X9.order 83: .iload 5
    have hrl := (hR r (List.mem_cons_self ..)).1
    refine lm_order c q1.1 hp t r ([], -1000000) _ _ _ ech hR (msc_m (msc_81 (msc_r h) a1)) (fun i hi => ?_) (hs_e _ _ _ _) (fun i hi => absurd hi (Nat.not_lt_zero i)) (Or.inl (by decide)) (fun B hc o6 o7 eB u1 u2 u3 u4 => ?_)
    · rw [hs_k (by decide)]
      have z := a3 i (by omega)
      rw [Int.zero_add] at z
      exact z
    · rw [eo] at eB
      subst eB
      exact lm_order9 q1.2.2 u2 u3 u4 (kk hc u1)
  have hnd : ∀ v : Int, sb_iand x v = sb_iand v x := fun v => nd_cm x v
  refine V_mk (by decide +kernel) (Or.inr (Or.inl ⟨rfl, rfl⟩)) (Nat.le_of_ble_eq_true rfl) (by simp [sv_c]) ?_
  show V_ _ _ _ 0 [_, _, _, _, _, _, _, _] [] _ _
  refine vr_aload_n (q := 1) dX9_order_0 rfl rfl ?_
  refine vr_iload_n (q := 2) dX9_order_1 rfl rfl ?_
  refine vr_iv1 (q := 5) dX9_order_2 rfl vX9_163 (Nat.le_of_ble_eq_true rfl) ?_
  refine m_isS c (fun c2 => ?_) (fun c2 => ?_)
  · refine vr_if_eq (t := 35) (q := 8) dX9_order_5 (by decide) rfl (fun c9 => absurd c9 (by omega)) (fun _ => ?_)
    refine vr_iload_n (q := 9) dX9_order_8 rfl rfl ?_
    refine vr_iconst (q := 10) dX9_order_9 rfl ⟨by decide, by decide⟩ ?_
    refine vr_iconst (q := 11) dX9_order_10 rfl ⟨by decide, by decide⟩ ?_
    refine vr_aload_n (q := 12) dX9_order_11 rfl rfl ?_
    refine vr_getR (q := 15) dX9_order_12 rfl fX9_25 rfl y_X9_13 (by first | (simp only [Int.reduceAdd]; rfl) | rfl) ?_
    refine vr_iconst (q := 16) dX9_order_15 rfl ⟨by decide, by decide⟩ ?_
    refine vr_ialdV (q := 17) dX9_order_16 rfl ⟨by omega, by omega⟩ e2 ?_
    refine vr_ishl (q := 18) dX9_order_17 rfl ?_
    refine vr_iconst (q := 19) dX9_order_18 rfl ⟨by decide, by decide⟩ ?_
    refine vr_isubN (q := 20) dX9_order_19 rfl ⟨by omega, by omega⟩ ?_
    refine vr_is3 (q := 23) dX9_order_20 rfl vX9_59 (Nat.le_of_ble_eq_true rfl) ?_
    refine m_in (fun c20 => ?_) (fun c20 => ?_)
    · refine vr_if_eq (t := 35) (q := 26) dX9_order_23 (by decide) rfl (fun c9 => absurd c9 (by omega)) (fun _ => ?_)
      refine vr_iload_n (q := 27) dX9_order_26 rfl rfl ?_
      refine vr_iconst (q := 28) dX9_order_27 rfl ⟨by decide, by decide⟩ ?_
      refine vr_iconst (q := 29) dX9_order_28 rfl ⟨by decide, by decide⟩ ?_
      refine vr_is3 (q := 32) dX9_order_29 rfl vX9_59 (Nat.le_of_ble_eq_true rfl) ?_
      refine m_in (fun c29 => ?_) (fun c29 => ?_)
      · refine vr_if_ne (t := 38) (q := 35) dX9_order_32 (by decide) rfl (fun _ => ?_) (fun c9 => absurd c9 (by omega))
        refine vr_iload_n (q := 39) dX9_order_38 rfl rfl ?_
        refine vr_aload_n (q := 40) dX9_order_39 rfl rfl ?_
        refine vr_getR (q := 43) dX9_order_40 rfl fX9_25 rfl y_X9_13 (by first | (simp only [Int.reduceAdd]; rfl) | rfl) ?_
        refine vr_bipush (q := 45) dX9_order_43 rfl ⟨by decide, by decide⟩ (by decide) ?_
        refine vr_iconst (q := 46) dX9_order_45 rfl ⟨by decide, by decide⟩ ?_
        refine vr_iload_n (q := 47) dX9_order_46 rfl rfl ?_
        refine vr_imulN (q := 48) dX9_order_47 rfl ⟨by omega, by omega⟩ ?_
        refine vr_iaddN (q := 49) dX9_order_48 rfl ⟨by omega, by omega⟩ ?_
        refine vr_iconst (q := 50) dX9_order_49 rfl ⟨by decide, by decide⟩ ?_
        refine vr_iaddN (q := 51) dX9_order_50 rfl ⟨by omega, by omega⟩ ?_
        refine vr_ialdV (q := 52) dX9_order_51 rfl ⟨by omega, by omega⟩ ((c.2.2.2 s (by omega) (by omega)).2.2.1) ?_
        refine vr_iand (q := 53) dX9_order_52 rfl ?_
        rw [hnd]
        refine vr_if_eq (t := 59) (q := 56) dX9_order_53 (by decide) rfl (fun c53 => ?_) (fun c53 => ?_)
        · exact r59 (by omega) c53
        · refine vr_ldc (x := -1000002) (q := 58) dX9_order_56 rfl ⟨by decide, by decide⟩ qX9_172 ?_
          refine vr_iret dX9_order_58 rfl ?_
          first | exact k1 (by omega) | exact k2 (by omega) c53
      · refine vr_if_ne (t := 38) (q := 35) dX9_order_32 (by decide) rfl (fun c9 => absurd c9 (by omega)) (fun _ => ?_)
        refine vr_ldc (x := -1000001) (q := 37) dX9_order_35 rfl ⟨by decide, by decide⟩ qX9_67 ?_
        refine vr_iret dX9_order_37 rfl ?_
        first | exact k1 (by omega) | exact k2 (by omega) c53
    · refine vr_if_eq (t := 35) (q := 26) dX9_order_23 (by decide) rfl (fun _ => ?_) (fun c9 => absurd c9 (by omega))
      refine vr_ldc (x := -1000001) (q := 37) dX9_order_35 rfl ⟨by decide, by decide⟩ qX9_67 ?_
      refine vr_iret dX9_order_37 rfl ?_
      first | exact k1 (by omega) | exact k2 (by omega) c53
  · refine vr_if_eq (t := 35) (q := 8) dX9_order_5 (by decide) rfl (fun _ => ?_) (fun c9 => absurd c9 (by omega))
    refine vr_ldc (x := -1000001) (q := 37) dX9_order_35 rfl ⟨by decide, by decide⟩ qX9_67 ?_
    refine vr_iret dX9_order_37 rfl ?_
    first | exact k1 (by omega) | exact k2 (by omega) c53
theorem lm_ah2 {s l x all n : Int} (c : cpl_ p h) (hs : 0 ≤ s ∧ s < p 7 3) (hl : 0 ≤ l ∧ l < p 7 2) (hn : 0 ≤ n ∧ n ≤ 6) : ∀ (t : List (List Int)) (r : List Int) (hc : SH_), chn_ x r t = true → rok_ p n (r :: t) → msc_ h hc → rwr_ hc r → (∀ r2 hc, (r :: t).find? (nzp_ (tf_ p) l (en_ p s)) = some r2 → msc_ h hc → rwr_ hc r2 → Post (some (sv_i n)) hc) → (∀ hc, (r :: t).find? (nzp_ (tf_ p) l (en_ p s)) = none → msc_ h hc → V_ g (d + 4) mX9_aheadOf 76 [some (sv_r 4 8 68), some (sv_i s), some (sv_i l), some (sv_i x), some (sv_i all), some (sv_i n), some (sv_i 0)] [] hc Post) → V_ g (d + 4) mX9_aheadOf 40 [some (sv_r 4 8 68), some (sv_i s), some (sv_i l), some (sv_i x), some (sv_i all), some (sv_i n), some (sv_i 1)] [] hc Post := by
  intro t
  have h6 := c.1.1.2
  induction t with
  | nil =>
    intro r hc hch hR hk hr kt kf
    have hr0 := hR r (List.mem_cons_self ..)
    have c2 := cpl_m hk c
    have hm := ftm_mo c r 6 (en_ p s) hr0.2 (en_mo c.1 hs)
    have eg : gno_ x r = none := by
      have z : (gno_ x r == none) = true := hch
      rw [beq_iff_eq] at z
      exact z
    refine vr_iload (q := 42) dX9_aheadOf_40 rfl rfl ?_
    -- at X9.aheadOf 42: .ifCond .eq 34
    refine vr_if_eq (t := 76) (q := 45) dX9_aheadOf_42 (by decide) rfl (fun c9 => absurd c9 (by omega)) (fun _ => ?_)
    refine vr_aload_n (q := 46) dX9_aheadOf_45 rfl rfl ?_
    refine vr_iload_n (q := 47) dX9_aheadOf_46 rfl rfl ?_
    refine vr_iload (q := 49) dX9_aheadOf_47 rfl rfl ?_
    -- at X9.aheadOf 49: .invokevirtual 203
    refine vr_iv2 (q := 52) dX9_aheadOf_49 rfl vX9_203 (Nat.le_of_ble_eq_true rfl) ?_
    refine m_nodsAt c2 hs hr hr0.2 hr0.1 hn.2 ?_
    refine vr_pop (q := 53) dX9_aheadOf_52 rfl rfl ?_
    refine vr_aload_n (q := 54) dX9_aheadOf_53 rfl rfl ?_
    refine vr_iload_n (q := 55) dX9_aheadOf_54 rfl rfl ?_
    -- at X9.aheadOf 55: .invokevirtual 180
    refine vr_iv1 (q := 58) dX9_aheadOf_55 rfl vX9_180 (Nat.le_of_ble_eq_true rfl) ?_
    refine m_wnW (n := 6 + (r.length : Int)) c2 hl hm (by omega) ?_
    refine vr_if_eq (t := 64) (q := 61) dX9_aheadOf_58 (by decide) rfl (fun c1 => ?_) (fun c1 => ?_)
    · have ep : nzp_ (tf_ p) l (en_ p s) r = false := decide_eq_false (fun z => z c1)
      rw [List.find?_cons, ep] at kf
      refine vr_aload_n (q := 65) dX9_aheadOf_64 rfl rfl ?_
      refine vr_iload_n (q := 66) dX9_aheadOf_65 rfl rfl ?_
      refine vr_iload (q := 68) dX9_aheadOf_66 rfl rfl ?_
      -- at X9.aheadOf 68: .invokevirtual 206
      refine vr_iv2 (q := 71) dX9_aheadOf_68 rfl vX9_206 (Nat.le_of_ble_eq_true rfl) ?_
      refine m_goesOn (rwr_k (mw_n (by decide) (by decide)) hr) hr0.1 hn.2 (fun i hi => by have z := hr0.2 _ (gd_mem hi); omega) (chn_h h6 hch hR) (fun r2 h2 z => absurd (eg.symm.trans z) (by simp)) (fun _ => ?_)
      refine vr_istore (q := 73) dX9_aheadOf_71 rfl (Nat.le_of_ble_eq_true rfl) rfl rfl ?_
      refine vr_goto (q := 40) dX9_aheadOf_73 (by decide) ?_
      -- at X9.aheadOf 40: .iload 6
      refine vr_iload (q := 42) dX9_aheadOf_40 rfl rfl ?_
      -- at X9.aheadOf 42: .ifCond .eq 34
      refine vr_if_eq (t := 76) (q := 45) dX9_aheadOf_42 (by decide) rfl (fun _ => ?_) (fun c9 => absurd c9 (by omega))
      exact kf _ rfl (msc_w hk)
    · have ep : nzp_ (tf_ p) l (en_ p s) r = true := decide_eq_true c1
      rw [List.find?_cons, ep] at kt
      refine vr_iload (q := 63) dX9_aheadOf_61 rfl rfl ?_
      refine vr_iret dX9_aheadOf_63 rfl ?_
      exact kt r _ rfl (msc_w hk) (rwr_k (mw_n (by decide) (by decide)) hr)
  | cons r3 t ih =>
    intro r hc hch hR hk hr kt kf
    have hr0 := hR r (List.mem_cons_self ..)
    have c2 := cpl_m hk c
    have hm := ftm_mo c r 6 (en_ p s) hr0.2 (en_mo c.1 hs)
    have hch2 : gno_ x r = some r3 ∧ chn_ x r3 t = true := by
      have z : (gno_ x r == some r3 && chn_ x r3 t) = true := hch
      rw [Bool.and_eq_true, beq_iff_eq] at z
      exact z
    refine vr_iload (q := 42) dX9_aheadOf_40 rfl rfl ?_
    -- at X9.aheadOf 42: .ifCond .eq 34
    refine vr_if_eq (t := 76) (q := 45) dX9_aheadOf_42 (by decide) rfl (fun c9 => absurd c9 (by omega)) (fun _ => ?_)
    refine vr_aload_n (q := 46) dX9_aheadOf_45 rfl rfl ?_
    refine vr_iload_n (q := 47) dX9_aheadOf_46 rfl rfl ?_
    refine vr_iload (q := 49) dX9_aheadOf_47 rfl rfl ?_
    -- at X9.aheadOf 49: .invokevirtual 203
    refine vr_iv2 (q := 52) dX9_aheadOf_49 rfl vX9_203 (Nat.le_of_ble_eq_true rfl) ?_
    refine m_nodsAt c2 hs hr hr0.2 hr0.1 hn.2 ?_
    refine vr_pop (q := 53) dX9_aheadOf_52 rfl rfl ?_
    refine vr_aload_n (q := 54) dX9_aheadOf_53 rfl rfl ?_
    refine vr_iload_n (q := 55) dX9_aheadOf_54 rfl rfl ?_
    -- at X9.aheadOf 55: .invokevirtual 180
    refine vr_iv1 (q := 58) dX9_aheadOf_55 rfl vX9_180 (Nat.le_of_ble_eq_true rfl) ?_
    refine m_wnW (n := 6 + (r.length : Int)) c2 hl hm (by omega) ?_
    refine vr_if_eq (t := 64) (q := 61) dX9_aheadOf_58 (by decide) rfl (fun c1 => ?_) (fun c1 => ?_)
    · have ep : nzp_ (tf_ p) l (en_ p s) r = false := decide_eq_false (fun z => z c1)
      rw [List.find?_cons, ep] at kf kt
      refine vr_aload_n (q := 65) dX9_aheadOf_64 rfl rfl ?_
      refine vr_iload_n (q := 66) dX9_aheadOf_65 rfl rfl ?_
      refine vr_iload (q := 68) dX9_aheadOf_66 rfl rfl ?_
      -- at X9.aheadOf 68: .invokevirtual 206
      refine vr_iv2 (q := 71) dX9_aheadOf_68 rfl vX9_206 (Nat.le_of_ble_eq_true rfl) ?_
      refine m_goesOn (rwr_k (mw_n (by decide) (by decide)) hr) hr0.1 hn.2 (fun i hi => by have z := hr0.2 _ (gd_mem hi); omega) (chn_h h6 hch hR) (fun r2 h2 z u1 u2 => ?_) (fun z => absurd (hch2.1.symm.trans z) (by simp))
      have e3 : r2 = r3 := Option.some.inj (z.symm.trans hch2.1)
      subst e3
      refine vr_istore (q := 73) dX9_aheadOf_71 rfl (Nat.le_of_ble_eq_true rfl) rfl rfl ?_
      refine vr_goto (q := 40) dX9_aheadOf_73 (by decide) ?_
      -- at X9.aheadOf 40: .iload 6
      exact ih r2 h2 hch2.2 (fun r hr => hR r (List.mem_cons_of_mem _ hr)) (msc_81 (msc_w hk) u1) u2 kt kf
    · have ep : nzp_ (tf_ p) l (en_ p s) r = true := decide_eq_true c1
      rw [List.find?_cons, ep] at kt
      refine vr_iload (q := 63) dX9_aheadOf_61 rfl rfl ?_
      refine vr_iret dX9_aheadOf_63 rfl ?_
      exact kt r _ rfl (msc_w hk) (rwr_k (mw_n (by decide) (by decide)) hr)
theorem lm_ah1 {s l x all : Int} (c : cpl_ p h) (hs : 0 ≤ s ∧ s < p 7 3) (hl : 0 ≤ l ∧ l < p 7 2) (hx : sbn_ (p 7 2).toNat x) (ha : all = pc_ x) (kt : ∀ (i : Nat) r hc, fa_ (fun k => cp_ (tf_ p) (p 7 2).toNat l k (en_ p s) x) (pc_ x + 1).toNat 0 = some (i, r) → msc_ h hc → (∀ y r2, r = y :: r2 → hc 81 0 = y) → i ≤ 6 → Post (some (sv_i (i : Int))) hc) (kf : ∀ hc, fa_ (fun k => cp_ (tf_ p) (p 7 2).toNat l k (en_ p s) x) (pc_ x + 1).toNat 0 = none → msc_ h hc → Post (some (sv_i (-1000000))) hc) : ∀ (cc i : Nat) (hc : SH_) (o6 : Option SV_), (i : Int) + cc = pc_ x + 1 → msc_ h hc → fa_ (fun k => cp_ (tf_ p) (p 7 2).toNat l k (en_ p s) x) cc i = fa_ (fun k => cp_ (tf_ p) (p 7 2).toNat l k (en_ p s) x) (pc_ x + 1).toNat 0 → V_ g (d + 4) mX9_aheadOf 21 [some (sv_r 4 8 68), some (sv_i s), some (sv_i l), some (sv_i x), some (sv_i all), some (sv_i i), o6] [] hc Post := by
  intro cc
  subst ha
  have o1 := c.1.1
  have hp := pc_r (x := x)
  induction cc with
  | zero =>
    intro i hc o6 hi hk he
    refine vr_iload (q := 23) dX9_aheadOf_21 rfl rfl ?_
    refine vr_iload (q := 25) dX9_aheadOf_23 rfl rfl ?_
    -- at X9.aheadOf 25: .if_icmp .gt 57
    refine vr_ic_gt (t := 82) (q := 28) dX9_aheadOf_25 (by decide) rfl (fun _ => ?_) (fun c9 => absurd c9 (by omega))
    refine vr_ldc (x := -1000000) (q := 84) dX9_aheadOf_82 rfl ⟨by decide, by decide⟩ qX9_53 ?_
    refine vr_iret dX9_aheadOf_84 rfl ?_
    exact kf hc he.symm hk
  | succ cc ih =>
    intro i hc o6 hi hk he
    obtain ⟨r, t, e, ef, ech⟩ := chk_o (chk_i (s := x) (k := i) hx.1 (by omega))
    have hR := rok_a (p := p) (k := i) o1 hx
    rw [e] at hR
    have hrl := (hR r (List.mem_cons_self ..)).1
    have efa : fa_ (fun k => cp_ (tf_ p) (p 7 2).toNat l k (en_ p s) x) (cc + 1) i = match cp_ (tf_ p) (p 7 2).toNat l i (en_ p s) x with | some r => some (i, r) | none => fa_ (fun k => cp_ (tf_ p) (p 7 2).toNat l k (en_ p s) x) cc (i + 1) := rfl
    rw [efa, cp_ar, ar_6 (n := (p 7 2).toNat) (by omega) i x hx, e] at he
    refine vr_iload (q := 23) dX9_aheadOf_21 rfl rfl ?_
    refine vr_iload (q := 25) dX9_aheadOf_23 rfl rfl ?_
    -- at X9.aheadOf 25: .if_icmp .gt 57
    refine vr_ic_gt (t := 82) (q := 28) dX9_aheadOf_25 (by decide) rfl (fun c9 => absurd c9 (by omega)) (fun _ => ?_)
    refine vr_aload_n (q := 29) dX9_aheadOf_28 rfl rfl ?_
    refine vr_iload_n (q := 30) dX9_aheadOf_29 rfl rfl ?_
    refine vr_iconst (q := 31) dX9_aheadOf_30 rfl ⟨by decide, by decide⟩ ?_
    refine vr_iconst (q := 32) dX9_aheadOf_31 rfl ⟨by decide, by decide⟩ ?_
    refine vr_iload (q := 34) dX9_aheadOf_32 rfl rfl ?_
    -- at X9.aheadOf 34: .invokevirtual 196
    refine vr_iv4 (q := 37) dX9_aheadOf_34 rfl vX9_196 (Nat.le_of_ble_eq_true rfl) ?_
    refine m_fills (k := i) (Int.le_refl 0) (by omega) (by omega) (fun y hy => by rw [ef] at hy; have := (hR r (List.mem_cons_self ..)).2 y hy; omega) (fun h2 a1 a2 a3 => ?_)
    rw [ef] at a3
    refine vr_iconst (q := 38) dX9_aheadOf_37 rfl ⟨by decide, by decide⟩ ?_
    refine vr_istore (q := 40) dX9_aheadOf_38 rfl (Nat.le_of_ble_eq_true rfl) rfl rfl ?_
    -- at X9.aheadOf 40: .iload 6
    refine lm_ah2 c hs hl ⟨by omega, by omega⟩ t r h2 ech hR (msc_81 hk a1) (fun j hj => ?_) (fun r2 hc2 z u1 u2 => ?_) (fun hc2 z u1 => ?_)
    · have z := a3 j (by omega)
      rw [Int.zero_add] at z
      exact z
    · rw [z] at he
      refine kt i r2 hc2 he.symm u1 (fun y r3 e3 => ?_) (by omega)
      subst e3
      exact u2 0 (by rw [List.length_cons]; omega)
    · rw [z] at he
      refine vr_iinc (q := 79) dX9_aheadOf_76 rfl rfl ⟨by omega, by omega⟩ (Nat.le_of_ble_eq_true rfl) rfl rfl ?_
      refine vr_goto (q := 21) dX9_aheadOf_79 (by decide) ?_
      -- at X9.aheadOf 21: .iload 5
      exact ih (i + 1) hc2 _ (by omega) u1 he
theorem m_aheadOf {s l : Int} (c : cpl_ p h) (hs : 0 ≤ s ∧ s < p 7 3) (hl : 0 ≤ l ∧ l < p 7 2) (kt : ∀ (i : Nat) r hc, fw_ p s l = some (i, r) → msc_ h hc → (∀ y r2, r = y :: r2 → hc 81 0 = y) → i ≤ 6 → Post (some (sv_i (i : Int))) hc) (kf : ∀ hc, fw_ p s l = none → msc_ h hc → Post (some (sv_i (-1000000))) hc) : Ctr_ g (d + 4) mX9_aheadOf [sv_r 4 8 68, sv_i s, sv_i l] h Post := by
  have o1 := c.1.1
  have hx13 := (c.1.2.2.2.2 s hs.1 hs.2).2.2.1
  have hx := sbn_d (sbn_u o1 hx13) (l := l) ⟨hl.1, by omega⟩
  have hp := pc_r (x := dl_ (ut_ (p 7 2) (p 13 s)) l)
  have eu : sb_iand (ut_ (p 7 2) (p 13 s)) (sb_ixor (sb_ishl 1 l) (-1)) = dl_ (ut_ (p 7 2) (p 13 s)) l := rfl
  unfold fw_ at kt kf
  refine V_mk (by decide +kernel) (Or.inr (Or.inl ⟨rfl, rfl⟩)) (Nat.le_of_ble_eq_true rfl) (by simp [sv_c]) ?_
  show V_ _ _ _ 0 [_, _, _, _, _, _, _] [] _ _
  refine vr_aload_n (q := 1) dX9_aheadOf_0 rfl rfl ?_
  refine vr_iload_n (q := 2) dX9_aheadOf_1 rfl rfl ?_
  -- at X9.aheadOf 2: .invokevirtual 193
  refine vr_iv1 (q := 5) dX9_aheadOf_2 rfl vX9_193 (Nat.le_of_ble_eq_true rfl) ?_
  refine m_ut c hs ?_
  refine vr_iconst (q := 6) dX9_aheadOf_5 rfl ⟨by decide, by decide⟩ ?_
  refine vr_iload_n (q := 7) dX9_aheadOf_6 rfl rfl ?_
  refine vr_ishl (q := 8) dX9_aheadOf_7 rfl ?_
  refine vr_iconst (q := 9) dX9_aheadOf_8 rfl ⟨by decide, by decide⟩ ?_
  refine vr_ixor (q := 10) dX9_aheadOf_9 rfl ?_
  refine vr_iand (q := 11) dX9_aheadOf_10 rfl ?_
  refine vr_istore_n (q := 12) dX9_aheadOf_11 rfl rfl (Nat.le_of_ble_eq_true rfl) rfl rfl ?_
  refine vr_iload_n (q := 13) dX9_aheadOf_12 rfl rfl ?_
  -- at X9.aheadOf 13: .invokestatic 150
  rw [eu]
  refine vr_is1 (q := 16) dX9_aheadOf_13 rfl vX9_150 (Nat.le_of_ble_eq_true rfl) ?_
  refine m_ones hx.1 ?_
  refine vr_istore (q := 18) dX9_aheadOf_16 rfl (Nat.le_of_ble_eq_true rfl) rfl rfl ?_
  refine vr_iconst (q := 19) dX9_aheadOf_18 rfl ⟨by decide, by decide⟩ ?_
  refine vr_istore (q := 21) dX9_aheadOf_19 rfl (Nat.le_of_ble_eq_true rfl) rfl rfl ?_
  -- at X9.aheadOf 21: .iload 5
  exact lm_ah1 c hs hl hx rfl kt kf (pc_ (dl_ (ut_ (p 7 2) (p 13 s)) l) + 1).toNat 0 h none (by omega) (msc_r h) rfl
theorem mx_comesIn {s l w : Int} (c : cpl_ p h) (k1 : ¬ ((0 ≤ s ∧ s < p 7 3) ∧ (0 ≤ l ∧ l < p 7 2) ∧ (0 ≤ w ∧ w ≤ 1)) → Post (some (sv_i (-1000001))) h) (k2 : ((0 ≤ s ∧ s < p 7 3) ∧ (0 ≤ l ∧ l < p 7 2) ∧ (0 ≤ w ∧ w ≤ 1)) → ¬ bt_ (p 13 s) l = 0 → Post (some (sv_i (-1000002))) h) (k3 : ((0 ≤ s ∧ s < p 7 3) ∧ (0 ≤ l ∧ l < p 7 2) ∧ (0 ≤ w ∧ w ≤ 1)) → bt_ (p 13 s) l = 0 → fw_ p s l = none → ∀ h2, msc_ h h2 → Post (some (sv_i (-1000000))) h2) (k4 : ((0 ≤ s ∧ s < p 7 3) ∧ (0 ≤ l ∧ l < p 7 2) ∧ (0 ≤ w ∧ w ≤ 1)) → bt_ (p 13 s) l = 0 → ∀ i r, fw_ p s l = some (i, r) → ∀ h2, msc_ h h2 → Post (some (sv_i (if w = 0 then (i : Int) else r.headD (-1000000)))) h2) : Ctr_ g (d + 5) mX9_comesIn [sv_r 4 8 68, sv_i s, sv_i l, sv_i w] h Post := by
  have r40 : ((0 ≤ s ∧ s < p 7 3) ∧ (0 ≤ l ∧ l < p 7 2) ∧ (0 ≤ w ∧ w ≤ 1)) → bt_ (p 13 s) l = 0 → V_ g (d + 5) mX9_comesIn 40 [some (sv_r 4 8 68), some (sv_i s), some (sv_i l), some (sv_i w), none] [] h Post := by
    intro q1 q2
    refine vr_aload_n (q := 41) dX9_comesIn_40 rfl rfl ?_
    refine vr_iload_n (q := 42) dX9_comesIn_41 rfl rfl ?_
    refine vr_iload_n (q := 43) dX9_comesIn_42 rfl rfl ?_
    -- at X9.comesIn 43: .invokevirtual 209
    refine vr_iv2 (q := 46) dX9_comesIn_43 rfl vX9_209 (Nat.le_of_ble_eq_true rfl) ?_
    refine m_aheadOf c q1.1 q1.2.1 (fun i r hc z u1 u2 i6 => ?_) (fun hc z u1 => ?_)
    · have kk := k4 q1 q2 i r z hc u1
      have hlen := fw_len z
      rcases (by omega : w = 0 ∨ w = 1) with rfl | rfl
      · refine vr_istore (q := 48) dX9_comesIn_46 rfl (Nat.le_of_ble_eq_true rfl) rfl rfl ?_
        refine vr_iload_n (q := 49) dX9_comesIn_48 rfl rfl ?_
        refine vr_if_ne (t := 57) (q := 52) dX9_comesIn_49 (by decide) rfl (fun c9 => absurd c9 (by omega)) (fun _ => ?_)
        refine vr_iload (q := 54) dX9_comesIn_52 rfl rfl ?_
        refine vr_goto (q := 73) dX9_comesIn_54 (by decide) ?_
        refine vr_iret dX9_comesIn_73 rfl ?_
        exact kk
      · rw [if_neg (by decide)] at kk
        cases r with
        | nil =>
          have e0 : i = 0 := hlen.symm
          subst e0
          refine vr_istore (q := 48) dX9_comesIn_46 rfl (Nat.le_of_ble_eq_true rfl) rfl rfl ?_
          refine vr_iload_n (q := 49) dX9_comesIn_48 rfl rfl ?_
          refine vr_if_ne (t := 57) (q := 52) dX9_comesIn_49 (by decide) rfl (fun _ => ?_) (fun c9 => absurd c9 (by omega))
          refine vr_iload (q := 59) dX9_comesIn_57 rfl rfl ?_
          refine vr_if_le (t := 71) (q := 62) dX9_comesIn_59 (by decide) rfl (fun _ => ?_) (fun c9 => absurd c9 (by omega))
          refine vr_ldc (x := -1000000) (q := 73) dX9_comesIn_71 rfl ⟨by decide, by decide⟩ qX9_53 ?_
          refine vr_iret dX9_comesIn_73 rfl ?_
          exact kk
        | cons y r2 =>
          have e0 : 0 < i := by rw [← hlen]; simp
          refine vr_istore (q := 48) dX9_comesIn_46 rfl (Nat.le_of_ble_eq_true rfl) rfl rfl ?_
          refine vr_iload_n (q := 49) dX9_comesIn_48 rfl rfl ?_
          refine vr_if_ne (t := 57) (q := 52) dX9_comesIn_49 (by decide) rfl (fun _ => ?_) (fun c9 => absurd c9 (by omega))
          refine vr_iload (q := 59) dX9_comesIn_57 rfl rfl ?_
          refine vr_if_le (t := 71) (q := 62) dX9_comesIn_59 (by decide) rfl (fun c9 => absurd c9 (by omega)) (fun _ => ?_)
          refine vr_aload_n (q := 63) dX9_comesIn_62 rfl rfl ?_
          refine vr_getR (q := 66) dX9_comesIn_63 rfl fX9_47 rfl y_X9_25 (by first | (simp only [Int.reduceAdd]; rfl) | rfl) ?_
          refine vr_iconst (q := 67) dX9_comesIn_66 rfl ⟨by decide, by decide⟩ ?_
          refine vr_ialdV (q := 68) dX9_comesIn_67 rfl ⟨by omega, by omega⟩ (u2 y r2 rfl) ?_
          refine vr_goto (q := 73) dX9_comesIn_68 (by decide) ?_
          refine vr_iret dX9_comesIn_73 rfl ?_
          exact kk
    · have kk := k3 q1 q2 z hc u1
      rcases (by omega : w = 0 ∨ w = 1) with rfl | rfl
      · refine vr_istore (q := 48) dX9_comesIn_46 rfl (Nat.le_of_ble_eq_true rfl) rfl rfl ?_
        refine vr_iload_n (q := 49) dX9_comesIn_48 rfl rfl ?_
        refine vr_if_ne (t := 57) (q := 52) dX9_comesIn_49 (by decide) rfl (fun c9 => absurd c9 (by omega)) (fun _ => ?_)
        refine vr_iload (q := 54) dX9_comesIn_52 rfl rfl ?_
        refine vr_goto (q := 73) dX9_comesIn_54 (by decide) ?_
        refine vr_iret dX9_comesIn_73 rfl ?_
        exact kk
      · refine vr_istore (q := 48) dX9_comesIn_46 rfl (Nat.le_of_ble_eq_true rfl) rfl rfl ?_
        refine vr_iload_n (q := 49) dX9_comesIn_48 rfl rfl ?_
        refine vr_if_ne (t := 57) (q := 52) dX9_comesIn_49 (by decide) rfl (fun _ => ?_) (fun c9 => absurd c9 (by omega))
        refine vr_iload (q := 59) dX9_comesIn_57 rfl rfl ?_
        refine vr_if_le (t := 71) (q := 62) dX9_comesIn_59 (by decide) rfl (fun _ => ?_) (fun c9 => absurd c9 (by omega))
        refine vr_ldc (x := -1000000) (q := 73) dX9_comesIn_71 rfl ⟨by decide, by decide⟩ qX9_53 ?_
        refine vr_iret dX9_comesIn_73 rfl ?_
        exact kk
  refine V_mk (by decide +kernel) (Or.inr (Or.inl ⟨rfl, rfl⟩)) (Nat.le_of_ble_eq_true rfl) (by simp [sv_c]) ?_
  show V_ _ _ _ 0 [_, _, _, _, _] [] _ _
  refine vr_aload_n (q := 1) dX9_comesIn_0 rfl rfl ?_
  refine vr_iload_n (q := 2) dX9_comesIn_1 rfl rfl ?_
  refine vr_iv1 (q := 5) dX9_comesIn_2 rfl vX9_163 (Nat.le_of_ble_eq_true rfl) ?_
  refine m_isS c (fun c2 => ?_) (fun c2 => ?_)
  · refine vr_if_eq (t := 25) (q := 8) dX9_comesIn_5 (by decide) rfl (fun c9 => absurd c9 (by omega)) (fun _ => ?_)
    refine vr_aload_n (q := 9) dX9_comesIn_8 rfl rfl ?_
    refine vr_iload_n (q := 10) dX9_comesIn_9 rfl rfl ?_
    refine vr_iv1 (q := 13) dX9_comesIn_10 rfl vX9_166 (Nat.le_of_ble_eq_true rfl) ?_
    refine m_isL c (fun c10 => ?_) (fun c10 => ?_)
    · refine vr_if_eq (t := 25) (q := 16) dX9_comesIn_13 (by decide) rfl (fun c9 => absurd c9 (by omega)) (fun _ => ?_)
      refine vr_iload_n (q := 17) dX9_comesIn_16 rfl rfl ?_
      refine vr_iconst (q := 18) dX9_comesIn_17 rfl ⟨by decide, by decide⟩ ?_
      refine vr_iconst (q := 19) dX9_comesIn_18 rfl ⟨by decide, by decide⟩ ?_
      refine vr_is3 (q := 22) dX9_comesIn_19 rfl vX9_59 (Nat.le_of_ble_eq_true rfl) ?_
      refine m_in (fun c19 => ?_) (fun c19 => ?_)
      · refine vr_if_ne (t := 28) (q := 25) dX9_comesIn_22 (by decide) rfl (fun _ => ?_) (fun c9 => absurd c9 (by omega))
        refine vr_aload_n (q := 29) dX9_comesIn_28 rfl rfl ?_
        refine vr_iload_n (q := 30) dX9_comesIn_29 rfl rfl ?_
        refine vr_iload_n (q := 31) dX9_comesIn_30 rfl rfl ?_
        refine vr_iv2 (q := 34) dX9_comesIn_31 rfl vX9_169 (Nat.le_of_ble_eq_true rfl) ?_
        refine m_wt c ⟨by omega, by omega⟩ (fun c31 => ?_) (fun c31 => ?_)
        · refine vr_if_eq (t := 40) (q := 37) dX9_comesIn_34 (by decide) rfl (fun c9 => absurd c9 (by omega)) (fun _ => ?_)
          refine vr_ldc (x := -1000002) (q := 39) dX9_comesIn_37 rfl ⟨by decide, by decide⟩ qX9_172 ?_
          refine vr_iret dX9_comesIn_39 rfl ?_
          first | exact k1 (by omega) | exact k2 (by omega) c31
        · refine vr_if_eq (t := 40) (q := 37) dX9_comesIn_34 (by decide) rfl (fun _ => ?_) (fun c9 => absurd c9 (by omega))
          exact r40 (by omega) c31
      · refine vr_if_ne (t := 28) (q := 25) dX9_comesIn_22 (by decide) rfl (fun c9 => absurd c9 (by omega)) (fun _ => ?_)
        refine vr_ldc (x := -1000001) (q := 27) dX9_comesIn_25 rfl ⟨by decide, by decide⟩ qX9_67 ?_
        refine vr_iret dX9_comesIn_27 rfl ?_
        first | exact k1 (by omega) | exact k2 (by omega) c31
    · refine vr_if_eq (t := 25) (q := 16) dX9_comesIn_13 (by decide) rfl (fun _ => ?_) (fun c9 => absurd c9 (by omega))
      refine vr_ldc (x := -1000001) (q := 27) dX9_comesIn_25 rfl ⟨by decide, by decide⟩ qX9_67 ?_
      refine vr_iret dX9_comesIn_27 rfl ?_
      first | exact k1 (by omega) | exact k2 (by omega) c31
  · refine vr_if_eq (t := 25) (q := 8) dX9_comesIn_5 (by decide) rfl (fun _ => ?_) (fun c9 => absurd c9 (by omega))
    refine vr_ldc (x := -1000001) (q := 27) dX9_comesIn_25 rfl ⟨by decide, by decide⟩ qX9_67 ?_
    refine vr_iret dX9_comesIn_27 rfl ?_
    first | exact k1 (by omega) | exact k2 (by omega) c31
/-- the lies (of the first n) that no row brings in -/
def dea_ (p : SH_) (s : Int) : Nat → Int
  | 0 => 0
  | l + 1 => if bt_ (ut_ (p 7 2) (p 13 s)) l = 0 then dea_ p s l else if (fw_ p s l).isNone then sb_ior (dea_ p s l) (sb_ishl 1 l) else dea_ p s l
theorem dea_sr (p : SH_) (s : Int) : ∀ n : Nat, sr_32 (dea_ p s n) := by
  intro n
  induction n with
  | zero => exact sr_320
  | succ n ih =>
    show sr_32 (if bt_ (ut_ (p 7 2) (p 13 s)) n = 0 then dea_ p s n else if (fw_ p s n).isNone then sb_ior (dea_ p s n) (sb_ishl 1 n) else dea_ p s n)
    split
    · exact ih
    · split
      · exact sr_32t _
      · exact ih
theorem lm_dead {s : Int} (c : cpl_ p h) (hs : 0 ≤ s ∧ s < p 7 3) (kk : ∀ hc, msc_ h hc → Post (some (sv_i (dea_ p s (p 7 2).toNat))) hc) : ∀ (k i : Nat) (hc : SH_), (i : Int) + k = p 7 2 → msc_ h hc → V_ g (d + 5) mX9_dead 15 [some (sv_r 4 8 68), some (sv_i s), some (sv_i (dea_ p s i)), some (sv_i i)] [] hc Post := by
  intro k
  have o1 := c.1.1
  have e2 : ∀ hc, msc_ h hc → hc 74 2 = p 7 2 := fun hc hk => (cpl_m hk c).2.1.2.2.1
  induction k with
  | zero =>
    intro i hc hi hk
    rw [show (p 7 2).toNat = i by omega] at kk
    refine vr_iload_n (q := 16) dX9_dead_15 rfl rfl ?_
    refine vr_aload_n (q := 17) dX9_dead_16 rfl rfl ?_
    refine vr_getR (q := 20) dX9_dead_17 rfl fX9_25 rfl y_X9_13 (by first | (simp only [Int.reduceAdd]; rfl) | rfl) ?_
    refine vr_iconst (q := 21) dX9_dead_20 rfl ⟨by decide, by decide⟩ ?_
    refine vr_ialdV (q := 22) dX9_dead_21 rfl ⟨by omega, by omega⟩ (e2 hc hk) ?_
    -- at X9.dead 22: .if_icmp .ge 42
    refine vr_ic_ge (t := 64) (q := 25) dX9_dead_22 (by decide) rfl (fun _ => ?_) (fun c9 => absurd c9 (by omega))
    refine vr_iload_n (q := 65) dX9_dead_64 rfl rfl ?_
    refine vr_iret dX9_dead_65 rfl ?_
    exact kk hc hk
  | succ k ih =>
    intro i hc hi hk
    have k2 := ih (i + 1)
    have e : dea_ p s (i + 1) = if bt_ (ut_ (p 7 2) (p 13 s)) i = 0 then dea_ p s i else if (fw_ p s i).isNone then sb_ior (dea_ p s i) (sb_ishl 1 i) else dea_ p s i := rfl
    have z0 := io_0 (dea_sr p s i)
    rw [e] at k2
    refine vr_iload_n (q := 16) dX9_dead_15 rfl rfl ?_
    refine vr_aload_n (q := 17) dX9_dead_16 rfl rfl ?_
    refine vr_getR (q := 20) dX9_dead_17 rfl fX9_25 rfl y_X9_13 (by first | (simp only [Int.reduceAdd]; rfl) | rfl) ?_
    refine vr_iconst (q := 21) dX9_dead_20 rfl ⟨by decide, by decide⟩ ?_
    refine vr_ialdV (q := 22) dX9_dead_21 rfl ⟨by omega, by omega⟩ (e2 hc hk) ?_
    -- at X9.dead 22: .if_icmp .ge 42
    refine vr_ic_ge (t := 64) (q := 25) dX9_dead_22 (by decide) rfl (fun c9 => absurd c9 (by omega)) (fun _ => ?_)
    refine vr_iload_n (q := 26) dX9_dead_25 rfl rfl ?_
    refine vr_aload_n (q := 27) dX9_dead_26 rfl rfl ?_
    refine vr_iload_n (q := 28) dX9_dead_27 rfl rfl ?_
    -- at X9.dead 28: .invokevirtual 193
    refine vr_iv1 (q := 31) dX9_dead_28 rfl vX9_193 (Nat.le_of_ble_eq_true rfl) ?_
    refine m_ut (cpl_m hk c) hs ?_
    refine vr_iload_n (q := 32) dX9_dead_31 rfl rfl ?_
    -- at X9.dead 32: .invokestatic 156
    refine vr_is2 (q := 35) dX9_dead_32 rfl vX9_156 (Nat.le_of_ble_eq_true rfl) ?_
    refine m_has (fun c1 => ?_) (fun c1 => ?_)
    · rw [if_neg c1] at k2
      refine vr_if_eq (t := 55) (q := 38) dX9_dead_35 (by decide) rfl (fun c9 => absurd c9 (by omega)) (fun _ => ?_)
      refine vr_aload_n (q := 39) dX9_dead_38 rfl rfl ?_
      refine vr_iload_n (q := 40) dX9_dead_39 rfl rfl ?_
      refine vr_iload_n (q := 41) dX9_dead_40 rfl rfl ?_
      -- at X9.dead 41: .invokevirtual 209
      refine vr_iv2 (q := 44) dX9_dead_41 rfl vX9_209 (Nat.le_of_ble_eq_true rfl) ?_
      refine m_aheadOf (cpl_m hk c) hs ⟨by omega, by omega⟩ (fun j r hc2 z u1 u2 i6 => ?_) (fun hc2 z u1 => ?_)
      · rw [z, if_neg (by simp)] at k2
        refine vr_ldc (x := -1000000) (q := 46) dX9_dead_44 rfl ⟨by decide, by decide⟩ qX9_53 ?_
        -- at X9.dead 46: .if_icmp .ne 9
        refine vr_ic_ne (t := 55) (q := 49) dX9_dead_46 (by decide) rfl (fun _ => ?_) (fun c9 => absurd c9 (by omega))
        refine vr_iconst (q := 56) dX9_dead_55 rfl ⟨by decide, by decide⟩ ?_
        refine vr_ior (q := 57) dX9_dead_56 rfl ?_
        -- at X9.dead 57: .istore_n 2
        rw [z0]
        refine vr_istore_n (q := 58) dX9_dead_57 rfl rfl (Nat.le_of_ble_eq_true rfl) rfl rfl ?_
        refine vr_iinc (q := 61) dX9_dead_58 rfl rfl ⟨by omega, by omega⟩ (Nat.le_of_ble_eq_true rfl) rfl rfl ?_
        refine vr_goto (q := 15) dX9_dead_61 (by decide) ?_
        -- at X9.dead 15: .iload_n 3
        exact k2 _ (by omega) (msc_t hk u1)
      · rw [z, if_pos (by simp)] at k2
        refine vr_ldc (x := -1000000) (q := 46) dX9_dead_44 rfl ⟨by decide, by decide⟩ qX9_53 ?_
        -- at X9.dead 46: .if_icmp .ne 9
        refine vr_ic_ne (t := 55) (q := 49) dX9_dead_46 (by decide) rfl (fun c9 => absurd c9 (by omega)) (fun _ => ?_)
        refine vr_iconst (q := 50) dX9_dead_49 rfl ⟨by decide, by decide⟩ ?_
        refine vr_iload_n (q := 51) dX9_dead_50 rfl rfl ?_
        refine vr_ishl (q := 52) dX9_dead_51 rfl ?_
        refine vr_goto (q := 56) dX9_dead_52 (by decide) ?_
        refine vr_ior (q := 57) dX9_dead_56 rfl ?_
        refine vr_istore_n (q := 58) dX9_dead_57 rfl rfl (Nat.le_of_ble_eq_true rfl) rfl rfl ?_
        refine vr_iinc (q := 61) dX9_dead_58 rfl rfl ⟨by omega, by omega⟩ (Nat.le_of_ble_eq_true rfl) rfl rfl ?_
        refine vr_goto (q := 15) dX9_dead_61 (by decide) ?_
        -- at X9.dead 15: .iload_n 3
        exact k2 _ (by omega) (msc_t hk u1)
    · rw [if_pos c1] at k2
      refine vr_if_eq (t := 55) (q := 38) dX9_dead_35 (by decide) rfl (fun _ => ?_) (fun c9 => absurd c9 (by omega))
      refine vr_iconst (q := 56) dX9_dead_55 rfl ⟨by decide, by decide⟩ ?_
      refine vr_ior (q := 57) dX9_dead_56 rfl ?_
      -- at X9.dead 57: .istore_n 2
      rw [z0]
      refine vr_istore_n (q := 58) dX9_dead_57 rfl rfl (Nat.le_of_ble_eq_true rfl) rfl rfl ?_
      refine vr_iinc (q := 61) dX9_dead_58 rfl rfl ⟨by omega, by omega⟩ (Nat.le_of_ble_eq_true rfl) rfl rfl ?_
      refine vr_goto (q := 15) dX9_dead_61 (by decide) ?_
      -- at X9.dead 15: .iload_n 3
      exact k2 _ (by omega) hk
theorem mx_dead0 {s : Int} (c : cpl_ p h) (k1 : ¬ (0 ≤ s ∧ s < p 7 3) → Post (some (sv_i (-1000001))) h) (k2 : (0 ≤ s ∧ s < p 7 3) → ∀ h2, msc_ h h2 → Post (some (sv_i (dea_ p s (p 7 2).toNat))) h2) : Ctr_ g (d + 5) mX9_dead [sv_r 4 8 68, sv_i s] h Post := by
  have o1 := c.1.1
  refine V_mk (by decide +kernel) (Or.inr (Or.inl ⟨rfl, rfl⟩)) (Nat.le_of_ble_eq_true rfl) (by simp [sv_c]) ?_
  show V_ _ _ _ 0 [_, _, _, _] [] _ _
  refine vr_aload_n (q := 1) dX9_dead_0 rfl rfl ?_
  refine vr_iload_n (q := 2) dX9_dead_1 rfl rfl ?_
  refine vr_iv1 (q := 5) dX9_dead_2 rfl vX9_163 (Nat.le_of_ble_eq_true rfl) ?_
  refine m_isS c (fun c2 => ?_) (fun c2 => ?_)
  · refine vr_if_ne (t := 11) (q := 8) dX9_dead_5 (by decide) rfl (fun _ => ?_) (fun c9 => absurd c9 (by omega))
    refine vr_iconst (q := 12) dX9_dead_11 rfl ⟨by decide, by decide⟩ ?_
    refine vr_istore_n (q := 13) dX9_dead_12 rfl rfl (Nat.le_of_ble_eq_true rfl) rfl rfl ?_
    refine vr_iconst (q := 14) dX9_dead_13 rfl ⟨by decide, by decide⟩ ?_
    refine vr_istore_n (q := 15) dX9_dead_14 rfl rfl (Nat.le_of_ble_eq_true rfl) rfl rfl ?_
    exact lm_dead c ⟨by omega, by omega⟩ (k2 ⟨by omega, by omega⟩) (p 7 2).toNat 0 h (by omega) (msc_r h)
  · refine vr_if_ne (t := 11) (q := 8) dX9_dead_5 (by decide) rfl (fun c9 => absurd c9 (by omega)) (fun _ => ?_)
    refine vr_ldc (x := -1000001) (q := 10) dX9_dead_8 rfl ⟨by decide, by decide⟩ qX9_67 ?_
    refine vr_iret dX9_dead_10 rfl ?_
    exact k1 (by omega)
end PM22_
