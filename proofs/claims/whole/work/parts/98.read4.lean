theorem pt_1 {B : Int → Int} {n : Int} (c : ¬ B 0 = 116) : pt_ B n = .error (0, 1) := by
  unfold pt_
  rw [if_neg c]
theorem pt_2 {B : Int → Int} {n : Int} {e : Int × Int} (c : B 0 = 116) (z : rn_ B 1 1 9 = .error e) : pt_ B n = .error e := by
  unfold pt_
  rw [if_pos c, z]
theorem pt_3 {B : Int → Int} {n st p1 : Int} (c : B 0 = 116) (z : rn_ B 1 1 9 = .ok (st, p1)) (c2 : ¬ B p1 = 59) : pt_ B n = .error (p1, 1) := by
  unfold pt_
  rw [if_pos c, z]
  dsimp only
  rw [if_neg c2]
theorem pt_4 {B : Int → Int} {n st p1 : Int} {e : Int × Int} (c : B 0 = 116) (z : rn_ B 1 1 9 = .ok (st, p1)) (c2 : B p1 = 59) (y : pl_ B 6 (p1 + 1) [] = .error e) : pt_ B n = .error e := by
  unfold pt_
  rw [if_pos c, z]
  dsimp only
  rw [if_pos c2, y]
theorem pt_5 {B : Int → Int} {n st p1 p2 : Int} {ls : List (Int × Int × Int)} {e : Int × Int} (c : B 0 = 116) (z : rn_ B 1 1 9 = .ok (st, p1)) (c2 : B p1 = 59) (y : pl_ B 6 (p1 + 1) [] = .ok (p2, ls)) (x : ps_ B 4 p2 [] = .error e) : pt_ B n = .error e := by
  unfold pt_
  rw [if_pos c, z]
  dsimp only
  rw [if_pos c2, y]
  dsimp only
  rw [x]
theorem pt_6 {B : Int → Int} {n st p1 p2 p3 : Int} {ls : List (Int × Int × Int)} {ss : List (Int × Int)} (c : B 0 = 116) (z : rn_ B 1 1 9 = .ok (st, p1)) (c2 : B p1 = 59) (y : pl_ B 6 (p1 + 1) [] = .ok (p2, ls)) (x : ps_ B 4 p2 [] = .ok (p3, ss)) : pt_ B n = if p3 < n then .error (p3, 1) else .ok (st, ls, ss) := by
  unfold pt_
  rw [if_pos c, z]
  dsimp only
  rw [if_pos c2, y]
  dsimp only
  rw [x]
section PM26_
variable {g : SG_} {d : Nat} {h : SH_} {f : Int → Int} {n : Int} {Post : Option SV_ → SH_ → Prop}
theorem l_clr (k2 : V_ g (d + 6) mX9_town 21 [some (sv_r 4 8 68), some (sv_i 38)] [] (zf_ h 75 0 38) Post) : ∀ (m i : Nat), i + m = 38 → V_ g (d + 6) mX9_town 2 [some (sv_r 4 8 68), some (sv_i i)] [] (zf_ h 75 0 i) Post := by
  intro m
  induction m with
  | zero =>
    intro i hi
    rw [show i = 38 by omega]
    refine vr_iload_n (q := 3) dX9_town_2 rfl rfl ?_
    refine vr_bipush (q := 5) dX9_town_3 rfl ⟨by decide, by decide⟩ (by decide) ?_
    -- at X9.town 5: .if_icmp .ge 16
    refine vr_ic_ge (t := 21) (q := 8) dX9_town_5 (by decide) rfl (fun _ => ?_) (fun c9 => absurd c9 (by omega))
    exact k2
  | succ m ih =>
    intro i hi
    have z := ih (i + 1) (by omega)
    rw [show ((i + 1 : Nat) : Int) = (i : Int) + 1 by omega, ← zf_s _ _ _ (by omega), Int.zero_add] at z
    refine vr_iload_n (q := 3) dX9_town_2 rfl rfl ?_
    refine vr_bipush (q := 5) dX9_town_3 rfl ⟨by decide, by decide⟩ (by decide) ?_
    -- at X9.town 5: .if_icmp .ge 16
    refine vr_ic_ge (t := 21) (q := 8) dX9_town_5 (by decide) rfl (fun c9 => absurd c9 (by omega)) (fun _ => ?_)
    refine vr_aload_n (q := 9) dX9_town_8 rfl rfl ?_
    refine vr_getR (q := 12) dX9_town_9 rfl fX9_28 rfl y_X9_14 (by first | (simp only [Int.reduceAdd]; rfl) | rfl) ?_
    refine vr_iload_n (q := 13) dX9_town_12 rfl rfl ?_
    refine vr_iconst (q := 14) dX9_town_13 rfl ⟨by decide, by decide⟩ ?_
    refine vr_iast (q := 15) dX9_town_14 rfl ⟨by omega, by omega⟩ ?_
    refine vr_iinc (q := 18) dX9_town_15 rfl rfl ⟨by omega, by omega⟩ (Nat.le_of_ble_eq_true rfl) rfl rfl ?_
    refine vr_goto (q := 2) dX9_town_18 (by decide) ?_
    -- at X9.town 2: .iload_n 1
    exact z
theorem mx_town (t : rtp_ f n h) (o : tpo_ f n) (kf : ∀ q k hc, pt_ (bz_ f n) n = .error (q, k) → (0 ≤ q ∧ q ≤ 200) → ter_ h k hc → Post (some (sv_i (-1000100 - q))) hc) (ko : ∀ st ls ss hc, pt_ (bz_ f n) n = .ok (st, ls, ss) → tok_ h st ls ss hc → Post (some (sv_i (ss.length : Int))) hc) : Ctr_ g (d + 6) mX9_town [sv_r 4 8 68] h Post := by
  have on := o.1
  have kf2 : ∀ q k hc, pt_ (bz_ f n) n = .error (q, k) → ter_ h k hc → (0 ≤ q ∧ q ≤ 200) → Post (some (sv_i (-1000100 - q))) hc := fun q k hc a b c => kf q k hc a c b
  have bad : ∀ {q k : Int}, pt_ (bz_ f n) n = .error (q, k) → (0 ≤ q ∧ q ≤ 200) → ∀ q2 k2 hc, pt_ (bz_ f n) n = .error (q2, k2) → ter_ h k2 hc → Post (some (sv_i (-1000100 - q2))) hc := by
    intro q k e hq q2 k2 hc e2 z
    have e3 : (q, k) = (q2, k2) := by
      rw [e] at e2
      exact Except.error.inj e2
    cases e3
    exact kf2 _ _ hc e z hq
  -- behind a fault in the law
  have x95 : ∀ (hc : SH_) (q k : Int), (0 ≤ q ∧ q ≤ 200) → pt_ (bz_ f n) n = .error (q, k) → twf_ h q k hc → V_ g (d + 6) mX9_town 76 [some (sv_r 4 8 68), some (sv_i 38)] [] hc Post := by
    intro hc q k hq ep w
    have hx : ¬ hc 68 8 < 0 := by rw [w.2.2.1]; omega
    refine vr_aload_n (q := 77) dX9_town_76 rfl rfl ?_
    refine vr_aload_n (q := 78) dX9_town_77 rfl rfl ?_
    refine vr_getI (ji := 11) (q := 81) dX9_town_78 rfl fX9_101 rfl rfl ?_
    refine vr_iconst (q := 82) dX9_town_81 rfl ⟨by decide, by decide⟩ ?_
    refine vr_ic_ne (t := 89) (q := 85) dX9_town_82 (by decide) rfl (fun c82 => ?_) (fun c82 => ?_)
    · refine vr_iconst (q := 90) dX9_town_89 rfl ⟨by decide, by decide⟩ ?_
      refine vr_iconst (q := 91) dX9_town_90 rfl ⟨by decide, by decide⟩ ?_
      refine vr_iv2 (q := 94) dX9_town_91 rfl vX9_117 (Nat.le_of_ble_eq_true rfl) ?_
      refine m_takesX hx ?_
      refine vr_pop (q := 95) dX9_town_94 rfl rfl ?_
      exact e_95 (bad ep hq) hq ep w
    · refine vr_iconst (q := 86) dX9_town_85 rfl ⟨by decide, by decide⟩ ?_
      refine vr_goto (q := 90) dX9_town_86 (by decide) ?_
      refine vr_iconst (q := 91) dX9_town_90 rfl ⟨by decide, by decide⟩ ?_
      refine vr_iv2 (q := 94) dX9_town_91 rfl vX9_117 (Nat.le_of_ble_eq_true rfl) ?_
      refine m_takesX hx ?_
      refine vr_pop (q := 95) dX9_town_94 rfl rfl ?_
      exact e_95 (bad ep hq) hq ep w
  have x62 : ∀ (hc : SH_) (q k : Int), (0 ≤ q ∧ q ≤ 200) → pt_ (bz_ f n) n = .error (q, k) → twf_ h q k hc → V_ g (d + 6) mX9_town 63 [some (sv_r 4 8 68), some (sv_i 38)] [] hc Post := by
    intro hc q k hq ep w
    have hx : ¬ hc 68 8 < 0 := by rw [w.2.2.1]; omega
    refine vr_aload_n (q := 64) dX9_town_63 rfl rfl ?_
    refine vr_getR (q := 67) dX9_town_64 rfl fX9_28 rfl y_X9_14 (by first | (simp only [Int.reduceAdd]; rfl) | rfl) ?_
    refine vr_iconst (q := 68) dX9_town_67 rfl ⟨by decide, by decide⟩ ?_
    refine vr_aload_n (q := 69) dX9_town_68 rfl rfl ?_
    refine vr_iconst (q := 70) dX9_town_69 rfl ⟨by decide, by decide⟩ ?_
    refine vr_bipush (q := 72) dX9_town_70 rfl ⟨by decide, by decide⟩ (by decide) ?_
    -- at X9.town 72: .invokevirtual 121
    refine vr_iv2 (q := 75) dX9_town_72 rfl vX9_121 (Nat.le_of_ble_eq_true rfl) ?_
    refine m_figureX hx ?_
    refine vr_iast (q := 76) dX9_town_75 rfl ⟨by omega, by omega⟩ ?_
    -- at X9.town 76: .aload_n 0
    refine x95 _ q k hq ep ⟨fun a a1 a2 => ?_, fun b hb => ?_, ?_, ?_⟩
    · rw [hs_k a2]; exact w.1 a a1 a2
    · rw [hs_k (by decide)]; exact w.2.1 b hb
    · rw [hs_k (by decide)]; exact w.2.2.1
    · rw [hs_k (by decide)]; exact w.2.2.2
  have r21 : V_ g (d + 6) mX9_town 21 [some (sv_r 4 8 68), some (sv_i 38)] [] (zf_ h 75 0 38) Post := by
    have z75 : ∀ b, 0 ≤ b → b < 38 → zf_ h 75 0 38 75 b = 0 := fun b b0 b1 => by unfold zf_; rw [if_pos ⟨rfl, b0, by omega⟩]
    have zk : ∀ a, a ≠ 75 → zf_ h 75 0 38 a = h a := fun a ha => by funext b; unfold zf_; rw [if_neg (fun z => ha z.1)]
    generalize zf_ h 75 0 38 = hz at z75 zk ⊢
    refine vr_aload_n (q := 22) dX9_town_21 rfl rfl ?_
    refine vr_iconst (q := 23) dX9_town_22 rfl ⟨by decide, by decide⟩ ?_
    refine vr_put (ji := 9) (q := 26) dX9_town_23 rfl pX9_89 rfl rfl ?_
    refine vr_aload_n (q := 27) dX9_town_26 rfl rfl ?_
    refine vr_iconst (q := 28) dX9_town_27 rfl ⟨by decide, by decide⟩ ?_
    refine vr_put (ji := 8) (q := 31) dX9_town_28 rfl pX9_104 rfl rfl ?_
    refine vr_aload_n (q := 32) dX9_town_31 rfl rfl ?_
    -- at X9.town 32: .invokevirtual 114
    have k0 : ∀ a, a ≠ 68 → a ≠ 75 → hs_ (hs_ hz 68 9 0) 68 8 (-1) a = h a := fun a a1 a2 => by rw [hs_k a1, hs_k a1]; exact zk a a2
    have k1 : ∀ b, ¬ (8 ≤ b ∧ b ≤ 12) → hs_ (hs_ hz 68 9 0) 68 8 (-1) 68 b = h 68 b := fun b hb => by rw [hs_n (by omega), hs_n (by omega), zk 68 (by decide)]
    have k2 : hs_ (hs_ hz 68 9 0) 68 8 (-1) 68 8 = -1 := hs_e _ _ _ _
    have k3 : hs_ (hs_ hz 68 9 0) 68 8 (-1) 68 9 = 0 := by rw [hs_n (by omega), hs_e]
    have k4 : ∀ b, 0 ≤ b → b < 38 → hs_ (hs_ hz 68 9 0) 68 8 (-1) 75 b = 0 := fun b b0 b1 => by rw [hs_k (by decide), hs_k (by decide)]; exact z75 b b0 b1
    generalize hs_ (hs_ hz 68 9 0) 68 8 (-1) = h0 at k0 k1 k2 k3 k4 ⊢
    have t0 : rtp_ f n h0 := ⟨(k0 73 (by decide) (by decide)).trans t.1, (k1 6 (by omega)).trans t.2⟩
    refine vr_iv0 (q := 35) dX9_town_32 rfl vX9_114 (Nat.le_of_ble_eq_true rfl) ?_
    refine m_advances t0 o ⟨Int.le_refl 0, on.1⟩ k3 (fun hA a1 a2 => ?_)
    have tA := adf_p a1 t0
    have wA : hA 68 8 < 0 := by rw [a1.2 8 (by omega), k2]; decide
    have t1 := tkn_1 a2.2.2
    by_cases c116 : bz_ f n 0 = 116
    · have cT : 97 ≤ bz_ f n 0 ∧ bz_ f n 0 ≤ 122 := ⟨by omega, by omega⟩
      have e9 := (t1.2.1 cT).2
      have h0n := ((bz_r o 0).2.2.mp (by omega)).2
      refine vr_aload_n (q := 36) dX9_town_35 rfl rfl ?_
      refine vr_aload_n (q := 37) dX9_town_36 rfl rfl ?_
      refine vr_getV (ji := 11) (q := 40) dX9_town_37 rfl fX9_101 rfl rfl (t1.1.mpr cT) ?_
      refine vr_iconst (q := 41) dX9_town_40 rfl ⟨by decide, by decide⟩ ?_
      -- at X9.town 41: .if_icmp .ne 16
      refine vr_ic_ne (t := 57) (q := 44) dX9_town_41 (by decide) rfl (fun c9 => absurd c9 (by omega)) (fun _ => ?_)
      refine vr_aload_n (q := 45) dX9_town_44 rfl rfl ?_
      refine vr_getV (ji := 12) (q := 48) dX9_town_45 rfl fX9_98 rfl rfl (t1.2.1 cT).1 ?_
      refine vr_bipush (q := 50) dX9_town_48 rfl ⟨by decide, by decide⟩ (by decide) ?_
      -- at X9.town 50: .if_icmp .ne 7
      refine vr_ic_ne (t := 57) (q := 53) dX9_town_50 (by decide) rfl (fun c9 => absurd c9 (by omega)) (fun _ => ?_)
      refine vr_iconst (q := 54) dX9_town_53 rfl ⟨by decide, by decide⟩ ?_
      refine vr_goto (q := 58) dX9_town_54 (by decide) ?_
      refine vr_iconst (q := 59) dX9_town_58 rfl ⟨by decide, by decide⟩ ?_
      -- at X9.town 59: .invokevirtual 117
      refine vr_iv2 (q := 62) dX9_town_59 rfl vX9_117 (Nat.le_of_ble_eq_true rfl) ?_
      refine m_takesT tA o wA ⟨by omega, a2.2.1.2⟩ (fun hB b1 b2 => ?_)
      rw [e9] at b2
      have a3 := adf_t a1 b1
      refine vr_pop (q := 63) dX9_town_62 rfl rfl ?_
      refine vr_aload_n (q := 64) dX9_town_63 rfl rfl ?_
      refine vr_getR (q := 67) dX9_town_64 rfl fX9_28 rfl y_X9_14 (by first | (simp only [Int.reduceAdd]; rfl) | rfl) ?_
      refine vr_iconst (q := 68) dX9_town_67 rfl ⟨by decide, by decide⟩ ?_
      refine vr_aload_n (q := 69) dX9_town_68 rfl rfl ?_
      refine vr_iconst (q := 70) dX9_town_69 rfl ⟨by decide, by decide⟩ ?_
      refine vr_bipush (q := 72) dX9_town_70 rfl ⟨by decide, by decide⟩ (by decide) ?_
      -- at X9.town 72: .invokevirtual 121
      refine vr_iv2 (q := 75) dX9_town_72 rfl vX9_121 (Nat.le_of_ble_eq_true rfl) ?_
      refine m_figure (adf_p a3 t0) o (by rw [a3.2 8 (by omega), k2]; decide) b2 ⟨by omega, by omega⟩ (fun st p1 hC z b3 b4 => ?_) (fun q k hC z b3 => ?_)
      · have z1 : rn_ (bz_ f n) 1 1 9 = .ok (st, p1) := z
        have rb := rn_ok z1
        have a4 := adf_t a3 b3
        have t4 := tkn_4 b4.2.2
        have aS : adf_ h0 hC := a4
        refine vr_iast (q := 76) dX9_town_75 rfl ⟨by omega, by omega⟩ ?_
        -- at X9.town 76: .aload_n 0
        have s1 : ∀ a, a ≠ 68 → a ≠ 75 → hs_ hC 75 0 st a = h a := fun a x1 x2 => by rw [hs_k x2, a4.1 a x1]; exact k0 a x1 x2
        have s2 : ∀ b, ¬ (8 ≤ b ∧ b ≤ 12) → hs_ hC 75 0 st 68 b = h 68 b := fun b hb => by rw [hs_k (by decide), a4.2 b (by omega)]; exact k1 b hb
        have s3 : hs_ hC 75 0 st 68 8 < 0 := by rw [hs_k (by decide), a4.2 8 (by omega), k2]; decide
        have s4 : rwl_ f n p1 (hs_ hC 75 0 st) := by unfold rwl_; rw [hs_k (by decide)]; exact b4
        have s5 : mdt_ (hs_ hC 75 0 st 75) st [] [] := by
          refine ⟨hs_e _ _ _ _, ?_, ?_, ?_, fun i x hx => (by rw [List.getElem?_nil] at hx; cases hx), fun i x hx => (by rw [List.getElem?_nil] at hx; cases hx), fun i hi => ?_⟩
          · rw [hs_n (by omega), a4.1 75 (by decide)]; exact k4 1 (by decide) (by decide)
          · rw [hs_n (by omega), a4.1 75 (by decide)]; exact k4 2 (by decide) (by decide)
          · rw [hs_n (by omega), a4.1 75 (by decide)]; exact k4 3 (by decide) (by decide)
          · rw [hs_n (by omega), hs_n (by omega), a4.1 75 (by decide)]
            exact ⟨k4 _ (by omega) (by omega), k4 _ (by omega) (by omega)⟩
        have sT : rtp_ f n (hs_ hC 75 0 st) := ⟨(s1 73 (by decide) (by decide)).trans t.1, (s2 6 (by omega)).trans t.2⟩
        have t5 := tkn_4 s4.2.2
        generalize hs_ hC 75 0 st = hS at s1 s2 s3 s4 s5 sT t5 ⊢
        by_cases c59 : bz_ f n p1 = 59
        · have e92 := t5.2 c59
          have hp1 := ((bz_r o p1).2.2.mp (by omega)).2
          refine vr_aload_n (q := 77) dX9_town_76 rfl rfl ?_
          refine vr_aload_n (q := 78) dX9_town_77 rfl rfl ?_
          refine vr_getV (ji := 11) (q := 81) dX9_town_78 rfl fX9_101 rfl rfl (t5.1.mpr c59) ?_
          refine vr_iconst (q := 82) dX9_town_81 rfl ⟨by decide, by decide⟩ ?_
          -- at X9.town 82: .if_icmp .ne 7
          refine vr_ic_ne (t := 89) (q := 85) dX9_town_82 (by decide) rfl (fun c9 => absurd c9 (by omega)) (fun _ => ?_)
          refine vr_iconst (q := 86) dX9_town_85 rfl ⟨by decide, by decide⟩ ?_
          refine vr_goto (q := 90) dX9_town_86 (by decide) ?_
          refine vr_iconst (q := 91) dX9_town_90 rfl ⟨by decide, by decide⟩ ?_
          -- at X9.town 91: .invokevirtual 117
          refine vr_iv2 (q := 94) dX9_town_91 rfl vX9_117 (Nat.le_of_ble_eq_true rfl) ?_
          refine m_takesT sT o s3 ⟨by omega, s4.2.1.2⟩ (fun hD d1 d2 => ?_)
          rw [e92] at d2
          refine vr_pop (q := 95) dX9_town_94 rfl rfl ?_
          -- at X9.town 95: .aload_n 0
          refine l_lies (st := st) t o 6 [] (p1 + 1) hD rfl ⟨fun a x1 x2 => ?_, fun b hb => ?_, ?_, d2, ⟨by omega, by omega⟩, by rw [d1.1 75 (by decide)]; exact s5⟩ (fun p2 ls hE y l6 w => ?_) (fun q k hE y hq w => ?_)
          · rw [d1.1 a x1]; exact s1 a x1 x2
          · rw [d1.2 b (by omega)]; exact s2 b hb
          · rw [d1.2 8 (by omega)]; exact s3
          · refine l_strs t o l6 4 [] p2 hE rfl w (fun p3 ss hF x s4 w => ?_) (fun q k hF x hq w => ?_)
            · have ep := pt_6 (n := n) c116 z1 c59 y x
              obtain ⟨w1, w2, w3, w4, w5, w6⟩ := id w
              have t6 := tkn_1 w4.2.2
              have b3 := bz_r o p3
              by_cases c3 : p3 < n
              · rw [if_pos c3] at ep
                have nz : ¬ hF 68 11 = 0 := fun q => by have := t6.2.2.mp q; omega
                refine vr_aload_n (q := 159) dX9_town_158 rfl rfl ?_
                -- at X9.town 159: .invokevirtual 107
                refine vr_iv0 (q := 162) dX9_town_159 rfl vX9_107 (Nat.le_of_ble_eq_true rfl) ?_
                refine m_isWell (fun _ => ?_) (fun y => absurd w3 y)
                refine vr_if_eq (t := 179) (q := 165) dX9_town_162 (by decide) rfl (fun c9 => absurd c9 (by omega)) (fun _ => ?_)
                refine vr_aload_n (q := 166) dX9_town_165 rfl rfl ?_
                refine vr_getI (ji := 11) (q := 169) dX9_town_166 rfl fX9_101 rfl rfl ?_
                -- at X9.town 169: .ifCond .eq 10
                refine vr_if_eq (t := 179) (q := 172) dX9_town_169 (by decide) rfl (fun c9 => absurd c9 (by omega)) (fun _ => ?_)
                refine vr_aload_n (q := 173) dX9_town_172 rfl rfl ?_
                refine vr_iconst (q := 174) dX9_town_173 rfl ⟨by decide, by decide⟩ ?_
                refine vr_iconst (q := 175) dX9_town_174 rfl ⟨by decide, by decide⟩ ?_
                -- at X9.town 175: .invokevirtual 117
                refine vr_iv2 (q := 178) dX9_town_175 rfl vX9_117 (Nat.le_of_ble_eq_true rfl) ?_
                refine m_takesF w3 ?_
                rw [w4.1]
                refine vr_pop (q := 179) dX9_town_178 rfl rfl ?_
                -- at X9.town 179: .aload_n 0
                exact e_179 (bad ep ⟨by omega, by omega⟩) ⟨by omega, by omega⟩ ep (twf_f w1 w2 (flt_s (adf_r hF)))
              · rw [if_neg c3] at ep
                have ez : hF 68 11 = 0 := t6.2.2.mpr (by omega)
                refine vr_aload_n (q := 159) dX9_town_158 rfl rfl ?_
                -- at X9.town 159: .invokevirtual 107
                refine vr_iv0 (q := 162) dX9_town_159 rfl vX9_107 (Nat.le_of_ble_eq_true rfl) ?_
                refine m_isWell (fun _ => ?_) (fun y => absurd w3 y)
                refine vr_if_eq (t := 179) (q := 165) dX9_town_162 (by decide) rfl (fun c9 => absurd c9 (by omega)) (fun _ => ?_)
                refine vr_aload_n (q := 166) dX9_town_165 rfl rfl ?_
                refine vr_getV (ji := 11) (q := 169) dX9_town_166 rfl fX9_101 rfl rfl ez ?_
                -- at X9.town 169: .ifCond .eq 10
                refine vr_if_eq (t := 179) (q := 172) dX9_town_169 (by decide) rfl (fun _ => ?_) (fun c9 => absurd c9 (by omega))
                refine vr_aload_n (q := 180) dX9_town_179 rfl rfl ?_
                refine vr_iconst (q := 181) dX9_town_180 rfl ⟨by decide, by decide⟩ ?_
                refine vr_put (ji := 6) (q := 184) dX9_town_181 rfl pX9_85 rfl rfl ?_
                refine vr_aload_n (q := 185) dX9_town_184 rfl rfl ?_
                -- at X9.town 185: .invokevirtual 107
                refine vr_iv0 (q := 188) dX9_town_185 rfl vX9_107 (Nat.le_of_ble_eq_true rfl) ?_
                refine m_isWell (fun _ => ?_) (fun y => absurd (show hs_ hF 68 6 0 68 8 < 0 by rw [hs_n (by omega)]; exact w3) y)
                refine vr_if_ne (t := 199) (q := 191) dX9_town_188 (by decide) rfl (fun _ => ?_) (fun c9 => absurd c9 (by omega))
                refine vr_aload_n (q := 200) dX9_town_199 rfl rfl ?_
                refine vr_getR (q := 203) dX9_town_200 rfl fX9_28 rfl y_X9_14 (by first | (simp only [Int.reduceAdd]; rfl) | rfl) ?_
                refine vr_iconst (q := 204) dX9_town_203 rfl ⟨by decide, by decide⟩ ?_
                refine vr_aload_n (q := 205) dX9_town_204 rfl rfl ?_
                refine vr_getR (q := 208) dX9_town_205 rfl fX9_25 rfl y_X9_13 (by first | (simp only [Int.reduceAdd]; rfl) | rfl) ?_
                refine vr_iconst (q := 209) dX9_town_208 rfl ⟨by decide, by decide⟩ ?_
                -- at X9.town 209: .invokestatic 137
                refine vr_is4 (q := 212) dX9_town_209 rfl vX9_137 (Nat.le_of_ble_eq_true rfl) ?_
                refine m_copies (by decide) ⟨by decide, by decide, by decide⟩ ⟨by decide, by decide, by decide⟩ ?_
                have c74 : ∀ b, 0 ≤ b → b < 38 → hc_ (hs_ hF 68 6 0) 75 0 74 0 38 74 b = hF 75 b := by
                  intro b b0 b1
                  unfold hc_
                  rw [if_pos ⟨rfl, b0, by omega⟩, hs_k (by decide), show (0 : Int) + (b - 0) = b by omega]
                have cks : ∀ a, a ≠ 74 → hc_ (hs_ hF 68 6 0) 75 0 74 0 38 a = hs_ hF 68 6 0 a := by
                  intro a ha
                  funext b
                  unfold hc_
                  rw [if_neg (fun q => ha q.1)]
                generalize hc_ (hs_ hF 68 6 0) 75 0 74 0 38 = hG at c74 cks ⊢
                have e3 : hs_ hG 68 16 0 74 3 = ss.length := by rw [hs_k (by decide), c74 3 (by decide) (by decide)]; exact w6.2.2.2.1
                refine vr_aload_n (q := 213) dX9_town_212 rfl rfl ?_
                refine vr_iconst (q := 214) dX9_town_213 rfl ⟨by decide, by decide⟩ ?_
                refine vr_put (ji := 16) (q := 217) dX9_town_214 rfl pX9_141 rfl rfl ?_
                refine vr_aload_n (q := 218) dX9_town_217 rfl rfl ?_
                refine vr_getR (q := 221) dX9_town_218 rfl fX9_25 rfl y_X9_13 (by first | (simp only [Int.reduceAdd]; rfl) | rfl) ?_
                refine vr_iconst (q := 222) dX9_town_221 rfl ⟨by decide, by decide⟩ ?_
                refine vr_ialdV (q := 223) dX9_town_222 rfl ⟨by omega, by omega⟩ e3 ?_
                refine vr_iret dX9_town_223 rfl ?_
                refine ko st ls ss _ ep ⟨fun a x1 x2 x3 => ?_, fun b hb hb2 => ?_, ?_, ?_, hs_e _ _ _ _, ?_⟩
                · rw [hs_k x1, cks a x2, hs_k x1]; exact w1 a x1 x3
                · rw [hs_n (by omega), cks 68 (by decide), hs_n (by omega)]; exact w2 b (by omega)
                · rw [hs_n (by omega), cks 68 (by decide), hs_e]
                · rw [hs_n (by omega), cks 68 (by decide), hs_n (by omega)]; exact w2 7 (by omega)
                · obtain ⟨m0, m1, m2, m3, m4, m5, m6⟩ := w6
                  rw [hs_k (by decide)]
                  refine ⟨?_, ?_, ?_, ?_, fun i x hx => ?_, fun i x hx => ?_, fun i hi => ?_⟩
                  · rw [c74 0 (by decide) (by decide)]; exact m0
                  · rw [c74 1 (by decide) (by decide)]; exact m1
                  · rw [c74 2 (by decide) (by decide)]; exact m2
                  · rw [c74 3 (by decide) (by decide)]; exact m3
                  · have hi := (List.getElem?_eq_some_iff.mp hx).1
                    rw [c74 _ (by omega) (by omega), c74 _ (by omega) (by omega), c74 _ (by omega) (by omega)]; exact m4 i x hx
                  · have hi := (List.getElem?_eq_some_iff.mp hx).1
                    rw [c74 _ (by omega) (by omega), c74 _ (by omega) (by omega)]; exact m5 i x hx
                  · rw [c74 _ (by omega) (by omega), c74 _ (by omega) (by omega)]; exact m6 i hi
            · have ep := pt_5 (n := n) c116 z1 c59 y x
              exact e_127 (bad ep ⟨by omega, by omega⟩) ⟨by omega, by omega⟩ ep w
          · have ep := pt_4 (n := n) c116 z1 c59 y
            exact e_95 (bad ep ⟨by omega, by omega⟩) ⟨by omega, by omega⟩ ep w
        · have ep := pt_3 (n := n) c116 z1 c59
          have n4 : ¬ hS 68 11 = 4 := fun q => c59 (t5.1.mp q)
          refine vr_aload_n (q := 77) dX9_town_76 rfl rfl ?_
          refine vr_aload_n (q := 78) dX9_town_77 rfl rfl ?_
          refine vr_getI (ji := 11) (q := 81) dX9_town_78 rfl fX9_101 rfl rfl ?_
          refine vr_iconst (q := 82) dX9_town_81 rfl ⟨by decide, by decide⟩ ?_
          -- at X9.town 82: .if_icmp .ne 7
          refine vr_ic_ne (t := 89) (q := 85) dX9_town_82 (by decide) rfl (fun _ => ?_) (fun c9 => absurd c9 (by omega))
          refine vr_iconst (q := 90) dX9_town_89 rfl ⟨by decide, by decide⟩ ?_
          refine vr_iconst (q := 91) dX9_town_90 rfl ⟨by decide, by decide⟩ ?_
          -- at X9.town 91: .invokevirtual 117
          refine vr_iv2 (q := 94) dX9_town_91 rfl vX9_117 (Nat.le_of_ble_eq_true rfl) ?_
          refine m_takesF s3 ?_
          rw [s4.1]
          refine vr_pop (q := 95) dX9_town_94 rfl rfl ?_
          -- at X9.town 95: .aload_n 0
          exact e_95 (bad ep ⟨by omega, by omega⟩) ⟨by omega, by omega⟩ ep (twf_f s1 s2 (flt_s (adf_r hS)))
      · have z1 : rn_ (bz_ f n) 1 1 9 = .error (q, k) := z
        have ep := pt_2 (n := n) c116 z1
        have er := (rn_er z1).1
        dsimp only at er
        have zf := flt_a a3 b3
        refine vr_iast (q := 76) dX9_town_75 rfl ⟨by omega, by omega⟩ ?_
        -- at X9.town 76: .aload_n 0
        refine x95 _ q k ⟨by omega, by omega⟩ ep ⟨fun a x1 x2 => ?_, fun b hb => ?_, ?_, ?_⟩
        · rw [hs_k x2, zf.1 a x1]; exact k0 a x1 x2
        · rw [hs_k (by decide), zf.2.1 b hb]; exact k1 b (by omega)
        · rw [hs_k (by decide)]; exact zf.2.2.1
        · rw [hs_k (by decide)]; exact zf.2.2.2
    · have ep := pt_1 (n := n) c116
      have fin : V_ g (d + 6) mX9_town 57 [some (sv_r 4 8 68), some (sv_i 38)] [sv_r 4 8 68] hA Post := by
        refine vr_iconst (q := 58) dX9_town_57 rfl ⟨by decide, by decide⟩ ?_
        refine vr_iconst (q := 59) dX9_town_58 rfl ⟨by decide, by decide⟩ ?_
        -- at X9.town 59: .invokevirtual 117
        refine vr_iv2 (q := 62) dX9_town_59 rfl vX9_117 (Nat.le_of_ble_eq_true rfl) ?_
        refine m_takesF wA ?_
        rw [a2.1]
        refine vr_pop (q := 63) dX9_town_62 rfl rfl ?_
        -- at X9.town 63: .aload_n 0
        refine x62 _ 0 1 (by decide) ep ?_
        have zf := flt_a a1 (flt_s (q := 0) (k := 1) (adf_r hA))
        exact ⟨fun a x1 x2 => (zf.1 a x1).trans (k0 a x1 x2), fun b hb => (zf.2.1 b hb).trans (k1 b (by omega)), zf.2.2⟩
      by_cases cT : 97 ≤ bz_ f n 0 ∧ bz_ f n 0 ≤ 122
      · refine vr_aload_n (q := 36) dX9_town_35 rfl rfl ?_
        refine vr_aload_n (q := 37) dX9_town_36 rfl rfl ?_
        refine vr_getV (ji := 11) (q := 40) dX9_town_37 rfl fX9_101 rfl rfl (t1.1.mpr cT) ?_
        refine vr_iconst (q := 41) dX9_town_40 rfl ⟨by decide, by decide⟩ ?_
        -- at X9.town 41: .if_icmp .ne 16
        refine vr_ic_ne (t := 57) (q := 44) dX9_town_41 (by decide) rfl (fun c9 => absurd c9 (by omega)) (fun _ => ?_)
        refine vr_aload_n (q := 45) dX9_town_44 rfl rfl ?_
        refine vr_getV (ji := 12) (q := 48) dX9_town_45 rfl fX9_98 rfl rfl (t1.2.1 cT).1 ?_
        refine vr_bipush (q := 50) dX9_town_48 rfl ⟨by decide, by decide⟩ (by decide) ?_
        -- at X9.town 50: .if_icmp .ne 7
        refine vr_ic_ne (t := 57) (q := 53) dX9_town_50 (by decide) rfl (fun _ => ?_) (fun c9 => absurd c9 (by omega))
        exact fin
      · have nT : ¬ hA 68 11 = 1 := fun z => cT (t1.1.mp z)
        refine vr_aload_n (q := 36) dX9_town_35 rfl rfl ?_
        refine vr_aload_n (q := 37) dX9_town_36 rfl rfl ?_
        refine vr_getI (ji := 11) (q := 40) dX9_town_37 rfl fX9_101 rfl rfl ?_
        refine vr_iconst (q := 41) dX9_town_40 rfl ⟨by decide, by decide⟩ ?_
        -- at X9.town 41: .if_icmp .ne 16
        refine vr_ic_ne (t := 57) (q := 44) dX9_town_41 (by decide) rfl (fun _ => ?_) (fun c9 => absurd c9 (by omega))
        exact fin
  have z := l_clr (g := g) (d := d) r21 38 0 rfl
  rw [show ((0 : Nat) : Int) = 0 from rfl, zf_0] at z
  refine V_mk (by decide +kernel) (Or.inr (Or.inl ⟨rfl, rfl⟩)) (Nat.le_of_ble_eq_true rfl) (by simp [sv_c]) ?_
  show V_ _ _ _ 0 [_, _] [] _ _
  refine vr_iconst (q := 1) dX9_town_0 rfl ⟨by decide, by decide⟩ ?_
  refine vr_istore_n (q := 2) dX9_town_1 rfl rfl (Nat.le_of_ble_eq_true rfl) rfl rfl ?_
  -- at X9.town 2: .iload_n 1
  exact z
end PM26_
