theorem ut_bc : ∀ n : Fin 7, ∀ x : Fin 64, ∀ l : Fin 6, (l : Nat) < (n : Nat) → bt_ (ut_ ((n : Nat) : Int) ((x : Nat) : Int)) ((l : Nat) : Int) = 1 - bt_ ((x : Nat) : Int) ((l : Nat) : Int) := by decide +kernel
theorem ut_b {n x l : Int} (hn : 0 ≤ n ∧ n ≤ 6) (hx : 0 ≤ x ∧ x < 64) (hl : 0 ≤ l ∧ l < n) : bt_ (ut_ n x) l = 1 - bt_ x l := by
  have e := ut_bc ⟨n.toNat, by omega⟩ ⟨x.toNat, by omega⟩ ⟨l.toNat, by omega⟩ (show l.toNat < n.toNat by omega)
  rw [show (((⟨n.toNat, by omega⟩ : Fin 7) : Nat) : Int) = n from Int.toNat_of_nonneg hn.1, show (((⟨x.toNat, by omega⟩ : Fin 64) : Nat) : Int) = x from Int.toNat_of_nonneg hx.1, show (((⟨l.toNat, by omega⟩ : Fin 6) : Nat) : Int) = l from Int.toNat_of_nonneg hl.1] at e
  exact e
/-- how many, and the first: none if there is none -/
def hiv_ (B : Int) (x : Int × Int) : Prop := (0 ≤ x.1 ∧ x.1 ≤ B) ∧ (x.1 = 0 ↔ x.2 = -1000000)
theorem hiv_s {B v : Int} {x : Int × Int} (f : Int) (hf : f ≠ -1000000) (hx : hiv_ B x) : hiv_ (B + 1) (if v = 0 then x else (x.1 + 1, if x.2 = -1000000 then f else x.2)) := by
  obtain ⟨h1, h2⟩ := hx
  split
  · exact ⟨⟨h1.1, by omega⟩, h2⟩
  · refine ⟨⟨by show 0 ≤ x.1 + 1; omega, by show x.1 + 1 ≤ B + 1; omega⟩, ?_⟩
    show x.1 + 1 = 0 ↔ (if x.2 = -1000000 then f else x.2) = -1000000
    split <;> omega
theorem hq_i (p : SH_) (s a : Int) (ha : 0 ≤ a) : ∀ (k : Nat) (b B : Int) (x : Int × Int), 0 ≤ b → hiv_ B x → hiv_ (B + k) (hq_ p s k a b x) := by
  intro k
  induction k with
  | zero =>
    intro b B x _ hx
    rw [show B + ((0 : Nat) : Int) = B by omega]
    exact hx
  | succ k ih =>
    intro b B x hb hx
    have h2 := ih (b + 1) (B + 1) _ (by omega) (hiv_s (v := hp_ p s a b) (10 * a + b) (by omega) hx)
    rw [show B + ((k + 1 : Nat) : Int) = B + 1 + k by omega]
    exact h2
section PM14_
variable {g : SG_} {d : Nat} {h p : SH_} {Post : Option SV_ → SH_ → Prop}
theorem m_helps {s a b : Int} {m : MU_} (c : cpl_ p h) (hs : 0 ≤ s ∧ s < p 7 3) (ha : 0 ≤ a ∧ a < p 7 2) (hb : 0 ≤ b ∧ b < p 7 2) (kk : ∀ m2, Post (some (sv_i (bi_ (tf_ p) (en_ p s) a b))) (mw_ h m2)) : Ctr_ g (d + 3) mX9_helps [sv_r 4 8 68, sv_i s, sv_i a, sv_i b] (mw_ h m) Post := by
  have hm := en_mo c.1 hs
  have la := c.1.2.2.2.1 a ha.1 ha.2
  unfold bi_ at kk
  refine V_mk (by decide +kernel) (Or.inr (Or.inr (Or.inl ⟨rfl, rfl⟩))) (Nat.le_of_ble_eq_true rfl) (by simp [sv_c]) ?_
  show V_ _ _ _ 0 [_, _, _, _, _] [] _ _
  refine vr_aload_n (q := 1) dX9_helps_0 rfl rfl ?_
  refine vr_iload_n (q := 2) dX9_helps_1 rfl rfl ?_
  -- at X9.helps 2: .invokevirtual 176
  refine vr_iv1 (q := 5) dX9_helps_2 rfl vX9_176 (Nat.le_of_ble_eq_true rfl) ?_
  refine m_trW c hs ?_
  refine vr_aload_n (q := 6) dX9_helps_5 rfl rfl ?_
  refine vr_iload_n (q := 7) dX9_helps_6 rfl rfl ?_
  -- at X9.helps 7: .invokevirtual 180
  refine vr_iv1 (q := 10) dX9_helps_7 rfl vX9_180 (Nat.le_of_ble_eq_true rfl) ?_
  refine m_wnW (n := 6) c hb hm (by decide) ?_
  refine vr_istore (q := 12) dX9_helps_10 rfl (Nat.le_of_ble_eq_true rfl) rfl rfl ?_
  refine vr_aload_n (q := 13) dX9_helps_12 rfl rfl ?_
  refine vr_iload_n (q := 14) dX9_helps_13 rfl rfl ?_
  refine vr_aload_n (q := 15) dX9_helps_14 rfl rfl ?_
  refine vr_iload_n (q := 16) dX9_helps_15 rfl rfl ?_
  -- at X9.helps 16: .invokevirtual 180
  refine vr_iv1 (q := 19) dX9_helps_16 rfl vX9_180 (Nat.le_of_ble_eq_true rfl) ?_
  refine m_wnW (n := 6) c ha hm (by decide) ?_
  refine vr_iv2 (q := 22) dX9_helps_19 rfl vX9_183 (Nat.le_of_ble_eq_true rfl) ?_
  refine m_hrW (n := 6) c ha hm (by decide) ?_
  refine vr_iload (q := 24) dX9_helps_22 rfl rfl ?_
  -- at X9.helps 24: .ifCond .ne 15
  refine vr_if_ne (t := 39) (q := 27) dX9_helps_24 (by decide) rfl (fun c1 => ?_) (fun c1 => ?_)
  · rw [if_neg c1] at kk
    refine vr_iconst (q := 40) dX9_helps_39 rfl ⟨by decide, by decide⟩ ?_
    -- at X9.helps 40: .ireturn
    refine vr_zret dX9_helps_40 rfl ?_ ?_
    · exact Or.inl rfl
    · exact kk _
  · have c2 : nl_ (tf_ p) (en_ p s) b = 0 := by
      rcases nb_01 (p 8 b) (p 9 b) (p 10 b) (en_ p s) with z | z
      · exact z
      · exact absurd z (by have z2 : ¬ nl_ (tf_ p) (en_ p s) b = 1 := (by omega); exact z2)
    rw [if_pos c2] at kk
    refine vr_aload_n (q := 28) dX9_helps_27 rfl rfl ?_
    refine vr_iload_n (q := 29) dX9_helps_28 rfl rfl ?_
    -- at X9.helps 29: .invokevirtual 180
    refine vr_iv1 (q := 32) dX9_helps_29 rfl vX9_180 (Nat.le_of_ble_eq_true rfl) ?_
    refine m_wnW (n := 7) c hb (he_mo la hm) (by decide) ?_
    refine vr_if_eq (t := 39) (q := 35) dX9_helps_32 (by decide) rfl (fun c3 => ?_) (fun c3 => ?_)
    · have c4 : nl_ (tf_ p) (hl_ (tf_ p) (en_ p s) a) b = 0 := c3
      rw [c4] at kk
      refine vr_iconst (q := 40) dX9_helps_39 rfl ⟨by decide, by decide⟩ ?_
      -- at X9.helps 40: .ireturn
      refine vr_zret dX9_helps_40 rfl ?_ ?_
      · exact Or.inl rfl
      · exact kk _
    · have c4 : nl_ (tf_ p) (hl_ (tf_ p) (en_ p s) a) b = 1 := by
        rcases nb_01 (p 8 b) (p 9 b) (p 10 b) (hl_ (tf_ p) (en_ p s) a) with z | z
        · exact absurd z c3
        · exact z
      rw [c4] at kk
      refine vr_iconst (q := 36) dX9_helps_35 rfl ⟨by decide, by decide⟩ ?_
      refine vr_goto (q := 40) dX9_helps_36 (by decide) ?_
      -- at X9.helps 40: .ireturn
      refine vr_zret dX9_helps_40 rfl ?_ ?_
      · exact Or.inr rfl
      · exact kk _
theorem lm_help2 {s a w : Int} (c : cpl_ p h) (hs : 0 ≤ s ∧ s < p 7 3) (ha : 0 ≤ a ∧ a < p 7 2) : ∀ (k : Nat) (b : Int) (x : Int × Int) (o8 : Option SV_) (m : MU_), a < b → b + k = p 7 2 → hiv_ (6 * a + b) x → (∀ (o8 : Option SV_) (m : MU_), V_ g (d + 4) mX9_help 159 [some (sv_r 4 8 68), some (sv_i s), some (sv_i w), some (sv_i (ut_ (p 7 2) (p 13 s))), some (sv_i (hq_ p s k a b x).1), some (sv_i (hq_ p s k a b x).2), some (sv_i a), some (sv_i (p 7 2)), o8] [] (mw_ h m) Post) → V_ g (d + 4) mX9_help 53 [some (sv_r 4 8 68), some (sv_i s), some (sv_i w), some (sv_i (ut_ (p 7 2) (p 13 s))), some (sv_i x.1), some (sv_i x.2), some (sv_i a), some (sv_i b), o8] [] (mw_ h m) Post := by
  intro k
  have o1 := c.1.1
  have hx13 := (c.1.2.2.2.2 s hs.1 hs.2).2.2.1
  have e2 : ∀ m, mw_ h m 74 2 = p 7 2 := fun m => by rw [mw_n (by decide) (by decide)]; exact c.2.1.2.2.1
  induction k with
  | zero =>
    intro b x o8 m hab hb hx kk
    have eb : p 7 2 = b := by omega
    rw [eb] at kk ⊢
    refine vr_iload (q := 55) dX9_help_53 rfl rfl ?_
    refine vr_aload_n (q := 56) dX9_help_55 rfl rfl ?_
    refine vr_getR (q := 59) dX9_help_56 rfl fX9_25 rfl y_X9_13 (by first | (simp only [Int.reduceAdd]; rfl) | rfl) ?_
    refine vr_iconst (q := 60) dX9_help_59 rfl ⟨by decide, by decide⟩ ?_
    refine vr_ialdV (q := 61) dX9_help_60 rfl ⟨by omega, by omega⟩ (show _ = b by rw [e2]; exact eb) ?_
    -- at X9.help 61: .if_icmp .ge 98
    refine vr_ic_ge (t := 159) (q := 64) dX9_help_61 (by decide) rfl (fun _ => ?_) (fun c9 => absurd c9 (by omega))
    exact kk o8 m
  | succ k ih =>
    intro b x o8 m hab hb hx kk
    have e : hq_ p s (k + 1) a b x = hq_ p s k a (b + 1) (if hp_ p s a b = 0 then x else (x.1 + 1, if x.2 = -1000000 then 10 * a + b else x.2)) := rfl
    have hx2 := hiv_s (v := hp_ p s a b) (10 * a + b) (by omega) hx
    rw [show 6 * a + b + 1 = 6 * a + (b + 1) by omega] at hx2
    rw [e] at kk
    obtain ⟨i1, i2⟩ := hx
    have ba := bt_01 (p 13 s) a
    have bb := bt_01 (p 13 s) b
    have ua := ut_b o1 hx13 (l := a) ha
    have ub := ut_b o1 hx13 (l := b) ⟨by omega, by omega⟩
    have hb2 : 0 ≤ b ∧ b < p 7 2 := ⟨by omega, by omega⟩
    have ehp : hp_ p s a b = if ¬ bt_ (p 13 s) a = 0 then 0 else if ¬ bt_ (p 13 s) b = 0 then 0 else if bi_ (tf_ p) (en_ p s) a b = 0 then bi_ (tf_ p) (en_ p s) b a else 1 := rfl
    have fin : ∀ (v : Int) (m : MU_), hp_ p s a b = v → V_ g (d + 4) mX9_help 111 [some (sv_r 4 8 68), some (sv_i s), some (sv_i w), some (sv_i (ut_ (p 7 2) (p 13 s))), some (sv_i x.1), some (sv_i x.2), some (sv_i a), some (sv_i b), o8] [sv_i v] (mw_ h m) Post := by
      intro v m hv
      rw [hv] at kk hx2
      rcases hp_01 p s a b with z | z
      · rw [z] at hv
        subst hv
        rw [if_pos rfl] at kk hx2
        refine vr_istore (q := 113) dX9_help_111 rfl (Nat.le_of_ble_eq_true rfl) rfl rfl ?_
        refine vr_iload (q := 115) dX9_help_113 rfl rfl ?_
        refine vr_if_eq (t := 134) (q := 118) dX9_help_115 (by decide) rfl (fun _ => ?_) (fun c9 => absurd c9 (by omega))
        refine vr_iload (q := 136) dX9_help_134 rfl rfl ?_
        refine vr_istore (q := 138) dX9_help_136 rfl (Nat.le_of_ble_eq_true rfl) rfl rfl ?_
        refine vr_iload (q := 140) dX9_help_138 rfl rfl ?_
        refine vr_iload (q := 142) dX9_help_140 rfl rfl ?_
        refine vr_if_eq (t := 149) (q := 145) dX9_help_142 (by decide) rfl (fun _ => ?_) (fun c9 => absurd c9 (by omega))
        refine vr_iconst (q := 150) dX9_help_149 rfl ⟨by decide, by decide⟩ ?_
        refine vr_iaddN (q := 151) dX9_help_150 rfl ⟨by omega, by omega⟩ ?_
        rw [Int.add_zero x.1]
        refine vr_istore (q := 153) dX9_help_151 rfl (Nat.le_of_ble_eq_true rfl) rfl rfl ?_
        refine vr_iinc (q := 156) dX9_help_153 rfl rfl ⟨by omega, by omega⟩ (Nat.le_of_ble_eq_true rfl) rfl rfl ?_
        refine vr_goto (q := 53) dX9_help_156 (by decide) ?_
        exact ih (b + 1) x _ m (by omega) (by omega) hx2 kk
      · rw [z] at hv
        subst hv
        rw [if_neg (by decide)] at kk hx2
        by_cases cx : x.1 = 0
        · rw [if_pos (i2.mp cx)] at kk hx2
          refine vr_istore (q := 113) dX9_help_111 rfl (Nat.le_of_ble_eq_true rfl) rfl rfl ?_
          refine vr_iload (q := 115) dX9_help_113 rfl rfl ?_
          refine vr_if_eq (t := 134) (q := 118) dX9_help_115 (by decide) rfl (fun c9 => absurd c9 (by omega)) (fun _ => ?_)
          refine vr_iload (q := 120) dX9_help_118 rfl rfl ?_
          refine vr_if_ne (t := 134) (q := 123) dX9_help_120 (by decide) rfl (fun c9 => absurd c9 (by omega)) (fun _ => ?_)
          refine vr_bipush (q := 125) dX9_help_123 rfl ⟨by decide, by decide⟩ (by decide) ?_
          refine vr_iload (q := 127) dX9_help_125 rfl rfl ?_
          refine vr_imulN (q := 128) dX9_help_127 rfl ⟨by omega, by omega⟩ ?_
          refine vr_iload (q := 130) dX9_help_128 rfl rfl ?_
          refine vr_iaddN (q := 131) dX9_help_130 rfl ⟨by omega, by omega⟩ ?_
          refine vr_goto (q := 136) dX9_help_131 (by decide) ?_
          refine vr_istore (q := 138) dX9_help_136 rfl (Nat.le_of_ble_eq_true rfl) rfl rfl ?_
          refine vr_iload (q := 140) dX9_help_138 rfl rfl ?_
          refine vr_iload (q := 142) dX9_help_140 rfl rfl ?_
          refine vr_if_eq (t := 149) (q := 145) dX9_help_142 (by decide) rfl (fun c9 => absurd c9 (by omega)) (fun _ => ?_)
          refine vr_iconst (q := 146) dX9_help_145 rfl ⟨by decide, by decide⟩ ?_
          refine vr_goto (q := 150) dX9_help_146 (by decide) ?_
          refine vr_iaddN (q := 151) dX9_help_150 rfl ⟨by omega, by omega⟩ ?_
          refine vr_istore (q := 153) dX9_help_151 rfl (Nat.le_of_ble_eq_true rfl) rfl rfl ?_
          refine vr_iinc (q := 156) dX9_help_153 rfl rfl ⟨by omega, by omega⟩ (Nat.le_of_ble_eq_true rfl) rfl rfl ?_
          refine vr_goto (q := 53) dX9_help_156 (by decide) ?_
          exact ih (b + 1) (x.1 + 1, 10 * a + b) _ m (by omega) (by omega) hx2 kk
        · rw [if_neg (fun z => cx (i2.mpr z))] at kk hx2
          refine vr_istore (q := 113) dX9_help_111 rfl (Nat.le_of_ble_eq_true rfl) rfl rfl ?_
          refine vr_iload (q := 115) dX9_help_113 rfl rfl ?_
          refine vr_if_eq (t := 134) (q := 118) dX9_help_115 (by decide) rfl (fun c9 => absurd c9 (by omega)) (fun _ => ?_)
          refine vr_iload (q := 120) dX9_help_118 rfl rfl ?_
          refine vr_if_ne (t := 134) (q := 123) dX9_help_120 (by decide) rfl (fun _ => ?_) (fun c9 => absurd c9 (by omega))
          refine vr_iload (q := 136) dX9_help_134 rfl rfl ?_
          refine vr_istore (q := 138) dX9_help_136 rfl (Nat.le_of_ble_eq_true rfl) rfl rfl ?_
          refine vr_iload (q := 140) dX9_help_138 rfl rfl ?_
          refine vr_iload (q := 142) dX9_help_140 rfl rfl ?_
          refine vr_if_eq (t := 149) (q := 145) dX9_help_142 (by decide) rfl (fun c9 => absurd c9 (by omega)) (fun _ => ?_)
          refine vr_iconst (q := 146) dX9_help_145 rfl ⟨by decide, by decide⟩ ?_
          refine vr_goto (q := 150) dX9_help_146 (by decide) ?_
          refine vr_iaddN (q := 151) dX9_help_150 rfl ⟨by omega, by omega⟩ ?_
          refine vr_istore (q := 153) dX9_help_151 rfl (Nat.le_of_ble_eq_true rfl) rfl rfl ?_
          refine vr_iinc (q := 156) dX9_help_153 rfl rfl ⟨by omega, by omega⟩ (Nat.le_of_ble_eq_true rfl) rfl rfl ?_
          refine vr_goto (q := 53) dX9_help_156 (by decide) ?_
          exact ih (b + 1) (x.1 + 1, x.2) _ m (by omega) (by omega) hx2 kk
    refine vr_iload (q := 55) dX9_help_53 rfl rfl ?_
    refine vr_aload_n (q := 56) dX9_help_55 rfl rfl ?_
    refine vr_getR (q := 59) dX9_help_56 rfl fX9_25 rfl y_X9_13 (by first | (simp only [Int.reduceAdd]; rfl) | rfl) ?_
    refine vr_iconst (q := 60) dX9_help_59 rfl ⟨by decide, by decide⟩ ?_
    refine vr_ialdV (q := 61) dX9_help_60 rfl ⟨by omega, by omega⟩ (e2 m) ?_
    -- at X9.help 61: .if_icmp .ge 98
    refine vr_ic_ge (t := 159) (q := 64) dX9_help_61 (by decide) rfl (fun c9 => absurd c9 (by omega)) (fun _ => ?_)
    refine vr_iload_n (q := 65) dX9_help_64 rfl rfl ?_
    refine vr_iload (q := 67) dX9_help_65 rfl rfl ?_
    -- at X9.help 67: .invokestatic 156
    refine vr_is2 (q := 70) dX9_help_67 rfl vX9_156 (Nat.le_of_ble_eq_true rfl) ?_
    refine m_has (fun c1 => ?_) (fun c1 => ?_)
    · rw [if_neg (fun z => z (by omega))] at ehp
      refine vr_if_eq (t := 110) (q := 73) dX9_help_70 (by decide) rfl (fun c9 => absurd c9 (by omega)) (fun _ => ?_)
      refine vr_iload_n (q := 74) dX9_help_73 rfl rfl ?_
      refine vr_iload (q := 76) dX9_help_74 rfl rfl ?_
      -- at X9.help 76: .invokestatic 156
      refine vr_is2 (q := 79) dX9_help_76 rfl vX9_156 (Nat.le_of_ble_eq_true rfl) ?_
      refine m_has (fun c2 => ?_) (fun c2 => ?_)
      · rw [if_neg (fun z => z (by omega))] at ehp
        refine vr_if_eq (t := 110) (q := 82) dX9_help_79 (by decide) rfl (fun c9 => absurd c9 (by omega)) (fun _ => ?_)
        refine vr_aload_n (q := 83) dX9_help_82 rfl rfl ?_
        refine vr_iload_n (q := 84) dX9_help_83 rfl rfl ?_
        refine vr_iload (q := 86) dX9_help_84 rfl rfl ?_
        refine vr_iload (q := 88) dX9_help_86 rfl rfl ?_
        -- at X9.help 88: .invokevirtual 212
        refine vr_iv3 (q := 91) dX9_help_88 rfl vX9_212 (Nat.le_of_ble_eq_true rfl) ?_
        refine m_helps c hs ha hb2 (fun m2 => ?_)
        refine vr_if_ne (t := 106) (q := 94) dX9_help_91 (by decide) rfl (fun c3 => ?_) (fun c3 => ?_)
        · rw [if_neg c3] at ehp
          refine vr_iconst (q := 107) dX9_help_106 rfl ⟨by decide, by decide⟩ ?_
          refine vr_goto (q := 111) dX9_help_107 (by decide) ?_
          -- at X9.help 111: .istore 8
          exact fin 1 m2 ehp
        · rw [if_pos (by omega)] at ehp
          refine vr_aload_n (q := 95) dX9_help_94 rfl rfl ?_
          refine vr_iload_n (q := 96) dX9_help_95 rfl rfl ?_
          refine vr_iload (q := 98) dX9_help_96 rfl rfl ?_
          refine vr_iload (q := 100) dX9_help_98 rfl rfl ?_
          -- at X9.help 100: .invokevirtual 212
          refine vr_iv3 (q := 103) dX9_help_100 rfl vX9_212 (Nat.le_of_ble_eq_true rfl) ?_
          refine m_helps c hs hb2 ha (fun m3 => ?_)
          refine vr_if_eq (t := 110) (q := 106) dX9_help_103 (by decide) rfl (fun c4 => ?_) (fun c4 => ?_)
          · rw [c4] at ehp
            refine vr_iconst (q := 111) dX9_help_110 rfl ⟨by decide, by decide⟩ ?_
            -- at X9.help 111: .istore 8
            exact fin 0 m3 ehp
          · rw [show bi_ (tf_ p) (en_ p s) b a = 1 by have := bi_01 (tf_ p) (en_ p s) b a; omega] at ehp
            refine vr_iconst (q := 107) dX9_help_106 rfl ⟨by decide, by decide⟩ ?_
            refine vr_goto (q := 111) dX9_help_107 (by decide) ?_
            -- at X9.help 111: .istore 8
            exact fin 1 m3 ehp
      · rw [if_pos (by omega)] at ehp
        refine vr_if_eq (t := 110) (q := 82) dX9_help_79 (by decide) rfl (fun _ => ?_) (fun c9 => absurd c9 (by omega))
        refine vr_iconst (q := 111) dX9_help_110 rfl ⟨by decide, by decide⟩ ?_
        -- at X9.help 111: .istore 8
        exact fin 0 m ehp
    · rw [if_pos (by omega)] at ehp
      refine vr_if_eq (t := 110) (q := 73) dX9_help_70 (by decide) rfl (fun _ => ?_) (fun c9 => absurd c9 (by omega))
      refine vr_iconst (q := 111) dX9_help_110 rfl ⟨by decide, by decide⟩ ?_
      -- at X9.help 111: .istore 8
      exact fin 0 m ehp
theorem lm_help1 {s w : Int} (c : cpl_ p h) (hs : 0 ≤ s ∧ s < p 7 3) : ∀ (k : Nat) (a : Int) (x : Int × Int) (o7 o8 : Option SV_) (m : MU_), 0 ≤ a → a + k = p 7 2 → hiv_ (6 * a) x → (∀ m, Post (some (sv_i (if w = 0 then (hr_ p s k a x).1 else (hr_ p s k a x).2))) (mw_ h m)) → V_ g (d + 4) mX9_help 36 [some (sv_r 4 8 68), some (sv_i s), some (sv_i w), some (sv_i (ut_ (p 7 2) (p 13 s))), some (sv_i x.1), some (sv_i x.2), some (sv_i a), o7, o8] [] (mw_ h m) Post := by
  intro k
  have o1 := c.1.1
  have e2 : ∀ m, mw_ h m 74 2 = p 7 2 := fun m => by rw [mw_n (by decide) (by decide)]; exact c.2.1.2.2.1
  induction k with
  | zero =>
    intro a x o7 o8 m ha hk hx kk
    have kk2 : ∀ m, Post (some (sv_i (if w = 0 then x.1 else x.2))) (mw_ h m) := kk
    refine vr_iload (q := 38) dX9_help_36 rfl rfl ?_
    refine vr_aload_n (q := 39) dX9_help_38 rfl rfl ?_
    refine vr_getR (q := 42) dX9_help_39 rfl fX9_25 rfl y_X9_13 (by first | (simp only [Int.reduceAdd]; rfl) | rfl) ?_
    refine vr_iconst (q := 43) dX9_help_42 rfl ⟨by decide, by decide⟩ ?_
    refine vr_ialdV (q := 44) dX9_help_43 rfl ⟨by omega, by omega⟩ (e2 m) ?_
    -- at X9.help 44: .if_icmp .ge 121
    refine vr_ic_ge (t := 165) (q := 47) dX9_help_44 (by decide) rfl (fun _ => ?_) (fun c9 => absurd c9 (by omega))
    refine vr_iload_n (q := 166) dX9_help_165 rfl rfl ?_
    refine vr_if_ne (t := 174) (q := 169) dX9_help_166 (by decide) rfl (fun c166 => ?_) (fun c166 => ?_)
    · refine vr_iload (q := 176) dX9_help_174 rfl rfl ?_
      refine vr_iret dX9_help_176 rfl ?_
      first | (rw [if_pos (by omega)] at kk2; exact kk2 m) | (rw [if_neg (by omega)] at kk2; exact kk2 m)
    · refine vr_iload (q := 171) dX9_help_169 rfl rfl ?_
      refine vr_goto (q := 176) dX9_help_171 (by decide) ?_
      refine vr_iret dX9_help_176 rfl ?_
      first | (rw [if_pos (by omega)] at kk2; exact kk2 m) | (rw [if_neg (by omega)] at kk2; exact kk2 m)
  | succ k ih =>
    intro a x o7 o8 m ha hk hx kk
    have e : hr_ p s (k + 1) a x = hr_ p s k (a + 1) (hq_ p s (p 7 2 - (a + 1)).toNat a (a + 1) x) := rfl
    rw [e] at kk
    obtain ⟨hx1, hx2⟩ := id hx
    have hx3 : hiv_ (6 * a + (a + 1)) x := ⟨⟨hx1.1, by omega⟩, hx2⟩
    have hq := hq_i p s a ha (p 7 2 - (a + 1)).toNat (a + 1) (6 * a) x (by omega) hx
    have hq2 : hiv_ (6 * (a + 1)) (hq_ p s (p 7 2 - (a + 1)).toNat a (a + 1) x) := ⟨⟨hq.1.1, by have := hq.1.2; omega⟩, hq.2⟩
    refine vr_iload (q := 38) dX9_help_36 rfl rfl ?_
    refine vr_aload_n (q := 39) dX9_help_38 rfl rfl ?_
    refine vr_getR (q := 42) dX9_help_39 rfl fX9_25 rfl y_X9_13 (by first | (simp only [Int.reduceAdd]; rfl) | rfl) ?_
    refine vr_iconst (q := 43) dX9_help_42 rfl ⟨by decide, by decide⟩ ?_
    refine vr_ialdV (q := 44) dX9_help_43 rfl ⟨by omega, by omega⟩ (e2 m) ?_
    -- at X9.help 44: .if_icmp .ge 121
    refine vr_ic_ge (t := 165) (q := 47) dX9_help_44 (by decide) rfl (fun c9 => absurd c9 (by omega)) (fun _ => ?_)
    refine vr_iload (q := 49) dX9_help_47 rfl rfl ?_
    refine vr_iconst (q := 50) dX9_help_49 rfl ⟨by decide, by decide⟩ ?_
    refine vr_iaddN (q := 51) dX9_help_50 rfl ⟨by omega, by omega⟩ ?_
    refine vr_istore (q := 53) dX9_help_51 rfl (Nat.le_of_ble_eq_true rfl) rfl rfl ?_
    -- at X9.help 53: .iload 7
    refine lm_help2 c hs ⟨ha, by omega⟩ (p 7 2 - (a + 1)).toNat (a + 1) x _ m (by omega) (by omega) hx3 (fun o8 m => ?_)
    refine vr_iinc (q := 162) dX9_help_159 rfl rfl ⟨by omega, by omega⟩ (Nat.le_of_ble_eq_true rfl) rfl rfl ?_
    refine vr_goto (q := 36) dX9_help_162 (by decide) ?_
    -- at X9.help 36: .iload 6
    exact ih (a + 1) _ _ _ m (by omega) (by omega) hq2 kk
theorem mx_help {s w : Int} (c : cpl_ p h) (k1 : ¬ ((0 ≤ s ∧ s < p 7 3) ∧ (0 ≤ w ∧ w ≤ 1)) → Post (some (sv_i (-1000001))) h) (k2 : ((0 ≤ s ∧ s < p 7 3) ∧ (0 ≤ w ∧ w ≤ 1)) → ∀ m, Post (some (sv_i (if w = 0 then (hr_ p s (p 7 2).toNat 0 (0, -1000000)).1 else (hr_ p s (p 7 2).toNat 0 (0, -1000000)).2))) (mw_ h m)) : Ctr_ g (d + 4) mX9_help [sv_r 4 8 68, sv_i s, sv_i w] h Post := by
  have o1 := c.1.1
  have r36 : ((0 ≤ s ∧ s < p 7 3) ∧ (0 ≤ w ∧ w ≤ 1)) → V_ g (d + 4) mX9_help 36 [some (sv_r 4 8 68), some (sv_i s), some (sv_i w), some (sv_i (ut_ (p 7 2) (p 13 s))), some (sv_i 0), some (sv_i (-1000000)), some (sv_i 0), none, none] [] h Post := by
    intro q
    have z := lm_help1 (g := g) (d := d) (w := w) c q.1 (p 7 2).toNat 0 (0, -1000000) none none (mm_ h) (Int.le_refl 0) (by omega) ⟨⟨Int.le_refl 0, by decide⟩, by decide⟩ (k2 q)
    rw [mw_id] at z
    exact z
  refine V_mk (by decide +kernel) (Or.inr (Or.inl ⟨rfl, rfl⟩)) (Nat.le_of_ble_eq_true rfl) (by simp [sv_c]) ?_
  show V_ _ _ _ 0 [_, _, _, _, _, _, _, _, _] [] _ _
  refine vr_aload_n (q := 1) dX9_help_0 rfl rfl ?_
  refine vr_iload_n (q := 2) dX9_help_1 rfl rfl ?_
  refine vr_iv1 (q := 5) dX9_help_2 rfl vX9_163 (Nat.le_of_ble_eq_true rfl) ?_
  refine m_isS c (fun c2 => ?_) (fun c2 => ?_)
  · refine vr_if_eq (t := 17) (q := 8) dX9_help_5 (by decide) rfl (fun c9 => absurd c9 (by omega)) (fun _ => ?_)
    refine vr_iload_n (q := 9) dX9_help_8 rfl rfl ?_
    refine vr_iconst (q := 10) dX9_help_9 rfl ⟨by decide, by decide⟩ ?_
    refine vr_iconst (q := 11) dX9_help_10 rfl ⟨by decide, by decide⟩ ?_
    refine vr_is3 (q := 14) dX9_help_11 rfl vX9_59 (Nat.le_of_ble_eq_true rfl) ?_
    refine m_in (fun c11 => ?_) (fun c11 => ?_)
    · refine vr_if_ne (t := 20) (q := 17) dX9_help_14 (by decide) rfl (fun _ => ?_) (fun c9 => absurd c9 (by omega))
      refine vr_aload_n (q := 21) dX9_help_20 rfl rfl ?_
      refine vr_iload_n (q := 22) dX9_help_21 rfl rfl ?_
      refine vr_iv1 (q := 25) dX9_help_22 rfl vX9_193 (Nat.le_of_ble_eq_true rfl) ?_
      refine m_ut c ⟨by omega, by omega⟩ ?_
      refine vr_istore_n (q := 26) dX9_help_25 rfl rfl (Nat.le_of_ble_eq_true rfl) rfl rfl ?_
      refine vr_iconst (q := 27) dX9_help_26 rfl ⟨by decide, by decide⟩ ?_
      refine vr_istore (q := 29) dX9_help_27 rfl (Nat.le_of_ble_eq_true rfl) rfl rfl ?_
      refine vr_ldc (x := -1000000) (q := 31) dX9_help_29 rfl ⟨by decide, by decide⟩ qX9_53 ?_
      refine vr_istore (q := 33) dX9_help_31 rfl (Nat.le_of_ble_eq_true rfl) rfl rfl ?_
      refine vr_iconst (q := 34) dX9_help_33 rfl ⟨by decide, by decide⟩ ?_
      refine vr_istore (q := 36) dX9_help_34 rfl (Nat.le_of_ble_eq_true rfl) rfl rfl ?_
      exact r36 (by omega)
    · refine vr_if_ne (t := 20) (q := 17) dX9_help_14 (by decide) rfl (fun c9 => absurd c9 (by omega)) (fun _ => ?_)
      refine vr_ldc (x := -1000001) (q := 19) dX9_help_17 rfl ⟨by decide, by decide⟩ qX9_67 ?_
      refine vr_iret dX9_help_19 rfl ?_
      exact k1 (by omega)
  · refine vr_if_eq (t := 17) (q := 8) dX9_help_5 (by decide) rfl (fun _ => ?_) (fun c9 => absurd c9 (by omega))
    refine vr_ldc (x := -1000001) (q := 19) dX9_help_17 rfl ⟨by decide, by decide⟩ qX9_67 ?_
    refine vr_iret dX9_help_19 rfl ?_
    exact k1 (by omega)
end PM14_
