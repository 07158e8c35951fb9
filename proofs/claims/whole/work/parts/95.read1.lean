/-! the reference's reader: tokens -/
def tpo_ (f : Int → Int) (n : Int) : Prop := (0 ≤ n ∧ n ≤ 120) ∧ ∀ i, 0 ≤ i → i < n → 0 ≤ f i ∧ f i ≤ 255
def rtp_ (f : Int → Int) (n : Int) (h : SH_) : Prop := h 73 = f ∧ h 68 6 = n
/-- the token at p: what it is, its value, the place behind it -/
def tkn_ (B : Int → Int) (p T V A : Int) : Prop :=
  if 48 ≤ B p ∧ B p ≤ 57 then (if 48 ≤ B (p + 1) ∧ B (p + 1) ≤ 57 then (if 48 ≤ B (p + 2) ∧ B (p + 2) ≤ 57 then T = 5 else T = 2 ∧ V = 10 * (B p - 48) + B (p + 1) - 48 ∧ A = p + 2) else T = 2 ∧ V = B p - 48 ∧ A = p + 1)
  else T = (if B p < 0 then 0 else if 97 ≤ B p ∧ B p ≤ 122 then 1 else if B p = 44 then 3 else if B p = 59 then 4 else 5) ∧ V = B p ∧ A = (if B p < 0 then p else p + 1)
theorem tkn_3 {B : Int → Int} {p T V A : Int} (t : tkn_ B p T V A) : (T = 3 ↔ B p = 44) ∧ (B p = 44 → A = p + 1) := by
  unfold tkn_ at t
  by_cases c0 : 48 ≤ B p ∧ B p ≤ 57
  · rw [if_pos c0] at t
    by_cases c1 : 48 ≤ B (p + 1) ∧ B (p + 1) ≤ 57
    · rw [if_pos c1] at t
      by_cases c2 : 48 ≤ B (p + 2) ∧ B (p + 2) ≤ 57
      · rw [if_pos c2] at t; omega
      · rw [if_neg c2] at t; omega
    · rw [if_neg c1] at t; omega
  · rw [if_neg c0] at t
    obtain ⟨t1, t2, t3⟩ := t
    by_cases d0 : B p < 0
    · rw [if_pos d0] at t1 t3; omega
    · rw [if_neg d0] at t1 t3
      by_cases d1 : 97 ≤ B p ∧ B p ≤ 122
      · rw [if_pos d1] at t1; omega
      · rw [if_neg d1] at t1
        by_cases d2 : B p = 44
        · rw [if_pos d2] at t1; omega
        · rw [if_neg d2] at t1
          by_cases d3 : B p = 59
          · rw [if_pos d3] at t1; omega
          · rw [if_neg d3] at t1; omega
theorem tkn_4 {B : Int → Int} {p T V A : Int} (t : tkn_ B p T V A) : (T = 4 ↔ B p = 59) ∧ (B p = 59 → A = p + 1) := by
  unfold tkn_ at t
  by_cases c0 : 48 ≤ B p ∧ B p ≤ 57
  · rw [if_pos c0] at t
    by_cases c1 : 48 ≤ B (p + 1) ∧ B (p + 1) ≤ 57
    · rw [if_pos c1] at t
      by_cases c2 : 48 ≤ B (p + 2) ∧ B (p + 2) ≤ 57
      · rw [if_pos c2] at t; omega
      · rw [if_neg c2] at t; omega
    · rw [if_neg c1] at t; omega
  · rw [if_neg c0] at t
    obtain ⟨t1, t2, t3⟩ := t
    by_cases d0 : B p < 0
    · rw [if_pos d0] at t1 t3; omega
    · rw [if_neg d0] at t1 t3
      by_cases d1 : 97 ≤ B p ∧ B p ≤ 122
      · rw [if_pos d1] at t1; omega
      · rw [if_neg d1] at t1
        by_cases d2 : B p = 44
        · rw [if_pos d2] at t1; omega
        · rw [if_neg d2] at t1
          by_cases d3 : B p = 59
          · rw [if_pos d3] at t1; omega
          · rw [if_neg d3] at t1; omega
theorem tkn_1 {B : Int → Int} {p T V A : Int} (t : tkn_ B p T V A) : (T = 1 ↔ 97 ≤ B p ∧ B p ≤ 122) ∧ (97 ≤ B p ∧ B p ≤ 122 → V = B p ∧ A = p + 1) ∧ (T = 0 ↔ B p < 0) := by
  unfold tkn_ at t
  by_cases c0 : 48 ≤ B p ∧ B p ≤ 57
  · rw [if_pos c0] at t
    by_cases c1 : 48 ≤ B (p + 1) ∧ B (p + 1) ≤ 57
    · rw [if_pos c1] at t
      by_cases c2 : 48 ≤ B (p + 2) ∧ B (p + 2) ≤ 57
      · rw [if_pos c2] at t; omega
      · rw [if_neg c2] at t; omega
    · rw [if_neg c1] at t; omega
  · rw [if_neg c0] at t
    obtain ⟨t1, t2, t3⟩ := t
    by_cases d0 : B p < 0
    · rw [if_pos d0] at t1 t3; omega
    · rw [if_neg d0] at t1 t3
      by_cases d1 : 97 ≤ B p ∧ B p ≤ 122
      · rw [if_pos d1] at t1; omega
      · rw [if_neg d1] at t1
        by_cases d2 : B p = 44
        · rw [if_pos d2] at t1; omega
        · rw [if_neg d2] at t1
          by_cases d3 : B p = 59
          · rw [if_pos d3] at t1; omega
          · rw [if_neg d3] at t1; omega
/-- nothing but place and token has changed -/
def adf_ (h hc : SH_) : Prop := (∀ a, a ≠ 68 → hc a = h a) ∧ ∀ b, ¬ (9 ≤ b ∧ b ≤ 12) → hc 68 b = h 68 b
theorem adf_r (h : SH_) : adf_ h h := ⟨fun _ _ => rfl, fun _ _ => rfl⟩
theorem adf_t {h h1 h2 : SH_} (a : adf_ h h1) (b : adf_ h1 h2) : adf_ h h2 := ⟨fun x hx => (b.1 x hx).trans (a.1 x hx), fun x hx => (b.2 x hx).trans (a.2 x hx)⟩
theorem adf_s {h hc : SH_} {b v : Int} (hb : 9 ≤ b ∧ b ≤ 12) (a : adf_ h hc) : adf_ h (hs_ hc 68 b v) := ⟨fun x hx => (hs_k hx).trans (a.1 x hx), fun x hx => (hs_n (by omega)).trans (a.2 x hx)⟩
theorem adf_p {f : Int → Int} {n : Int} {h hc : SH_} (a : adf_ h hc) (t : rtp_ f n h) : rtp_ f n hc := ⟨(a.1 73 (by decide)).trans t.1, (a.2 6 (by omega)).trans t.2⟩
/-- the token at p lies ready -/
def rwl_ (f : Int → Int) (n p : Int) (hc : SH_) : Prop := hc 68 10 = p ∧ (p ≤ hc 68 9 ∧ hc 68 9 ≤ n) ∧ tkn_ (bz_ f n) p (hc 68 11) (hc 68 12) (hc 68 9)
theorem bz_r {f : Int → Int} {n : Int} (o : tpo_ f n) (q : Int) : -1 ≤ bz_ f n q ∧ bz_ f n q ≤ 255 ∧ (0 ≤ bz_ f n q ↔ 0 ≤ q ∧ q < n) := by
  unfold bz_
  by_cases c : 0 ≤ q ∧ q < n
  · rw [if_pos c]
    have z := o.2 q c.1 c.2
    exact ⟨by omega, by omega, ⟨fun _ => c, fun _ => by omega⟩⟩
  · rw [if_neg c]
    exact ⟨by decide, by decide, ⟨fun z => absurd z (by decide), fun z => absurd z c⟩⟩
section PM23_
variable {g : SG_} {d : Nat} {h : SH_} {f : Int → Int} {n : Int} {Post : Option SV_ → SH_ → Prop}
theorem m_bA {k : Int} (t : rtp_ f n h) (o : tpo_ f n) (hk : 0 ≤ k) (kk : Post (some (sv_i (bz_ f n k))) h) : Ctr_ g d mX9_byteAt [sv_r 4 8 68, sv_i k] h Post := by
  unfold bz_ at kk
  refine m_byteAt (by rw [t.2]; exact o.1.2) hk (fun z => ?_) (fun z => ?_)
  · rw [t.2] at z
    rw [if_pos ⟨hk, z⟩] at kk
    rw [t.1]
    exact kk
  · rw [t.2] at z
    rw [if_neg (fun y => z y.2)] at kk
    exact kk
theorem lm_adv {p c1 : Int} (t : rtp_ f n h) (o : tpo_ f n) (hp : 0 ≤ p ∧ p ≤ n) (hf : 48 ≤ bz_ f n p ∧ bz_ f n p ≤ 57) (kk : ∀ hc, adf_ h hc → rwl_ f n p hc → Post none hc) : ∀ (N : Nat) (j : Int) (hc : SH_), (n - (p + j)).toNat < N → 0 ≤ j → p + j ≤ n → adf_ h hc → hc 68 10 = p → hc 68 9 = p + j → ((j = 0 ∧ hc 68 12 = 0) ∨ (j = 1 ∧ hc 68 12 = bz_ f n p - 48) ∨ (2 ≤ j ∧ hc 68 12 = 10 * (bz_ f n p - 48) + bz_ f n (p + 1) - 48)) → (∀ i, 0 ≤ i → i < j → 48 ≤ bz_ f n (p + i) ∧ bz_ f n (p + i) ≤ 57) → V_ g (d + 1) mX9_advances 38 [some (sv_r 4 8 68), some (sv_i c1)] [] hc Post := by
  intro N
  induction N with
  | zero => intro j hc hN; exact absurd hN (by omega)
  | succ N ih =>
    intro j hc hN hj hjn ha e10 e9 ev hfig
    have on := o.1
    have bj := bz_r o (p + j)
    have b1 := bz_r o (p + 1)
    have tc := adf_p ha t
    refine vr_aload_n (q := 39) dX9_advances_38 rfl rfl ?_
    refine vr_aload_n (q := 40) dX9_advances_39 rfl rfl ?_
    refine vr_getV (ji := 9) (q := 43) dX9_advances_40 rfl fX9_89 rfl rfl e9 ?_
    -- at X9.advances 43: .invokevirtual 95
    refine vr_iv1 (q := 46) dX9_advances_43 rfl vX9_95 (Nat.le_of_ble_eq_true rfl) ?_
    refine m_bA tc o (by omega) ?_
    refine vr_bipush (q := 48) dX9_advances_46 rfl ⟨by decide, by decide⟩ (by decide) ?_
    refine vr_bipush (q := 50) dX9_advances_48 rfl ⟨by decide, by decide⟩ (by decide) ?_
    -- at X9.advances 50: .invokestatic 59
    refine vr_is3 (q := 53) dX9_advances_50 rfl vX9_59 (Nat.le_of_ble_eq_true rfl) ?_
    refine m_in (fun c2 => ?_) (fun c2 => ?_)
    · have hpj : p + j < n := by omega
      have hfig2 : ∀ i, 0 ≤ i → i < j + 1 → 48 ≤ bz_ f n (p + i) ∧ bz_ f n (p + i) ≤ 57 := by
        intro i i0 i1
        by_cases e : i = j
        · rw [e]; exact c2
        · exact hfig i i0 (by omega)
      refine vr_if_eq (t := 112) (q := 56) dX9_advances_53 (by decide) rfl (fun c9 => absurd c9 (by omega)) (fun _ => ?_)
      refine vr_aload_n (q := 57) dX9_advances_56 rfl rfl ?_
      refine vr_aload_n (q := 58) dX9_advances_57 rfl rfl ?_
      refine vr_getV (ji := 9) (q := 61) dX9_advances_58 rfl fX9_89 rfl rfl e9 ?_
      refine vr_aload_n (q := 62) dX9_advances_61 rfl rfl ?_
      refine vr_getV (ji := 10) (q := 65) dX9_advances_62 rfl fX9_92 rfl rfl e10 ?_
      refine vr_isubN (q := 66) dX9_advances_65 rfl ⟨by omega, by omega⟩ ?_
      refine vr_iconst (q := 67) dX9_advances_66 rfl ⟨by decide, by decide⟩ ?_
      -- at X9.advances 67: .if_icmp .ge 25
      rcases ev with ⟨rfl, ev⟩ | ⟨rfl, ev⟩ | ⟨j2, ev⟩
      · refine vr_ic_ge (t := 92) (q := 70) dX9_advances_67 (by decide) rfl (fun c9 => absurd c9 (by omega)) (fun _ => ?_)
        refine vr_bipush (q := 72) dX9_advances_70 rfl ⟨by decide, by decide⟩ (by decide) ?_
        refine vr_aload_n (q := 73) dX9_advances_72 rfl rfl ?_
        refine vr_getV (ji := 12) (q := 76) dX9_advances_73 rfl fX9_98 rfl rfl ev ?_
        refine vr_imulN (q := 77) dX9_advances_76 rfl ⟨by omega, by omega⟩ ?_
        refine vr_aload_n (q := 78) dX9_advances_77 rfl rfl ?_
        refine vr_aload_n (q := 79) dX9_advances_78 rfl rfl ?_
        refine vr_getV (ji := 9) (q := 82) dX9_advances_79 rfl fX9_89 rfl rfl e9 ?_
        -- at X9.advances 82: .invokevirtual 95
        refine vr_iv1 (q := 85) dX9_advances_82 rfl vX9_95 (Nat.le_of_ble_eq_true rfl) ?_
        refine m_bA tc o (by omega) ?_
        rw [Int.add_zero p] at bj c2 ⊢
        refine vr_iaddN (q := 86) dX9_advances_85 rfl ⟨by omega, by omega⟩ ?_
        refine vr_bipush (q := 88) dX9_advances_86 rfl ⟨by decide, by decide⟩ (by decide) ?_
        refine vr_isubN (q := 89) dX9_advances_88 rfl ⟨by omega, by omega⟩ ?_
        refine vr_goto (q := 96) dX9_advances_89 (by decide) ?_
        refine vr_put (ji := 12) (q := 99) dX9_advances_96 rfl pX9_98 rfl rfl ?_
        refine vr_aload_n (q := 100) dX9_advances_99 rfl rfl ?_
        refine vr_dup (q := 101) dX9_advances_100 rfl rfl ?_
        refine vr_getV (ji := 9) (q := 104) dX9_advances_101 rfl fX9_89 rfl rfl (show _ = p + 0 by rw [hs_n (by omega)]; exact e9) ?_
        refine vr_iconst (q := 105) dX9_advances_104 rfl ⟨by decide, by decide⟩ ?_
        refine vr_iaddN (q := 106) dX9_advances_105 rfl ⟨by omega, by omega⟩ ?_
        refine vr_put (ji := 9) (q := 109) dX9_advances_106 rfl pX9_89 rfl rfl ?_
        refine vr_goto (q := 38) dX9_advances_109 (by decide) ?_
        -- at X9.advances 38: .aload_n 0
        refine ih (0 + 1) _ (by omega) (by decide) (by omega) (adf_s ⟨by decide, by decide⟩ (adf_s ⟨by decide, by decide⟩ ha)) ?_ ?_ (Or.inr (Or.inl ⟨rfl, ?_⟩)) hfig2
        · rw [hs_n (by omega), hs_n (by omega)]; exact e10
        · rw [hs_e]; omega
        · rw [hs_n (by omega), hs_e]; omega
      · refine vr_ic_ge (t := 92) (q := 70) dX9_advances_67 (by decide) rfl (fun c9 => absurd c9 (by omega)) (fun _ => ?_)
        refine vr_bipush (q := 72) dX9_advances_70 rfl ⟨by decide, by decide⟩ (by decide) ?_
        refine vr_aload_n (q := 73) dX9_advances_72 rfl rfl ?_
        refine vr_getV (ji := 12) (q := 76) dX9_advances_73 rfl fX9_98 rfl rfl ev ?_
        refine vr_imulN (q := 77) dX9_advances_76 rfl ⟨by omega, by omega⟩ ?_
        refine vr_aload_n (q := 78) dX9_advances_77 rfl rfl ?_
        refine vr_aload_n (q := 79) dX9_advances_78 rfl rfl ?_
        refine vr_getV (ji := 9) (q := 82) dX9_advances_79 rfl fX9_89 rfl rfl e9 ?_
        -- at X9.advances 82: .invokevirtual 95
        refine vr_iv1 (q := 85) dX9_advances_82 rfl vX9_95 (Nat.le_of_ble_eq_true rfl) ?_
        refine m_bA tc o (by omega) ?_
        refine vr_iaddN (q := 86) dX9_advances_85 rfl ⟨by omega, by omega⟩ ?_
        refine vr_bipush (q := 88) dX9_advances_86 rfl ⟨by decide, by decide⟩ (by decide) ?_
        refine vr_isubN (q := 89) dX9_advances_88 rfl ⟨by omega, by omega⟩ ?_
        refine vr_goto (q := 96) dX9_advances_89 (by decide) ?_
        refine vr_put (ji := 12) (q := 99) dX9_advances_96 rfl pX9_98 rfl rfl ?_
        refine vr_aload_n (q := 100) dX9_advances_99 rfl rfl ?_
        refine vr_dup (q := 101) dX9_advances_100 rfl rfl ?_
        refine vr_getV (ji := 9) (q := 104) dX9_advances_101 rfl fX9_89 rfl rfl (show _ = p + 1 by rw [hs_n (by omega)]; exact e9) ?_
        refine vr_iconst (q := 105) dX9_advances_104 rfl ⟨by decide, by decide⟩ ?_
        refine vr_iaddN (q := 106) dX9_advances_105 rfl ⟨by omega, by omega⟩ ?_
        refine vr_put (ji := 9) (q := 109) dX9_advances_106 rfl pX9_89 rfl rfl ?_
        refine vr_goto (q := 38) dX9_advances_109 (by decide) ?_
        -- at X9.advances 38: .aload_n 0
        refine ih (1 + 1) _ (by omega) (by decide) (by omega) (adf_s ⟨by decide, by decide⟩ (adf_s ⟨by decide, by decide⟩ ha)) ?_ ?_ (Or.inr (Or.inr ⟨by decide, ?_⟩)) hfig2
        · rw [hs_n (by omega), hs_n (by omega)]; exact e10
        · rw [hs_e]; omega
        · rw [hs_n (by omega), hs_e]
      · refine vr_ic_ge (t := 92) (q := 70) dX9_advances_67 (by decide) rfl (fun _ => ?_) (fun c9 => absurd c9 (by omega))
        refine vr_aload_n (q := 93) dX9_advances_92 rfl rfl ?_
        refine vr_getV (ji := 12) (q := 96) dX9_advances_93 rfl fX9_98 rfl rfl ev ?_
        refine vr_put (ji := 12) (q := 99) dX9_advances_96 rfl pX9_98 rfl rfl ?_
        refine vr_aload_n (q := 100) dX9_advances_99 rfl rfl ?_
        refine vr_dup (q := 101) dX9_advances_100 rfl rfl ?_
        refine vr_getV (ji := 9) (q := 104) dX9_advances_101 rfl fX9_89 rfl rfl (show _ = p + j by rw [hs_n (by omega)]; exact e9) ?_
        refine vr_iconst (q := 105) dX9_advances_104 rfl ⟨by decide, by decide⟩ ?_
        refine vr_iaddN (q := 106) dX9_advances_105 rfl ⟨by omega, by omega⟩ ?_
        refine vr_put (ji := 9) (q := 109) dX9_advances_106 rfl pX9_89 rfl rfl ?_
        refine vr_goto (q := 38) dX9_advances_109 (by decide) ?_
        -- at X9.advances 38: .aload_n 0
        refine ih (j + 1) _ (by omega) (by omega) (by omega) (adf_s ⟨by decide, by decide⟩ (adf_s ⟨by decide, by decide⟩ ha)) ?_ ?_ (Or.inr (Or.inr ⟨by omega, ?_⟩)) hfig2
        · rw [hs_n (by omega), hs_n (by omega)]; exact e10
        · rw [hs_e]; omega
        · rw [hs_n (by omega), hs_e]
    · have j1 : 1 ≤ j := by
        by_cases e : j = 0
        · rw [e, Int.add_zero p] at c2
          exact absurd hf c2
        · omega
      refine vr_if_eq (t := 112) (q := 56) dX9_advances_53 (by decide) rfl (fun _ => ?_) (fun c9 => absurd c9 (by omega))
      refine vr_aload_n (q := 113) dX9_advances_112 rfl rfl ?_
      refine vr_aload_n (q := 114) dX9_advances_113 rfl rfl ?_
      refine vr_getV (ji := 9) (q := 117) dX9_advances_114 rfl fX9_89 rfl rfl e9 ?_
      refine vr_aload_n (q := 118) dX9_advances_117 rfl rfl ?_
      refine vr_getV (ji := 10) (q := 121) dX9_advances_118 rfl fX9_92 rfl rfl e10 ?_
      refine vr_isubN (q := 122) dX9_advances_121 rfl ⟨by omega, by omega⟩ ?_
      refine vr_iconst (q := 123) dX9_advances_122 rfl ⟨by decide, by decide⟩ ?_
      -- at X9.advances 123: .if_icmp .ge 7
      refine vr_ic_ge (t := 130) (q := 126) dX9_advances_123 (by decide) rfl (fun c3 => ?_) (fun c3 => ?_)
      · have f1 := hfig 1 (by decide) (by omega)
        have f2 := hfig 2 (by decide) (by omega)
        refine vr_iconst (q := 131) dX9_advances_130 rfl ⟨by decide, by decide⟩ ?_
        refine vr_put (ji := 11) (q := 134) dX9_advances_131 rfl pX9_101 rfl rfl ?_
        -- at X9.advances 134: .return_
        refine vr_vret dX9_advances_134 rfl ?_
        refine kk _ (adf_s ⟨by decide, by decide⟩ ha) ⟨?_, ?_, ?_⟩
        · rw [hs_n (by omega)]; exact e10
        · rw [hs_n (by omega)]; omega
        · unfold tkn_
          rw [if_pos hf, if_pos f1, if_pos f2, hs_e]
      · refine vr_iconst (q := 127) dX9_advances_126 rfl ⟨by decide, by decide⟩ ?_
        refine vr_goto (q := 131) dX9_advances_127 (by decide) ?_
        refine vr_put (ji := 11) (q := 134) dX9_advances_131 rfl pX9_101 rfl rfl ?_
        -- at X9.advances 134: .return_
        refine vr_vret dX9_advances_134 rfl ?_
        refine kk _ (adf_s ⟨by decide, by decide⟩ ha) ⟨?_, ?_, ?_⟩
        · rw [hs_n (by omega)]; exact e10
        · rw [hs_n (by omega)]; omega
        · unfold tkn_
          rw [if_pos hf, hs_e, hs_n (by omega), hs_n (by omega)]
          rcases ev with ⟨e, ev⟩ | ⟨e, ev⟩ | ⟨j2, ev⟩
          · exact absurd e (by omega)
          · rw [e] at c2 e9
            rw [if_neg c2]
            exact ⟨rfl, ev, e9⟩
          · have e : j = 2 := by omega
            rw [e] at c2 e9
            rw [if_pos (hfig 1 (by decide) (by omega)), if_neg c2]
            exact ⟨rfl, ev, e9⟩
theorem m_advances {p : Int} (t : rtp_ f n h) (o : tpo_ f n) (hp : 0 ≤ p ∧ p ≤ n) (e9 : h 68 9 = p) (kk : ∀ hc, adf_ h hc → rwl_ f n p hc → Post none hc) : Ctr_ g (d + 1) mX9_advances [sv_r 4 8 68] h Post := by
  have on := o.1
  have bp := bz_r o p
  have a1 : adf_ h (hs_ h 68 10 p) := adf_s ⟨by decide, by decide⟩ (adf_r h)
  have a2 : adf_ h (hs_ (hs_ h 68 10 p) 68 12 (bz_ f n p)) := adf_s ⟨by decide, by decide⟩ a1
  have fin : ∀ T : Int, ¬ (48 ≤ bz_ f n p ∧ bz_ f n p ≤ 57) → T = (if bz_ f n p < 0 then 0 else if 97 ≤ bz_ f n p ∧ bz_ f n p ≤ 122 then 1 else if bz_ f n p = 44 then 3 else if bz_ f n p = 59 then 4 else 5) → V_ g (d + 1) mX9_advances 183 [some (sv_r 4 8 68), some (sv_i (bz_ f n p))] [] (hs_ (hs_ (hs_ h 68 10 p) 68 12 (bz_ f n p)) 68 11 T) Post := by
    intro T hnf hT
    have a3 : adf_ h (hs_ (hs_ (hs_ h 68 10 p) 68 12 (bz_ f n p)) 68 11 T) := adf_s ⟨by decide, by decide⟩ a2
    by_cases cb : bz_ f n p < 0
    · have e0 : T = 0 := by rw [if_pos cb] at hT; exact hT
      refine vr_aload_n (q := 184) dX9_advances_183 rfl rfl ?_
      refine vr_dup (q := 185) dX9_advances_184 rfl rfl ?_
      refine vr_getV (ji := 9) (q := 188) dX9_advances_185 rfl fX9_89 rfl rfl (show _ = p by rw [hs_n (by omega), hs_n (by omega), hs_n (by omega)]; exact e9) ?_
      refine vr_aload_n (q := 189) dX9_advances_188 rfl rfl ?_
      refine vr_getV (ji := 11) (q := 192) dX9_advances_189 rfl fX9_101 rfl rfl (hs_e _ _ _ _) ?_
      -- at X9.advances 192: .ifCond .ne 7
      refine vr_if_ne (t := 199) (q := 195) dX9_advances_192 (by decide) rfl (fun c9 => absurd c9 (by omega)) (fun _ => ?_)
      refine vr_iconst (q := 196) dX9_advances_195 rfl ⟨by decide, by decide⟩ ?_
      refine vr_goto (q := 200) dX9_advances_196 (by decide) ?_
      refine vr_iaddN (q := 201) dX9_advances_200 rfl ⟨by omega, by omega⟩ ?_
      refine vr_put (ji := 9) (q := 204) dX9_advances_201 rfl pX9_89 rfl rfl ?_
      -- at X9.advances 204: .return_
      refine vr_vret dX9_advances_204 rfl ?_
      refine kk _ (adf_s ⟨by decide, by decide⟩ a3) ⟨?_, ?_, ?_⟩
      · rw [hs_n (by omega), hs_n (by omega), hs_n (by omega), hs_e]
      · rw [hs_e]; omega
      · unfold tkn_
        rw [if_neg hnf, hs_e, hs_n (by omega), hs_e, hs_n (by omega), hs_n (by omega), hs_e, ← hT, if_pos cb]
        exact ⟨rfl, rfl, by omega⟩
    · have e0 : ¬ T = 0 := by
        rw [if_neg cb] at hT
        intro z
        rw [z] at hT
        split at hT
        · exact absurd hT (by decide)
        · split at hT
          · exact absurd hT (by decide)
          · split at hT
            · exact absurd hT (by decide)
            · exact absurd hT (by decide)
      refine vr_aload_n (q := 184) dX9_advances_183 rfl rfl ?_
      refine vr_dup (q := 185) dX9_advances_184 rfl rfl ?_
      refine vr_getV (ji := 9) (q := 188) dX9_advances_185 rfl fX9_89 rfl rfl (show _ = p by rw [hs_n (by omega), hs_n (by omega), hs_n (by omega)]; exact e9) ?_
      refine vr_aload_n (q := 189) dX9_advances_188 rfl rfl ?_
      refine vr_getV (ji := 11) (q := 192) dX9_advances_189 rfl fX9_101 rfl rfl (hs_e _ _ _ _) ?_
      -- at X9.advances 192: .ifCond .ne 7
      refine vr_if_ne (t := 199) (q := 195) dX9_advances_192 (by decide) rfl (fun _ => ?_) (fun c9 => absurd c9 (by omega))
      refine vr_iconst (q := 200) dX9_advances_199 rfl ⟨by decide, by decide⟩ ?_
      refine vr_iaddN (q := 201) dX9_advances_200 rfl ⟨by omega, by omega⟩ ?_
      refine vr_put (ji := 9) (q := 204) dX9_advances_201 rfl pX9_89 rfl rfl ?_
      -- at X9.advances 204: .return_
      refine vr_vret dX9_advances_204 rfl ?_
      refine kk _ (adf_s ⟨by decide, by decide⟩ a3) ⟨?_, ?_, ?_⟩
      · rw [hs_n (by omega), hs_n (by omega), hs_n (by omega), hs_e]
      · rw [hs_e]; omega
      · unfold tkn_
        rw [if_neg hnf, hs_e, hs_n (by omega), hs_e, hs_n (by omega), hs_n (by omega), hs_e, ← hT, if_neg cb]
        exact ⟨rfl, rfl, rfl⟩
  refine V_mk (by decide +kernel) (Or.inl ⟨rfl, rfl⟩) (Nat.le_of_ble_eq_true rfl) (by simp [sv_c]) ?_
  show V_ _ _ _ 0 [_, _] [] _ _
  refine vr_aload_n (q := 1) dX9_advances_0 rfl rfl ?_
  refine vr_aload_n (q := 2) dX9_advances_1 rfl rfl ?_
  refine vr_getV (ji := 9) (q := 5) dX9_advances_2 rfl fX9_89 rfl rfl e9 ?_
  refine vr_put (ji := 10) (q := 8) dX9_advances_5 rfl pX9_92 rfl rfl ?_
  refine vr_aload_n (q := 9) dX9_advances_8 rfl rfl ?_
  refine vr_aload_n (q := 10) dX9_advances_9 rfl rfl ?_
  refine vr_getV (ji := 9) (q := 13) dX9_advances_10 rfl fX9_89 rfl rfl (show _ = p by rw [hs_n (by omega)]; exact e9) ?_
  -- at X9.advances 13: .invokevirtual 95
  refine vr_iv1 (q := 16) dX9_advances_13 rfl vX9_95 (Nat.le_of_ble_eq_true rfl) ?_
  refine m_bA (adf_p a1 t) o hp.1 ?_
  refine vr_istore_n (q := 17) dX9_advances_16 rfl rfl (Nat.le_of_ble_eq_true rfl) rfl rfl ?_
  refine vr_aload_n (q := 18) dX9_advances_17 rfl rfl ?_
  refine vr_iload_n (q := 19) dX9_advances_18 rfl rfl ?_
  refine vr_put (ji := 12) (q := 22) dX9_advances_19 rfl pX9_98 rfl rfl ?_
  refine vr_iload_n (q := 23) dX9_advances_22 rfl rfl ?_
  refine vr_bipush (q := 25) dX9_advances_23 rfl ⟨by decide, by decide⟩ (by decide) ?_
  refine vr_bipush (q := 27) dX9_advances_25 rfl ⟨by decide, by decide⟩ (by decide) ?_
  -- at X9.advances 27: .invokestatic 59
  refine vr_is3 (q := 30) dX9_advances_27 rfl vX9_59 (Nat.le_of_ble_eq_true rfl) ?_
  refine m_in (fun c2 => ?_) (fun c2 => ?_)
  · refine vr_if_eq (t := 135) (q := 33) dX9_advances_30 (by decide) rfl (fun c9 => absurd c9 (by omega)) (fun _ => ?_)
    refine vr_aload_n (q := 34) dX9_advances_33 rfl rfl ?_
    refine vr_iconst (q := 35) dX9_advances_34 rfl ⟨by decide, by decide⟩ ?_
    refine vr_put (ji := 12) (q := 38) dX9_advances_35 rfl pX9_98 rfl rfl ?_
    -- at X9.advances 38: .aload_n 0
    refine lm_adv t o hp c2 kk _ 0 _ (Nat.lt_succ_self _) (Int.le_refl 0) (by omega) (adf_s ⟨by decide, by decide⟩ a2) ?_ ?_ (Or.inl ⟨rfl, hs_e _ _ _ _⟩) (fun i i0 i1 => absurd i1 (by omega))
    · rw [hs_n (by omega), hs_n (by omega), hs_e]
    · rw [hs_n (by omega), hs_n (by omega), hs_n (by omega)]; omega
  · refine vr_if_eq (t := 135) (q := 33) dX9_advances_30 (by decide) rfl (fun _ => ?_) (fun c9 => absurd c9 (by omega))
    refine vr_aload_n (q := 136) dX9_advances_135 rfl rfl ?_
    refine vr_iload_n (q := 137) dX9_advances_136 rfl rfl ?_
    refine vr_if_ge (t := 144) (q := 140) dX9_advances_137 (by decide) rfl (fun c137 => ?_) (fun c137 => ?_)
    · refine vr_iload_n (q := 145) dX9_advances_144 rfl rfl ?_
      refine vr_bipush (q := 147) dX9_advances_145 rfl ⟨by decide, by decide⟩ (by decide) ?_
      refine vr_bipush (q := 149) dX9_advances_147 rfl ⟨by decide, by decide⟩ (by decide) ?_
      refine vr_is3 (q := 152) dX9_advances_149 rfl vX9_59 (Nat.le_of_ble_eq_true rfl) ?_
      refine m_in (fun c149 => ?_) (fun c149 => ?_)
      · refine vr_if_eq (t := 159) (q := 155) dX9_advances_152 (by decide) rfl (fun c9 => absurd c9 (by omega)) (fun _ => ?_)
        refine vr_iconst (q := 156) dX9_advances_155 rfl ⟨by decide, by decide⟩ ?_
        refine vr_goto (q := 180) dX9_advances_156 (by decide) ?_
        refine vr_put (ji := 11) (q := 183) dX9_advances_180 rfl pX9_101 rfl rfl ?_
        exact fin _ c2 (by repeat (first | rfl | rw [if_pos (by omega)] | rw [if_neg (by omega)]))
      · refine vr_if_eq (t := 159) (q := 155) dX9_advances_152 (by decide) rfl (fun _ => ?_) (fun c9 => absurd c9 (by omega))
        refine vr_iload_n (q := 160) dX9_advances_159 rfl rfl ?_
        refine vr_bipush (q := 162) dX9_advances_160 rfl ⟨by decide, by decide⟩ (by decide) ?_
        refine vr_ic_ne (t := 169) (q := 165) dX9_advances_162 (by decide) rfl (fun c162 => ?_) (fun c162 => ?_)
        · refine vr_iload_n (q := 170) dX9_advances_169 rfl rfl ?_
          refine vr_bipush (q := 172) dX9_advances_170 rfl ⟨by decide, by decide⟩ (by decide) ?_
          refine vr_ic_ne (t := 179) (q := 175) dX9_advances_172 (by decide) rfl (fun c172 => ?_) (fun c172 => ?_)
          · refine vr_iconst (q := 180) dX9_advances_179 rfl ⟨by decide, by decide⟩ ?_
            refine vr_put (ji := 11) (q := 183) dX9_advances_180 rfl pX9_101 rfl rfl ?_
            exact fin _ c2 (by repeat (first | rfl | rw [if_pos (by omega)] | rw [if_neg (by omega)]))
          · refine vr_iconst (q := 176) dX9_advances_175 rfl ⟨by decide, by decide⟩ ?_
            refine vr_goto (q := 180) dX9_advances_176 (by decide) ?_
            refine vr_put (ji := 11) (q := 183) dX9_advances_180 rfl pX9_101 rfl rfl ?_
            exact fin _ c2 (by repeat (first | rfl | rw [if_pos (by omega)] | rw [if_neg (by omega)]))
        · refine vr_iconst (q := 166) dX9_advances_165 rfl ⟨by decide, by decide⟩ ?_
          refine vr_goto (q := 180) dX9_advances_166 (by decide) ?_
          refine vr_put (ji := 11) (q := 183) dX9_advances_180 rfl pX9_101 rfl rfl ?_
          exact fin _ c2 (by repeat (first | rfl | rw [if_pos (by omega)] | rw [if_neg (by omega)]))
    · refine vr_iconst (q := 141) dX9_advances_140 rfl ⟨by decide, by decide⟩ ?_
      refine vr_goto (q := 180) dX9_advances_141 (by decide) ?_
      refine vr_put (ji := 11) (q := 183) dX9_advances_180 rfl pX9_101 rfl rfl ?_
      exact fin _ c2 (by repeat (first | rfl | rw [if_pos (by omega)] | rw [if_neg (by omega)]))
end PM23_
