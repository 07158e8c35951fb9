/-! the reference's reader: numbers, lies, strangers -/
/-- a fault at q, of kind k, and nothing else but place and token has changed -/
def flt_ (h : SH_) (q k : Int) (hc : SH_) : Prop := (∀ a, a ≠ 68 → hc a = h a) ∧ (∀ b, ¬ (7 ≤ b ∧ b ≤ 12) → hc 68 b = h 68 b) ∧ hc 68 8 = q ∧ hc 68 7 = k
theorem flt_s {h hc : SH_} {q k : Int} (a : adf_ h hc) : flt_ h q k (hs_ (hs_ hc 68 8 q) 68 7 k) := ⟨fun x hx => by rw [hs_k hx, hs_k hx]; exact a.1 x hx, fun b hb => by rw [hs_n (by omega), hs_n (by omega)]; exact a.2 b (by omega), by rw [hs_n (by omega), hs_e], hs_e _ _ _ _⟩
theorem flt_a {h h1 hc : SH_} {q k : Int} (a : adf_ h h1) (b : flt_ h1 q k hc) : flt_ h q k hc := ⟨fun x hx => (b.1 x hx).trans (a.1 x hx), fun x hx => (b.2.1 x hx).trans (a.2 x (by omega)), b.2.2⟩
/-- a sort's letter, two numbers: what a lie's or a stranger's text says -/
noncomputable def r1_ (B : Int → Int) (p l1 h1 l2 h2 : Int) : Except (Int × Int) (Int × Int × Int) := match rn_ B (p + 1) l1 h1 with
  | .error e => .error e
  | .ok (w, p1) => if B p1 = 44 then (match rn_ B (p1 + 1) l2 h2 with
    | .error e => .error e
    | .ok (t, p3) => if B p3 = 59 then .ok (w, t, p3 + 1) else .error (p3, 1)) else .error (p1, 1)
theorem r1_e1 {B : Int → Int} {p l1 h1 l2 h2 : Int} {e : Int × Int} (z : rn_ B (p + 1) l1 h1 = .error e) : r1_ B p l1 h1 l2 h2 = .error e := by
  unfold r1_
  rw [z]
theorem r1_e2 {B : Int → Int} {p l1 h1 l2 h2 w p1 : Int} (z : rn_ B (p + 1) l1 h1 = .ok (w, p1)) (c : ¬ B p1 = 44) : r1_ B p l1 h1 l2 h2 = .error (p1, 1) := by
  unfold r1_
  rw [z]
  dsimp only
  rw [if_neg c]
theorem r1_e3 {B : Int → Int} {p l1 h1 l2 h2 w p1 : Int} {e : Int × Int} (z : rn_ B (p + 1) l1 h1 = .ok (w, p1)) (c : B p1 = 44) (y : rn_ B (p1 + 1) l2 h2 = .error e) : r1_ B p l1 h1 l2 h2 = .error e := by
  unfold r1_
  rw [z]
  dsimp only
  rw [if_pos c, y]
theorem r1_e4 {B : Int → Int} {p l1 h1 l2 h2 w p1 t p3 : Int} (z : rn_ B (p + 1) l1 h1 = .ok (w, p1)) (c : B p1 = 44) (y : rn_ B (p1 + 1) l2 h2 = .ok (t, p3)) (c2 : ¬ B p3 = 59) : r1_ B p l1 h1 l2 h2 = .error (p3, 1) := by
  unfold r1_
  rw [z]
  dsimp only
  rw [if_pos c, y]
  dsimp only
  rw [if_neg c2]
theorem r1_ok {B : Int → Int} {p l1 h1 l2 h2 w p1 t p3 : Int} (z : rn_ B (p + 1) l1 h1 = .ok (w, p1)) (c : B p1 = 44) (y : rn_ B (p1 + 1) l2 h2 = .ok (t, p3)) (c2 : B p3 = 59) : r1_ B p l1 h1 l2 h2 = .ok (w, t, p3 + 1) := by
  unfold r1_
  rw [z]
  dsimp only
  rw [if_pos c, y]
  dsimp only
  rw [if_pos c2]
section PM24_
variable {g : SG_} {d : Nat} {h : SH_} {f : Int → Int} {n : Int} {Post : Option SV_ → SH_ → Prop}
theorem m_takesT {k : Int} (t : rtp_ f n h) (o : tpo_ f n) (hw : h 68 8 < 0) (ha : 0 ≤ h 68 9 ∧ h 68 9 ≤ n) (kk : ∀ hc, adf_ h hc → rwl_ f n (h 68 9) hc → Post (some (sv_i (h 68 12))) hc) : Ctr_ g (d + 2) mX9_takes [sv_r 4 8 68, sv_i 1, sv_i k] h Post := by
  refine V_mk (by decide +kernel) (Or.inr (Or.inl ⟨rfl, rfl⟩)) (Nat.le_of_ble_eq_true rfl) (by simp [sv_c]) ?_
  show V_ _ _ _ 0 [_, _, _, _] [] _ _
  refine vr_aload_n (q := 1) dX9_takes_0 rfl rfl ?_
  -- at X9.takes 1: .invokevirtual 107
  refine vr_iv0 (q := 4) dX9_takes_1 rfl vX9_107 (Nat.le_of_ble_eq_true rfl) ?_
  refine m_isWell (fun _ => ?_) (fun z => absurd hw z)
  refine vr_if_ne (t := 9) (q := 7) dX9_takes_4 (by decide) rfl (fun _ => ?_) (fun c9 => absurd c9 (by omega))
  refine vr_iload_n (q := 10) dX9_takes_9 rfl rfl ?_
  refine vr_if_ne (t := 28) (q := 13) dX9_takes_10 (by decide) rfl (fun _ => ?_) (fun c9 => absurd c9 (by omega))
  refine vr_aload_n (q := 29) dX9_takes_28 rfl rfl ?_
  refine vr_getI (ji := 12) (q := 32) dX9_takes_29 rfl fX9_98 rfl rfl ?_
  refine vr_istore_n (q := 33) dX9_takes_32 rfl rfl (Nat.le_of_ble_eq_true rfl) rfl rfl ?_
  refine vr_aload_n (q := 34) dX9_takes_33 rfl rfl ?_
  refine vr_iv0 (q := 37) dX9_takes_34 rfl vX9_114 (Nat.le_of_ble_eq_true rfl) ?_
  refine m_advances t o ha rfl (fun hc a1 a2 => ?_)
  refine vr_iload_n (q := 38) dX9_takes_37 rfl rfl ?_
  refine vr_iret dX9_takes_38 rfl ?_
  exact kk hc a1 a2
theorem m_takesF {k : Int} (hw : h 68 8 < 0) (kk : Post (some (sv_i 0)) (hs_ (hs_ h 68 8 (h 68 10)) 68 7 k)) : Ctr_ g (d + 2) mX9_takes [sv_r 4 8 68, sv_i 0, sv_i k] h Post := by
  refine V_mk (by decide +kernel) (Or.inr (Or.inl ⟨rfl, rfl⟩)) (Nat.le_of_ble_eq_true rfl) (by simp [sv_c]) ?_
  show V_ _ _ _ 0 [_, _, _, _] [] _ _
  refine vr_aload_n (q := 1) dX9_takes_0 rfl rfl ?_
  -- at X9.takes 1: .invokevirtual 107
  refine vr_iv0 (q := 4) dX9_takes_1 rfl vX9_107 (Nat.le_of_ble_eq_true rfl) ?_
  refine m_isWell (fun _ => ?_) (fun z => absurd hw z)
  refine vr_if_ne (t := 9) (q := 7) dX9_takes_4 (by decide) rfl (fun _ => ?_) (fun c9 => absurd c9 (by omega))
  refine vr_iload_n (q := 10) dX9_takes_9 rfl rfl ?_
  refine vr_if_ne (t := 28) (q := 13) dX9_takes_10 (by decide) rfl (fun c9 => absurd c9 (by omega)) (fun _ => ?_)
  refine vr_aload_n (q := 14) dX9_takes_13 rfl rfl ?_
  refine vr_aload_n (q := 15) dX9_takes_14 rfl rfl ?_
  refine vr_getI (ji := 10) (q := 18) dX9_takes_15 rfl fX9_92 rfl rfl ?_
  refine vr_put (ji := 8) (q := 21) dX9_takes_18 rfl pX9_104 rfl rfl ?_
  refine vr_aload_n (q := 22) dX9_takes_21 rfl rfl ?_
  refine vr_iload_n (q := 23) dX9_takes_22 rfl rfl ?_
  refine vr_put (ji := 7) (q := 26) dX9_takes_23 rfl pX9_111 rfl rfl ?_
  refine vr_iconst (q := 27) dX9_takes_26 rfl ⟨by decide, by decide⟩ ?_
  refine vr_iret dX9_takes_27 rfl ?_
  exact kk
theorem m_takesX {b k : Int} (hw : ¬ h 68 8 < 0) (kk : Post (some (sv_i 0)) h) : Ctr_ g (d + 2) mX9_takes [sv_r 4 8 68, sv_i b, sv_i k] h Post := by
  refine V_mk (by decide +kernel) (Or.inr (Or.inl ⟨rfl, rfl⟩)) (Nat.le_of_ble_eq_true rfl) (by simp [sv_c]) ?_
  show V_ _ _ _ 0 [_, _, _, _] [] _ _
  refine vr_aload_n (q := 1) dX9_takes_0 rfl rfl ?_
  -- at X9.takes 1: .invokevirtual 107
  refine vr_iv0 (q := 4) dX9_takes_1 rfl vX9_107 (Nat.le_of_ble_eq_true rfl) ?_
  refine m_isWell (fun z => absurd z hw) (fun _ => ?_)
  refine vr_if_ne (t := 9) (q := 7) dX9_takes_4 (by decide) rfl (fun c9 => absurd c9 (by omega)) (fun _ => ?_)
  refine vr_iconst (q := 8) dX9_takes_7 rfl ⟨by decide, by decide⟩ ?_
  refine vr_iret dX9_takes_8 rfl ?_
  exact kk
theorem m_figureX {a b : Int} (hw : ¬ h 68 8 < 0) (kk : Post (some (sv_i 0)) h) : Ctr_ g (d + 3) mX9_figure [sv_r 4 8 68, sv_i a, sv_i b] h Post := by
  refine V_mk (by decide +kernel) (Or.inr (Or.inl ⟨rfl, rfl⟩)) (Nat.le_of_ble_eq_true rfl) (by simp [sv_c]) ?_
  show V_ _ _ _ 0 [_, _, _] [] _ _
  refine vr_aload_n (q := 1) dX9_figure_0 rfl rfl ?_
  -- at X9.figure 1: .invokevirtual 107
  refine vr_iv0 (q := 4) dX9_figure_1 rfl vX9_107 (Nat.le_of_ble_eq_true rfl) ?_
  refine m_isWell (fun z => absurd z hw) (fun _ => ?_)
  refine vr_if_eq (t := 22) (q := 7) dX9_figure_4 (by decide) rfl (fun _ => ?_) (fun c9 => absurd c9 (by omega))
  refine vr_aload_n (q := 23) dX9_figure_22 rfl rfl ?_
  refine vr_aload_n (q := 24) dX9_figure_23 rfl rfl ?_
  refine vr_getI (ji := 12) (q := 27) dX9_figure_24 rfl fX9_98 rfl rfl ?_
  refine vr_iload_n (q := 28) dX9_figure_27 rfl rfl ?_
  refine vr_iload_n (q := 29) dX9_figure_28 rfl rfl ?_
  refine vr_is3 (q := 32) dX9_figure_29 rfl vX9_59 (Nat.le_of_ble_eq_true rfl) ?_
  refine m_in (fun c29 => ?_) (fun c29 => ?_)
  · refine vr_iconst (q := 33) dX9_figure_32 rfl ⟨by decide, by decide⟩ ?_
    refine vr_iv2 (q := 36) dX9_figure_33 rfl vX9_117 (Nat.le_of_ble_eq_true rfl) ?_
    refine m_takesX hw ?_
    refine vr_iret dX9_figure_36 rfl ?_
    exact kk
  · refine vr_iconst (q := 33) dX9_figure_32 rfl ⟨by decide, by decide⟩ ?_
    refine vr_iv2 (q := 36) dX9_figure_33 rfl vX9_117 (Nat.le_of_ble_eq_true rfl) ?_
    refine m_takesX hw ?_
    refine vr_iret dX9_figure_36 rfl ?_
    exact kk
theorem m_figure {p lo hi : Int} (t : rtp_ f n h) (o : tpo_ f n) (hw : h 68 8 < 0) (w : rwl_ f n p h) (hp : 0 ≤ p ∧ p ≤ n) (ko : ∀ v q hc, rn_ (bz_ f n) p lo hi = .ok (v, q) → adf_ h hc → rwl_ f n q hc → Post (some (sv_i v)) hc) (ke : ∀ q k hc, rn_ (bz_ f n) p lo hi = .error (q, k) → flt_ h q k hc → Post (some (sv_i 0)) hc) : Ctr_ g (d + 3) mX9_figure [sv_r 4 8 68, sv_i lo, sv_i hi] h Post := by
  obtain ⟨w1, w2, w3⟩ := w
  have ge1 : ∀ k, rn_ (bz_ f n) p lo hi = .error (p, k) → Post (some (sv_i 0)) (hs_ (hs_ h 68 8 (h 68 10)) 68 7 k) := fun k z => ke p k _ z (by rw [w1]; exact flt_s (adf_r h))
  have num : h 68 11 = 2 → (∀ hc, (lo ≤ h 68 12 ∧ h 68 12 ≤ hi) → adf_ h hc → rwl_ f n (h 68 9) hc → Post (some (sv_i (h 68 12))) hc) → (¬ (lo ≤ h 68 12 ∧ h 68 12 ≤ hi) → Post (some (sv_i 0)) (hs_ (hs_ h 68 8 (h 68 10)) 68 7 2)) → Ctr_ g (d + 3) mX9_figure [sv_r 4 8 68, sv_i lo, sv_i hi] h Post := by
    intro e2 k1 k2
    refine V_mk (by decide +kernel) (Or.inr (Or.inl ⟨rfl, rfl⟩)) (Nat.le_of_ble_eq_true rfl) (by simp [sv_c]) ?_
    show V_ _ _ _ 0 [_, _, _] [] _ _
    refine vr_aload_n (q := 1) dX9_figure_0 rfl rfl ?_
    -- at X9.figure 1: .invokevirtual 107
    refine vr_iv0 (q := 4) dX9_figure_1 rfl vX9_107 (Nat.le_of_ble_eq_true rfl) ?_
    refine m_isWell (fun _ => ?_) (fun z => absurd hw z)
    refine vr_if_eq (t := 22) (q := 7) dX9_figure_4 (by decide) rfl (fun c9 => absurd c9 (by omega)) (fun _ => ?_)
    refine vr_aload_n (q := 8) dX9_figure_7 rfl rfl ?_
    refine vr_getV (ji := 11) (q := 11) dX9_figure_8 rfl fX9_101 rfl rfl e2 ?_
    refine vr_iconst (q := 12) dX9_figure_11 rfl ⟨by decide, by decide⟩ ?_
    -- at X9.figure 12: .if_icmp .eq 10
    refine vr_ic_eq (t := 22) (q := 15) dX9_figure_12 (by decide) rfl (fun _ => ?_) (fun c9 => absurd c9 (by omega))
    refine vr_aload_n (q := 23) dX9_figure_22 rfl rfl ?_
    refine vr_aload_n (q := 24) dX9_figure_23 rfl rfl ?_
    refine vr_getI (ji := 12) (q := 27) dX9_figure_24 rfl fX9_98 rfl rfl ?_
    refine vr_iload_n (q := 28) dX9_figure_27 rfl rfl ?_
    refine vr_iload_n (q := 29) dX9_figure_28 rfl rfl ?_
    -- at X9.figure 29: .invokestatic 59
    refine vr_is3 (q := 32) dX9_figure_29 rfl vX9_59 (Nat.le_of_ble_eq_true rfl) ?_
    refine m_in (fun c1 => ?_) (fun c1 => ?_)
    · refine vr_iconst (q := 33) dX9_figure_32 rfl ⟨by decide, by decide⟩ ?_
      refine vr_iv2 (q := 36) dX9_figure_33 rfl vX9_117 (Nat.le_of_ble_eq_true rfl) ?_
      refine m_takesT t o hw ⟨by omega, w2.2⟩ (fun hc a1 a2 => ?_)
      refine vr_iret dX9_figure_36 rfl ?_
      exact k1 hc c1 a1 a2
    · refine vr_iconst (q := 33) dX9_figure_32 rfl ⟨by decide, by decide⟩ ?_
      refine vr_iv2 (q := 36) dX9_figure_33 rfl vX9_117 (Nat.le_of_ble_eq_true rfl) ?_
      refine m_takesF hw ?_
      refine vr_iret dX9_figure_36 rfl ?_
      exact k2 c1
  have non : ¬ h 68 11 = 2 → Post (some (sv_i 0)) (hs_ (hs_ h 68 8 (h 68 10)) 68 7 1) → Ctr_ g (d + 3) mX9_figure [sv_r 4 8 68, sv_i lo, sv_i hi] h Post := by
    intro e2 k1
    refine V_mk (by decide +kernel) (Or.inr (Or.inl ⟨rfl, rfl⟩)) (Nat.le_of_ble_eq_true rfl) (by simp [sv_c]) ?_
    show V_ _ _ _ 0 [_, _, _] [] _ _
    refine vr_aload_n (q := 1) dX9_figure_0 rfl rfl ?_
    -- at X9.figure 1: .invokevirtual 107
    refine vr_iv0 (q := 4) dX9_figure_1 rfl vX9_107 (Nat.le_of_ble_eq_true rfl) ?_
    refine m_isWell (fun _ => ?_) (fun z => absurd hw z)
    refine vr_if_eq (t := 22) (q := 7) dX9_figure_4 (by decide) rfl (fun c9 => absurd c9 (by omega)) (fun _ => ?_)
    refine vr_aload_n (q := 8) dX9_figure_7 rfl rfl ?_
    refine vr_getI (ji := 11) (q := 11) dX9_figure_8 rfl fX9_101 rfl rfl ?_
    refine vr_iconst (q := 12) dX9_figure_11 rfl ⟨by decide, by decide⟩ ?_
    -- at X9.figure 12: .if_icmp .eq 10
    refine vr_ic_eq (t := 22) (q := 15) dX9_figure_12 (by decide) rfl (fun c9 => absurd c9 (by omega)) (fun _ => ?_)
    refine vr_aload_n (q := 16) dX9_figure_15 rfl rfl ?_
    refine vr_iconst (q := 17) dX9_figure_16 rfl ⟨by decide, by decide⟩ ?_
    refine vr_iconst (q := 18) dX9_figure_17 rfl ⟨by decide, by decide⟩ ?_
    refine vr_iv2 (q := 21) dX9_figure_18 rfl vX9_117 (Nat.le_of_ble_eq_true rfl) ?_
    refine m_takesF hw ?_
    refine vr_iret dX9_figure_21 rfl ?_
    exact k1
  unfold tkn_ at w3
  unfold rn_ at ko ge1
  by_cases c0 : 48 ≤ bz_ f n p ∧ bz_ f n p ≤ 57
  · rw [if_pos c0] at w3
    rw [if_neg (fun z => z c0)] at ko ge1
    by_cases c1 : 48 ≤ bz_ f n (p + 1) ∧ bz_ f n (p + 1) ≤ 57
    · rw [if_pos c1] at w3
      rw [if_neg (fun z => z c1)] at ko ge1
      by_cases c2 : 48 ≤ bz_ f n (p + 2) ∧ bz_ f n (p + 2) ≤ 57
      · rw [if_pos c2] at w3
        rw [if_neg (fun z => z c2)] at ge1
        exact non (by omega) (ge1 1 rfl)
      · rw [if_neg c2] at w3
        rw [if_pos c2] at ko ge1
        refine num w3.1 (fun hc q a1 a2 => ?_) (fun q => ?_)
        · rw [if_neg (by omega)] at ko
          rw [w3.2.1]
          exact ko _ _ hc rfl a1 (by rw [← w3.2.2]; exact a2)
        · rw [if_pos (by omega)] at ge1
          exact ge1 2 rfl
    · rw [if_neg c1] at w3
      rw [if_pos c1] at ko ge1
      refine num w3.1 (fun hc q a1 a2 => ?_) (fun q => ?_)
      · rw [if_neg (by omega)] at ko
        rw [w3.2.1]
        exact ko _ _ hc rfl a1 (by rw [← w3.2.2]; exact a2)
      · rw [if_pos (by omega)] at ge1
        exact ge1 2 rfl
  · rw [if_neg c0] at w3
    rw [if_pos c0] at ge1
    refine non ?_ (ge1 1 rfl)
    intro z
    have w4 := w3.1
    rw [z] at w4
    repeat' (split at w4)
    all_goals exact absurd w4 (by decide)
theorem m_nextX {a b : Int} (hw : ¬ h 68 8 < 0) (kk : Post (some (sv_i 0)) h) : Ctr_ g (d + 4) mX9_next [sv_r 4 8 68, sv_i a, sv_i b] h Post := by
  refine V_mk (by decide +kernel) (Or.inr (Or.inl ⟨rfl, rfl⟩)) (Nat.le_of_ble_eq_true rfl) (by simp [sv_c]) ?_
  show V_ _ _ _ 0 [_, _, _] [] _ _
  refine vr_aload_n (q := 1) dX9_next_0 rfl rfl ?_
  refine vr_aload_n (q := 2) dX9_next_1 rfl rfl ?_
  refine vr_getI (ji := 11) (q := 5) dX9_next_2 rfl fX9_101 rfl rfl ?_
  refine vr_iconst (q := 6) dX9_next_5 rfl ⟨by decide, by decide⟩ ?_
  refine vr_ic_ne (t := 13) (q := 9) dX9_next_6 (by decide) rfl (fun c6 => ?_) (fun c6 => ?_)
  · refine vr_iconst (q := 14) dX9_next_13 rfl ⟨by decide, by decide⟩ ?_
    refine vr_iconst (q := 15) dX9_next_14 rfl ⟨by decide, by decide⟩ ?_
    refine vr_iv2 (q := 18) dX9_next_15 rfl vX9_117 (Nat.le_of_ble_eq_true rfl) ?_
    refine m_takesX hw ?_
    refine vr_pop (q := 19) dX9_next_18 rfl rfl ?_
    refine vr_aload_n (q := 20) dX9_next_19 rfl rfl ?_
    refine vr_iload_n (q := 21) dX9_next_20 rfl rfl ?_
    refine vr_iload_n (q := 22) dX9_next_21 rfl rfl ?_
    refine vr_iv2 (q := 25) dX9_next_22 rfl vX9_121 (Nat.le_of_ble_eq_true rfl) ?_
    refine m_figureX hw ?_
    refine vr_iret dX9_next_25 rfl ?_
    exact kk
  · refine vr_iconst (q := 10) dX9_next_9 rfl ⟨by decide, by decide⟩ ?_
    refine vr_goto (q := 14) dX9_next_10 (by decide) ?_
    refine vr_iconst (q := 15) dX9_next_14 rfl ⟨by decide, by decide⟩ ?_
    refine vr_iv2 (q := 18) dX9_next_15 rfl vX9_117 (Nat.le_of_ble_eq_true rfl) ?_
    refine m_takesX hw ?_
    refine vr_pop (q := 19) dX9_next_18 rfl rfl ?_
    refine vr_aload_n (q := 20) dX9_next_19 rfl rfl ?_
    refine vr_iload_n (q := 21) dX9_next_20 rfl rfl ?_
    refine vr_iload_n (q := 22) dX9_next_21 rfl rfl ?_
    refine vr_iv2 (q := 25) dX9_next_22 rfl vX9_121 (Nat.le_of_ble_eq_true rfl) ?_
    refine m_figureX hw ?_
    refine vr_iret dX9_next_25 rfl ?_
    exact kk
theorem m_next {p lo hi : Int} (t : rtp_ f n h) (o : tpo_ f n) (hw : h 68 8 < 0) (w : rwl_ f n p h) (hp : 0 ≤ p ∧ p ≤ n) (ko : ∀ v q hc, bz_ f n p = 44 → rn_ (bz_ f n) (p + 1) lo hi = .ok (v, q) → adf_ h hc → rwl_ f n q hc → Post (some (sv_i v)) hc) (ke : ∀ q k hc, bz_ f n p = 44 → rn_ (bz_ f n) (p + 1) lo hi = .error (q, k) → flt_ h q k hc → Post (some (sv_i 0)) hc) (kn : ∀ hc, ¬ bz_ f n p = 44 → flt_ h p 1 hc → Post (some (sv_i 0)) hc) : Ctr_ g (d + 4) mX9_next [sv_r 4 8 68, sv_i lo, sv_i hi] h Post := by
  have t3 := tkn_3 w.2.2
  have on := o.1
  by_cases c : bz_ f n p = 44
  · have e9 := t3.2 c
    have hpn := ((bz_r o p).2.2.mp (by omega)).2
    refine V_mk (by decide +kernel) (Or.inr (Or.inl ⟨rfl, rfl⟩)) (Nat.le_of_ble_eq_true rfl) (by simp [sv_c]) ?_
    show V_ _ _ _ 0 [_, _, _] [] _ _
    refine vr_aload_n (q := 1) dX9_next_0 rfl rfl ?_
    refine vr_aload_n (q := 2) dX9_next_1 rfl rfl ?_
    refine vr_getV (ji := 11) (q := 5) dX9_next_2 rfl fX9_101 rfl rfl (t3.1.mpr c) ?_
    refine vr_iconst (q := 6) dX9_next_5 rfl ⟨by decide, by decide⟩ ?_
    -- at X9.next 6: .if_icmp .ne 7
    refine vr_ic_ne (t := 13) (q := 9) dX9_next_6 (by decide) rfl (fun c9 => absurd c9 (by omega)) (fun _ => ?_)
    refine vr_iconst (q := 10) dX9_next_9 rfl ⟨by decide, by decide⟩ ?_
    refine vr_goto (q := 14) dX9_next_10 (by decide) ?_
    refine vr_iconst (q := 15) dX9_next_14 rfl ⟨by decide, by decide⟩ ?_
    -- at X9.next 15: .invokevirtual 117
    refine vr_iv2 (q := 18) dX9_next_15 rfl vX9_117 (Nat.le_of_ble_eq_true rfl) ?_
    refine m_takesT t o hw ⟨by omega, w.2.1.2⟩ (fun h1 a1 a2 => ?_)
    rw [e9] at a2
    refine vr_pop (q := 19) dX9_next_18 rfl rfl ?_
    refine vr_aload_n (q := 20) dX9_next_19 rfl rfl ?_
    refine vr_iload_n (q := 21) dX9_next_20 rfl rfl ?_
    refine vr_iload_n (q := 22) dX9_next_21 rfl rfl ?_
    -- at X9.next 22: .invokevirtual 121
    refine vr_iv2 (q := 25) dX9_next_22 rfl vX9_121 (Nat.le_of_ble_eq_true rfl) ?_
    refine m_figure (adf_p a1 t) o (by rw [a1.2 8 (by omega)]; exact hw) a2 ⟨by omega, by omega⟩ (fun v q hc z b1 b2 => ?_) (fun q k hc z b1 => ?_)
    · refine vr_iret dX9_next_25 rfl ?_
      exact ko v q hc c z (adf_t a1 b1) b2
    · refine vr_iret dX9_next_25 rfl ?_
      exact ke q k hc c z (flt_a a1 b1)
  · have e11 : ¬ h 68 11 = 3 := fun z => c (t3.1.mp z)
    refine V_mk (by decide +kernel) (Or.inr (Or.inl ⟨rfl, rfl⟩)) (Nat.le_of_ble_eq_true rfl) (by simp [sv_c]) ?_
    show V_ _ _ _ 0 [_, _, _] [] _ _
    refine vr_aload_n (q := 1) dX9_next_0 rfl rfl ?_
    refine vr_aload_n (q := 2) dX9_next_1 rfl rfl ?_
    refine vr_getI (ji := 11) (q := 5) dX9_next_2 rfl fX9_101 rfl rfl ?_
    refine vr_iconst (q := 6) dX9_next_5 rfl ⟨by decide, by decide⟩ ?_
    -- at X9.next 6: .if_icmp .ne 7
    refine vr_ic_ne (t := 13) (q := 9) dX9_next_6 (by decide) rfl (fun _ => ?_) (fun c9 => absurd c9 (by omega))
    refine vr_iconst (q := 14) dX9_next_13 rfl ⟨by decide, by decide⟩ ?_
    refine vr_iconst (q := 15) dX9_next_14 rfl ⟨by decide, by decide⟩ ?_
    -- at X9.next 15: .invokevirtual 117
    refine vr_iv2 (q := 18) dX9_next_15 rfl vX9_117 (Nat.le_of_ble_eq_true rfl) ?_
    refine m_takesF hw ?_
    rw [w.1]
    have z := flt_s (q := p) (k := 1) (adf_r h)
    refine vr_pop (q := 19) dX9_next_18 rfl rfl ?_
    refine vr_aload_n (q := 20) dX9_next_19 rfl rfl ?_
    refine vr_iload_n (q := 21) dX9_next_20 rfl rfl ?_
    refine vr_iload_n (q := 22) dX9_next_21 rfl rfl ?_
    -- at X9.next 22: .invokevirtual 121
    refine vr_iv2 (q := 25) dX9_next_22 rfl vX9_121 (Nat.le_of_ble_eq_true rfl) ?_
    refine m_figureX (by rw [z.2.2.1]; omega) ?_
    refine vr_iret dX9_next_25 rfl ?_
    exact kn _ c z
theorem m_kindOf {x : Int} (kk : Post (some (sv_i (kl_ x))) h) : Ctr_ g d mX9_kindOf [sv_i x] h Post := by
  unfold kl_ at kk
  refine V_mk (by decide +kernel) (Or.inr (Or.inl ⟨rfl, rfl⟩)) (Nat.le_of_ble_eq_true rfl) (by simp [sv_c]) ?_
  show V_ _ _ _ 0 [_] [] _ _
  refine vr_iload_n (q := 1) dX9_kindOf_0 rfl rfl ?_
  refine vr_bipush (q := 3) dX9_kindOf_1 rfl ⟨by decide, by decide⟩ (by decide) ?_
  refine vr_ic_ne (t := 10) (q := 6) dX9_kindOf_3 (by decide) rfl (fun c3 => ?_) (fun c3 => ?_)
  · refine vr_iload_n (q := 11) dX9_kindOf_10 rfl rfl ?_
    refine vr_bipush (q := 13) dX9_kindOf_11 rfl ⟨by decide, by decide⟩ (by decide) ?_
    refine vr_ic_ne (t := 20) (q := 16) dX9_kindOf_13 (by decide) rfl (fun c13 => ?_) (fun c13 => ?_)
    · refine vr_iload_n (q := 21) dX9_kindOf_20 rfl rfl ?_
      refine vr_bipush (q := 23) dX9_kindOf_21 rfl ⟨by decide, by decide⟩ (by decide) ?_
      refine vr_ic_ne (t := 30) (q := 26) dX9_kindOf_23 (by decide) rfl (fun c23 => ?_) (fun c23 => ?_)
      · refine vr_iload_n (q := 31) dX9_kindOf_30 rfl rfl ?_
        refine vr_bipush (q := 33) dX9_kindOf_31 rfl ⟨by decide, by decide⟩ (by decide) ?_
        refine vr_ic_ne (t := 40) (q := 36) dX9_kindOf_33 (by decide) rfl (fun c33 => ?_) (fun c33 => ?_)
        · refine vr_iload_n (q := 41) dX9_kindOf_40 rfl rfl ?_
          refine vr_bipush (q := 43) dX9_kindOf_41 rfl ⟨by decide, by decide⟩ (by decide) ?_
          refine vr_ic_ne (t := 50) (q := 46) dX9_kindOf_43 (by decide) rfl (fun c43 => ?_) (fun c43 => ?_)
          · refine vr_iconst (q := 51) dX9_kindOf_50 rfl ⟨by decide, by decide⟩ ?_
            refine vr_iret dX9_kindOf_51 rfl ?_
            first | exact kk | (exfalso; omega) | (repeat (first | exact kk | rw [if_pos (by omega)] at kk | rw [if_neg (by omega)] at kk))
          · refine vr_iconst (q := 47) dX9_kindOf_46 rfl ⟨by decide, by decide⟩ ?_
            refine vr_goto (q := 51) dX9_kindOf_47 (by decide) ?_
            refine vr_iret dX9_kindOf_51 rfl ?_
            first | exact kk | (exfalso; omega) | (repeat (first | exact kk | rw [if_pos (by omega)] at kk | rw [if_neg (by omega)] at kk))
        · refine vr_iconst (q := 37) dX9_kindOf_36 rfl ⟨by decide, by decide⟩ ?_
          refine vr_goto (q := 51) dX9_kindOf_37 (by decide) ?_
          refine vr_iret dX9_kindOf_51 rfl ?_
          first | exact kk | (exfalso; omega) | (repeat (first | exact kk | rw [if_pos (by omega)] at kk | rw [if_neg (by omega)] at kk))
      · refine vr_iconst (q := 27) dX9_kindOf_26 rfl ⟨by decide, by decide⟩ ?_
        refine vr_goto (q := 51) dX9_kindOf_27 (by decide) ?_
        refine vr_iret dX9_kindOf_51 rfl ?_
        first | exact kk | (exfalso; omega) | (repeat (first | exact kk | rw [if_pos (by omega)] at kk | rw [if_neg (by omega)] at kk))
    · refine vr_iconst (q := 17) dX9_kindOf_16 rfl ⟨by decide, by decide⟩ ?_
      refine vr_goto (q := 51) dX9_kindOf_17 (by decide) ?_
      refine vr_iret dX9_kindOf_51 rfl ?_
      first | exact kk | (exfalso; omega) | (repeat (first | exact kk | rw [if_pos (by omega)] at kk | rw [if_neg (by omega)] at kk))
  · refine vr_iconst (q := 7) dX9_kindOf_6 rfl ⟨by decide, by decide⟩ ?_
    refine vr_goto (q := 51) dX9_kindOf_7 (by decide) ?_
    refine vr_iret dX9_kindOf_51 rfl ?_
    first | exact kk | (exfalso; omega) | (repeat (first | exact kk | rw [if_pos (by omega)] at kk | rw [if_neg (by omega)] at kk))
theorem kl_l {x : Int} (h : ¬ kl_ x = 0) : 97 ≤ x ∧ x ≤ 122 ∧ ¬ x = 115 := by
  unfold kl_ at h
  by_cases c1 : x = 101
  · omega
  · rw [if_neg c1] at h
    by_cases c2 : x = 97
    · omega
    · rw [if_neg c2] at h
      by_cases c3 : x = 104
      · omega
      · rw [if_neg c3] at h
        by_cases c4 : x = 112
        · omega
        · rw [if_neg c4] at h
          by_cases c5 : x = 108
          · omega
          · rw [if_neg c5] at h
            exact absurd rfl h
theorem m_readsLie {p L : Int} (t : rtp_ f n h) (o : tpo_ f n) (hw : h 68 8 < 0) (w : rwl_ f n p h) (hp : 0 ≤ p ∧ p ≤ n) (hk : ¬ kl_ (bz_ f n p) = 0) (eL : h 75 2 = L) (hL : 0 ≤ L ∧ L ≤ 6) (k3 : L = 6 → ∀ hc, flt_ h p 3 hc → Post none hc) (ko : L < 6 → ∀ a b q hc, r1_ (bz_ f n) p 1 20 0 3 = .ok (a, b, q) → adf_ h hc → rwl_ f n q hc → Post none (hs_ (hs_ (hs_ (hs_ hc 75 (4 + 3 * L) (kl_ (bz_ f n p))) 75 (4 + 3 * L + 1) a) 75 (4 + 3 * L + 2) b) 75 2 (L + 1))) (ke : L < 6 → ∀ q k hc, r1_ (bz_ f n) p 1 20 0 3 = .error (q, k) → flt_ h q k hc → Post none hc) : Ctr_ g (d + 5) mX9_readsLie [sv_r 4 8 68] h Post := by
  have on := o.1
  have hl := kl_l hk
  have t1 := tkn_1 w.2.2
  have e12 := (t1.2.1 ⟨hl.1, hl.2.1⟩).1
  have e9 := (t1.2.1 ⟨hl.1, hl.2.1⟩).2
  have hpn := ((bz_r o p).2.2.mp (by omega)).2
  have x91 : ∀ (hc : SH_) (v1 v2 v3 v4 : Int), ¬ hc 68 8 < 0 → Post none hc → V_ g (d + 5) mX9_readsLie 72 [some (sv_r 4 8 68), some (sv_i v1), some (sv_i v2), some (sv_i v3), some (sv_i v4)] [] hc Post := by
    intro hc v1 v2 v3 v4 hx kk
    refine vr_aload_n (q := 73) dX9_readsLie_72 rfl rfl ?_
    refine vr_aload_n (q := 74) dX9_readsLie_73 rfl rfl ?_
    refine vr_getI (ji := 11) (q := 77) dX9_readsLie_74 rfl fX9_101 rfl rfl ?_
    refine vr_iconst (q := 78) dX9_readsLie_77 rfl ⟨by decide, by decide⟩ ?_
    refine vr_ic_ne (t := 85) (q := 81) dX9_readsLie_78 (by decide) rfl (fun c78 => ?_) (fun c78 => ?_)
    · refine vr_iconst (q := 86) dX9_readsLie_85 rfl ⟨by decide, by decide⟩ ?_
      refine vr_iconst (q := 87) dX9_readsLie_86 rfl ⟨by decide, by decide⟩ ?_
      refine vr_iv2 (q := 90) dX9_readsLie_87 rfl vX9_117 (Nat.le_of_ble_eq_true rfl) ?_
      refine m_takesX hx ?_
      refine vr_pop (q := 91) dX9_readsLie_90 rfl rfl ?_
      refine vr_aload_n (q := 92) dX9_readsLie_91 rfl rfl ?_
      refine vr_iv0 (q := 95) dX9_readsLie_92 rfl vX9_107 (Nat.le_of_ble_eq_true rfl) ?_
      refine m_isWell (fun z9 => absurd z9 hx) (fun _ => ?_)
      refine vr_if_eq (t := 134) (q := 98) dX9_readsLie_95 (by decide) rfl (fun _ => ?_) (fun c9 => absurd c9 (by omega))
      refine vr_vret dX9_readsLie_134 rfl ?_
      exact kk
    · refine vr_iconst (q := 82) dX9_readsLie_81 rfl ⟨by decide, by decide⟩ ?_
      refine vr_goto (q := 86) dX9_readsLie_82 (by decide) ?_
      refine vr_iconst (q := 87) dX9_readsLie_86 rfl ⟨by decide, by decide⟩ ?_
      refine vr_iv2 (q := 90) dX9_readsLie_87 rfl vX9_117 (Nat.le_of_ble_eq_true rfl) ?_
      refine m_takesX hx ?_
      refine vr_pop (q := 91) dX9_readsLie_90 rfl rfl ?_
      refine vr_aload_n (q := 92) dX9_readsLie_91 rfl rfl ?_
      refine vr_iv0 (q := 95) dX9_readsLie_92 rfl vX9_107 (Nat.le_of_ble_eq_true rfl) ?_
      refine m_isWell (fun z9 => absurd z9 hx) (fun _ => ?_)
      refine vr_if_eq (t := 134) (q := 98) dX9_readsLie_95 (by decide) rfl (fun _ => ?_) (fun c9 => absurd c9 (by omega))
      refine vr_vret dX9_readsLie_134 rfl ?_
      exact kk
  have x56 : ∀ (hc : SH_) (v1 v2 : Int), ¬ hc 68 8 < 0 → Post none hc → ∀ v3 : Int, V_ g (d + 5) mX9_readsLie 64 [some (sv_r 4 8 68), some (sv_i v1), some (sv_i v2), some (sv_i v3), none] [] hc Post := by
    intro hc v1 v2 hx kk v3
    refine vr_aload_n (q := 65) dX9_readsLie_64 rfl rfl ?_
    refine vr_iconst (q := 66) dX9_readsLie_65 rfl ⟨by decide, by decide⟩ ?_
    refine vr_iconst (q := 67) dX9_readsLie_66 rfl ⟨by decide, by decide⟩ ?_
    -- at X9.readsLie 67: .invokevirtual 127
    refine vr_iv2 (q := 70) dX9_readsLie_67 rfl vX9_127 (Nat.le_of_ble_eq_true rfl) ?_
    refine m_nextX hx ?_
    refine vr_istore (q := 72) dX9_readsLie_70 rfl (Nat.le_of_ble_eq_true rfl) rfl rfl ?_
    -- at X9.readsLie 72: .aload_n 0
    exact x91 hc _ _ _ _ hx kk
  by_cases c6 : L = 6
  · have kz := k3 c6
    refine V_mk (by decide +kernel) (Or.inl ⟨rfl, rfl⟩) (Nat.le_of_ble_eq_true rfl) (by simp [sv_c]) ?_
    show V_ _ _ _ 0 [_, _, _, _, _] [] _ _
    refine vr_aload_n (q := 1) dX9_readsLie_0 rfl rfl ?_
    refine vr_getV (ji := 12) (q := 4) dX9_readsLie_1 rfl fX9_98 rfl rfl e12 ?_
    -- at X9.readsLie 4: .invokestatic 124
    refine vr_is1 (q := 7) dX9_readsLie_4 rfl vX9_124 (Nat.le_of_ble_eq_true rfl) ?_
    refine m_kindOf ?_
    refine vr_istore_n (q := 8) dX9_readsLie_7 rfl rfl (Nat.le_of_ble_eq_true rfl) rfl rfl ?_
    refine vr_aload_n (q := 9) dX9_readsLie_8 rfl rfl ?_
    refine vr_aload_n (q := 10) dX9_readsLie_9 rfl rfl ?_
    refine vr_getR (q := 13) dX9_readsLie_10 rfl fX9_28 rfl y_X9_14 (by first | (simp only [Int.reduceAdd]; rfl) | rfl) ?_
    refine vr_iconst (q := 14) dX9_readsLie_13 rfl ⟨by decide, by decide⟩ ?_
    refine vr_ialdV (q := 15) dX9_readsLie_14 rfl ⟨by omega, by omega⟩ eL ?_
    refine vr_bipush (q := 17) dX9_readsLie_15 rfl ⟨by decide, by decide⟩ (by decide) ?_
    -- at X9.readsLie 17: .if_icmp .ge 7
    refine vr_ic_ge (t := 24) (q := 20) dX9_readsLie_17 (by decide) rfl (fun _ => ?_) (fun c9 => absurd c9 (by omega))
    refine vr_iconst (q := 25) dX9_readsLie_24 rfl ⟨by decide, by decide⟩ ?_
    refine vr_iconst (q := 26) dX9_readsLie_25 rfl ⟨by decide, by decide⟩ ?_
    -- at X9.readsLie 26: .invokevirtual 117
    refine vr_iv2 (q := 29) dX9_readsLie_26 rfl vX9_117 (Nat.le_of_ble_eq_true rfl) ?_
    refine m_takesF hw ?_
    rw [w.1]
    have z := flt_s (q := p) (k := 3) (adf_r h)
    have kz2 := kz _ z
    have zx : ¬ hs_ (hs_ h 68 8 p) 68 7 3 68 8 < 0 := by rw [z.2.2.1]; omega
    have e75 : hs_ (hs_ h 68 8 p) 68 7 3 75 2 = L := by rw [z.1 75 (by decide)]; exact eL
    generalize hs_ (hs_ h 68 8 p) 68 7 3 = hz at zx e75 kz2
    refine vr_pop (q := 30) dX9_readsLie_29 rfl rfl ?_
    refine vr_iconst (q := 31) dX9_readsLie_30 rfl ⟨by decide, by decide⟩ ?_
    refine vr_iconst (q := 32) dX9_readsLie_31 rfl ⟨by decide, by decide⟩ ?_
    refine vr_aload_n (q := 33) dX9_readsLie_32 rfl rfl ?_
    refine vr_getR (q := 36) dX9_readsLie_33 rfl fX9_28 rfl y_X9_14 (by first | (simp only [Int.reduceAdd]; rfl) | rfl) ?_
    refine vr_iconst (q := 37) dX9_readsLie_36 rfl ⟨by decide, by decide⟩ ?_
    refine vr_ialdV (q := 38) dX9_readsLie_37 rfl ⟨by omega, by omega⟩ e75 ?_
    refine vr_bipush (q := 40) dX9_readsLie_38 rfl ⟨by decide, by decide⟩ (by decide) ?_
    -- at X9.readsLie 40: .if_icmp .ge 12
    refine vr_ic_ge (t := 52) (q := 43) dX9_readsLie_40 (by decide) rfl (fun _ => ?_) (fun c9 => absurd c9 (by omega))
    refine vr_iconst (q := 53) dX9_readsLie_52 rfl ⟨by decide, by decide⟩ ?_
    refine vr_imulN (q := 54) dX9_readsLie_53 rfl ⟨by omega, by omega⟩ ?_
    refine vr_iaddN (q := 55) dX9_readsLie_54 rfl ⟨by omega, by omega⟩ ?_
    refine vr_istore_n (q := 56) dX9_readsLie_55 rfl rfl (Nat.le_of_ble_eq_true rfl) rfl rfl ?_
    refine vr_aload_n (q := 57) dX9_readsLie_56 rfl rfl ?_
    refine vr_iconst (q := 58) dX9_readsLie_57 rfl ⟨by decide, by decide⟩ ?_
    refine vr_bipush (q := 60) dX9_readsLie_58 rfl ⟨by decide, by decide⟩ (by decide) ?_
    -- at X9.readsLie 60: .invokevirtual 121
    refine vr_iv2 (q := 63) dX9_readsLie_60 rfl vX9_121 (Nat.le_of_ble_eq_true rfl) ?_
    refine m_figureX zx ?_
    refine vr_istore_n (q := 64) dX9_readsLie_63 rfl rfl (Nat.le_of_ble_eq_true rfl) rfl rfl ?_
    -- at X9.readsLie 64: .aload_n 0
    exact x56 hz _ _ zx kz2 _
  · have kko := ko (by omega)
    have kke := ke (by omega)
    refine V_mk (by decide +kernel) (Or.inl ⟨rfl, rfl⟩) (Nat.le_of_ble_eq_true rfl) (by simp [sv_c]) ?_
    show V_ _ _ _ 0 [_, _, _, _, _] [] _ _
    refine vr_aload_n (q := 1) dX9_readsLie_0 rfl rfl ?_
    refine vr_getV (ji := 12) (q := 4) dX9_readsLie_1 rfl fX9_98 rfl rfl e12 ?_
    -- at X9.readsLie 4: .invokestatic 124
    refine vr_is1 (q := 7) dX9_readsLie_4 rfl vX9_124 (Nat.le_of_ble_eq_true rfl) ?_
    refine m_kindOf ?_
    refine vr_istore_n (q := 8) dX9_readsLie_7 rfl rfl (Nat.le_of_ble_eq_true rfl) rfl rfl ?_
    refine vr_aload_n (q := 9) dX9_readsLie_8 rfl rfl ?_
    refine vr_aload_n (q := 10) dX9_readsLie_9 rfl rfl ?_
    refine vr_getR (q := 13) dX9_readsLie_10 rfl fX9_28 rfl y_X9_14 (by first | (simp only [Int.reduceAdd]; rfl) | rfl) ?_
    refine vr_iconst (q := 14) dX9_readsLie_13 rfl ⟨by decide, by decide⟩ ?_
    refine vr_ialdV (q := 15) dX9_readsLie_14 rfl ⟨by omega, by omega⟩ eL ?_
    refine vr_bipush (q := 17) dX9_readsLie_15 rfl ⟨by decide, by decide⟩ (by decide) ?_
    -- at X9.readsLie 17: .if_icmp .ge 7
    refine vr_ic_ge (t := 24) (q := 20) dX9_readsLie_17 (by decide) rfl (fun c9 => absurd c9 (by omega)) (fun _ => ?_)
    refine vr_iconst (q := 21) dX9_readsLie_20 rfl ⟨by decide, by decide⟩ ?_
    refine vr_goto (q := 25) dX9_readsLie_21 (by decide) ?_
    refine vr_iconst (q := 26) dX9_readsLie_25 rfl ⟨by decide, by decide⟩ ?_
    -- at X9.readsLie 26: .invokevirtual 117
    refine vr_iv2 (q := 29) dX9_readsLie_26 rfl vX9_117 (Nat.le_of_ble_eq_true rfl) ?_
    refine m_takesT t o hw ⟨by omega, w.2.1.2⟩ (fun hA a1 a2 => ?_)
    rw [e9] at a2
    have eA : hA 75 2 = L := by rw [a1.1 75 (by decide)]; exact eL
    refine vr_pop (q := 30) dX9_readsLie_29 rfl rfl ?_
    refine vr_iconst (q := 31) dX9_readsLie_30 rfl ⟨by decide, by decide⟩ ?_
    refine vr_iconst (q := 32) dX9_readsLie_31 rfl ⟨by decide, by decide⟩ ?_
    refine vr_aload_n (q := 33) dX9_readsLie_32 rfl rfl ?_
    refine vr_getR (q := 36) dX9_readsLie_33 rfl fX9_28 rfl y_X9_14 (by first | (simp only [Int.reduceAdd]; rfl) | rfl) ?_
    refine vr_iconst (q := 37) dX9_readsLie_36 rfl ⟨by decide, by decide⟩ ?_
    refine vr_ialdV (q := 38) dX9_readsLie_37 rfl ⟨by omega, by omega⟩ eA ?_
    refine vr_bipush (q := 40) dX9_readsLie_38 rfl ⟨by decide, by decide⟩ (by decide) ?_
    -- at X9.readsLie 40: .if_icmp .ge 12
    refine vr_ic_ge (t := 52) (q := 43) dX9_readsLie_40 (by decide) rfl (fun c9 => absurd c9 (by omega)) (fun _ => ?_)
    refine vr_aload_n (q := 44) dX9_readsLie_43 rfl rfl ?_
    refine vr_getR (q := 47) dX9_readsLie_44 rfl fX9_28 rfl y_X9_14 (by first | (simp only [Int.reduceAdd]; rfl) | rfl) ?_
    refine vr_iconst (q := 48) dX9_readsLie_47 rfl ⟨by decide, by decide⟩ ?_
    refine vr_ialdV (q := 49) dX9_readsLie_48 rfl ⟨by omega, by omega⟩ eA ?_
    refine vr_goto (q := 53) dX9_readsLie_49 (by decide) ?_
    refine vr_imulN (q := 54) dX9_readsLie_53 rfl ⟨by omega, by omega⟩ ?_
    refine vr_iaddN (q := 55) dX9_readsLie_54 rfl ⟨by omega, by omega⟩ ?_
    refine vr_istore_n (q := 56) dX9_readsLie_55 rfl rfl (Nat.le_of_ble_eq_true rfl) rfl rfl ?_
    refine vr_aload_n (q := 57) dX9_readsLie_56 rfl rfl ?_
    refine vr_iconst (q := 58) dX9_readsLie_57 rfl ⟨by decide, by decide⟩ ?_
    refine vr_bipush (q := 60) dX9_readsLie_58 rfl ⟨by decide, by decide⟩ (by decide) ?_
    -- at X9.readsLie 60: .invokevirtual 121
    refine vr_iv2 (q := 63) dX9_readsLie_60 rfl vX9_121 (Nat.le_of_ble_eq_true rfl) ?_
    refine m_figure (adf_p a1 t) o (by rw [a1.2 8 (by omega)]; exact hw) a2 ⟨by omega, by omega⟩ (fun v q1 hB z b1 b2 => ?_) (fun q k hB z b1 => ?_)
    · have r1 := rn_ok z
      have a3 := adf_t a1 b1
      refine vr_istore_n (q := 64) dX9_readsLie_63 rfl rfl (Nat.le_of_ble_eq_true rfl) rfl rfl ?_
      refine vr_aload_n (q := 65) dX9_readsLie_64 rfl rfl ?_
      refine vr_iconst (q := 66) dX9_readsLie_65 rfl ⟨by decide, by decide⟩ ?_
      refine vr_iconst (q := 67) dX9_readsLie_66 rfl ⟨by decide, by decide⟩ ?_
      -- at X9.readsLie 67: .invokevirtual 127
      refine vr_iv2 (q := 70) dX9_readsLie_67 rfl vX9_127 (Nat.le_of_ble_eq_true rfl) ?_
      refine m_next (adf_p a3 t) o (by rw [a3.2 8 (by omega)]; exact hw) b2 ⟨by omega, by omega⟩ (fun v2 q2 hC z44 z2 b3 b4 => ?_) (fun q k hC z44 z2 b3 => ?_) (fun hC z44 b3 => ?_)
      · have r2 := rn_ok z2
        have a4 := adf_t a3 b3
        have t4 := tkn_4 b4.2.2
        have zw : hC 68 8 < 0 := by rw [a4.2 8 (by omega)]; exact hw
        by_cases c59 : bz_ f n q2 = 59
        · have e92 := t4.2 c59
          refine vr_istore (q := 72) dX9_readsLie_70 rfl (Nat.le_of_ble_eq_true rfl) rfl rfl ?_
          refine vr_aload_n (q := 73) dX9_readsLie_72 rfl rfl ?_
          refine vr_aload_n (q := 74) dX9_readsLie_73 rfl rfl ?_
          refine vr_getV (ji := 11) (q := 77) dX9_readsLie_74 rfl fX9_101 rfl rfl (t4.1.mpr c59) ?_
          refine vr_iconst (q := 78) dX9_readsLie_77 rfl ⟨by decide, by decide⟩ ?_
          -- at X9.readsLie 78: .if_icmp .ne 7
          refine vr_ic_ne (t := 85) (q := 81) dX9_readsLie_78 (by decide) rfl (fun c9 => absurd c9 (by omega)) (fun _ => ?_)
          refine vr_iconst (q := 82) dX9_readsLie_81 rfl ⟨by decide, by decide⟩ ?_
          refine vr_goto (q := 86) dX9_readsLie_82 (by decide) ?_
          refine vr_iconst (q := 87) dX9_readsLie_86 rfl ⟨by decide, by decide⟩ ?_
          -- at X9.readsLie 87: .invokevirtual 117
          refine vr_iv2 (q := 90) dX9_readsLie_87 rfl vX9_117 (Nat.le_of_ble_eq_true rfl) ?_
          refine m_takesT (adf_p a4 t) o zw ⟨by omega, b4.2.1.2⟩ (fun hD b5 b6 => ?_)
          rw [e92] at b6
          have a5 := adf_t a4 b5
          have eD : hD 75 2 = L := by rw [a5.1 75 (by decide)]; exact eL
          refine vr_pop (q := 91) dX9_readsLie_90 rfl rfl ?_
          refine vr_aload_n (q := 92) dX9_readsLie_91 rfl rfl ?_
          -- at X9.readsLie 92: .invokevirtual 107
          refine vr_iv0 (q := 95) dX9_readsLie_92 rfl vX9_107 (Nat.le_of_ble_eq_true rfl) ?_
          refine m_isWell (fun _ => ?_) (fun q => absurd (show hD 68 8 < 0 by rw [a5.2 8 (by omega)]; exact hw) q)
          refine vr_if_eq (t := 134) (q := 98) dX9_readsLie_95 (by decide) rfl (fun c9 => absurd c9 (by omega)) (fun _ => ?_)
          refine vr_aload_n (q := 99) dX9_readsLie_98 rfl rfl ?_
          refine vr_getR (q := 102) dX9_readsLie_99 rfl fX9_28 rfl y_X9_14 (by first | (simp only [Int.reduceAdd]; rfl) | rfl) ?_
          refine vr_iload_n (q := 103) dX9_readsLie_102 rfl rfl ?_
          refine vr_iload_n (q := 104) dX9_readsLie_103 rfl rfl ?_
          refine vr_iast (q := 105) dX9_readsLie_104 rfl ⟨by omega, by omega⟩ ?_
          refine vr_aload_n (q := 106) dX9_readsLie_105 rfl rfl ?_
          refine vr_getR (q := 109) dX9_readsLie_106 rfl fX9_28 rfl y_X9_14 (by first | (simp only [Int.reduceAdd]; rfl) | rfl) ?_
          refine vr_iload_n (q := 110) dX9_readsLie_109 rfl rfl ?_
          refine vr_iconst (q := 111) dX9_readsLie_110 rfl ⟨by decide, by decide⟩ ?_
          refine vr_iaddN (q := 112) dX9_readsLie_111 rfl ⟨by omega, by omega⟩ ?_
          refine vr_iload_n (q := 113) dX9_readsLie_112 rfl rfl ?_
          refine vr_iast (q := 114) dX9_readsLie_113 rfl ⟨by omega, by omega⟩ ?_
          refine vr_aload_n (q := 115) dX9_readsLie_114 rfl rfl ?_
          refine vr_getR (q := 118) dX9_readsLie_115 rfl fX9_28 rfl y_X9_14 (by first | (simp only [Int.reduceAdd]; rfl) | rfl) ?_
          refine vr_iload_n (q := 119) dX9_readsLie_118 rfl rfl ?_
          refine vr_iconst (q := 120) dX9_readsLie_119 rfl ⟨by decide, by decide⟩ ?_
          refine vr_iaddN (q := 121) dX9_readsLie_120 rfl ⟨by omega, by omega⟩ ?_
          refine vr_iload (q := 123) dX9_readsLie_121 rfl rfl ?_
          refine vr_iast (q := 124) dX9_readsLie_123 rfl ⟨by omega, by omega⟩ ?_
          refine vr_aload_n (q := 125) dX9_readsLie_124 rfl rfl ?_
          refine vr_getR (q := 128) dX9_readsLie_125 rfl fX9_28 rfl y_X9_14 (by first | (simp only [Int.reduceAdd]; rfl) | rfl) ?_
          refine vr_iconst (q := 129) dX9_readsLie_128 rfl ⟨by decide, by decide⟩ ?_
          refine vr_dup2 (q := 130) dX9_readsLie_129 rfl rfl rfl ?_
          refine vr_ialdV (q := 131) dX9_readsLie_130 rfl ⟨by omega, by omega⟩ (show _ = L by rw [hs_n (by omega), hs_n (by omega), hs_n (by omega)]; exact eD) ?_
          refine vr_iconst (q := 132) dX9_readsLie_131 rfl ⟨by decide, by decide⟩ ?_
          refine vr_iaddN (q := 133) dX9_readsLie_132 rfl ⟨by omega, by omega⟩ ?_
          refine vr_iast (q := 134) dX9_readsLie_133 rfl ⟨by omega, by omega⟩ ?_
          refine vr_vret dX9_readsLie_134 rfl ?_
          exact kko _ _ _ hD (r1_ok z z44 z2 c59) a5 b6
        · have n11 : ¬ hC 68 11 = 4 := fun z => c59 (t4.1.mp z)
          refine vr_istore (q := 72) dX9_readsLie_70 rfl (Nat.le_of_ble_eq_true rfl) rfl rfl ?_
          refine vr_aload_n (q := 73) dX9_readsLie_72 rfl rfl ?_
          refine vr_aload_n (q := 74) dX9_readsLie_73 rfl rfl ?_
          refine vr_getI (ji := 11) (q := 77) dX9_readsLie_74 rfl fX9_101 rfl rfl ?_
          refine vr_iconst (q := 78) dX9_readsLie_77 rfl ⟨by decide, by decide⟩ ?_
          -- at X9.readsLie 78: .if_icmp .ne 7
          refine vr_ic_ne (t := 85) (q := 81) dX9_readsLie_78 (by decide) rfl (fun _ => ?_) (fun c9 => absurd c9 (by omega))
          refine vr_iconst (q := 86) dX9_readsLie_85 rfl ⟨by decide, by decide⟩ ?_
          refine vr_iconst (q := 87) dX9_readsLie_86 rfl ⟨by decide, by decide⟩ ?_
          -- at X9.readsLie 87: .invokevirtual 117
          refine vr_iv2 (q := 90) dX9_readsLie_87 rfl vX9_117 (Nat.le_of_ble_eq_true rfl) ?_
          refine m_takesF zw ?_
          rw [b4.1]
          have zf := flt_s (q := q2) (k := 1) a4
          refine vr_pop (q := 91) dX9_readsLie_90 rfl rfl ?_
          refine vr_aload_n (q := 92) dX9_readsLie_91 rfl rfl ?_
          -- at X9.readsLie 92: .invokevirtual 107
          refine vr_iv0 (q := 95) dX9_readsLie_92 rfl vX9_107 (Nat.le_of_ble_eq_true rfl) ?_
          refine m_isWell (fun q => absurd q (by rw [zf.2.2.1]; omega)) (fun _ => ?_)
          refine vr_if_eq (t := 134) (q := 98) dX9_readsLie_95 (by decide) rfl (fun _ => ?_) (fun c9 => absurd c9 (by omega))
          refine vr_vret dX9_readsLie_134 rfl ?_
          exact kke _ _ _ (r1_e4 z z44 z2 c59) zf
      · have zf := flt_a a3 b3
        have er := rn_er z2
        refine vr_istore (q := 72) dX9_readsLie_70 rfl (Nat.le_of_ble_eq_true rfl) rfl rfl ?_
        -- at X9.readsLie 72: .aload_n 0
        exact x91 hC _ _ _ _ (by rw [zf.2.2.1]; have := er.1; omega) (kke _ _ _ (r1_e3 z z44 z2) zf)
      · have zf := flt_a a3 b3
        refine vr_istore (q := 72) dX9_readsLie_70 rfl (Nat.le_of_ble_eq_true rfl) rfl rfl ?_
        -- at X9.readsLie 72: .aload_n 0
        exact x91 hC _ _ _ _ (by rw [zf.2.2.1]; omega) (kke _ _ _ (r1_e2 z z44) zf)
    · have zf := flt_a a1 b1
      have er := rn_er z
      refine vr_istore_n (q := 64) dX9_readsLie_63 rfl rfl (Nat.le_of_ble_eq_true rfl) rfl rfl ?_
      -- at X9.readsLie 64: .aload_n 0
      exact x56 hB _ _ (by rw [zf.2.2.1]; have := er.1; omega) (kke _ _ _ (r1_e1 z) zf) _
theorem m_readsStranger {p L : Int} (t : rtp_ f n h) (o : tpo_ f n) (hw : h 68 8 < 0) (w : rwl_ f n p h) (hp : 0 ≤ p ∧ p ≤ n) (hk : bz_ f n p = 115) (eL : h 75 3 = L) (hL : 0 ≤ L ∧ L ≤ 4) (k3 : L = 4 → ∀ hc, flt_ h p 3 hc → Post none hc) (ko : L < 4 → ∀ a b q hc, r1_ (bz_ f n) p 0 20 0 15 = .ok (a, b, q) → adf_ h hc → rwl_ f n q hc → Post none (hs_ (hs_ (hs_ hc 75 (22 + 4 * L) a) 75 (22 + 4 * L + 1) b) 75 3 (L + 1))) (ke : L < 4 → ∀ q k hc, r1_ (bz_ f n) p 0 20 0 15 = .error (q, k) → flt_ h q k hc → Post none hc) : Ctr_ g (d + 5) mX9_readsStranger [sv_r 4 8 68] h Post := by
  have on := o.1
  have t1 := tkn_1 w.2.2
  have e9 := (t1.2.1 ⟨by omega, by omega⟩).2
  have hpn := ((bz_r o p).2.2.mp (by omega)).2
  have x91 : ∀ (hc : SH_) (v1 v2 v3 : Int), ¬ hc 68 8 < 0 → Post none hc → V_ g (d + 5) mX9_readsStranger 63 [some (sv_r 4 8 68), some (sv_i v1), some (sv_i v2), some (sv_i v3)] [] hc Post := by
    intro hc v1 v2 v3 hx kk
    refine vr_aload_n (q := 64) dX9_readsStranger_63 rfl rfl ?_
    refine vr_aload_n (q := 65) dX9_readsStranger_64 rfl rfl ?_
    refine vr_getI (ji := 11) (q := 68) dX9_readsStranger_65 rfl fX9_101 rfl rfl ?_
    refine vr_iconst (q := 69) dX9_readsStranger_68 rfl ⟨by decide, by decide⟩ ?_
    refine vr_ic_ne (t := 76) (q := 72) dX9_readsStranger_69 (by decide) rfl (fun c69 => ?_) (fun c69 => ?_)
    · refine vr_iconst (q := 77) dX9_readsStranger_76 rfl ⟨by decide, by decide⟩ ?_
      refine vr_iconst (q := 78) dX9_readsStranger_77 rfl ⟨by decide, by decide⟩ ?_
      refine vr_iv2 (q := 81) dX9_readsStranger_78 rfl vX9_117 (Nat.le_of_ble_eq_true rfl) ?_
      refine m_takesX hx ?_
      refine vr_pop (q := 82) dX9_readsStranger_81 rfl rfl ?_
      refine vr_aload_n (q := 83) dX9_readsStranger_82 rfl rfl ?_
      refine vr_iv0 (q := 86) dX9_readsStranger_83 rfl vX9_107 (Nat.le_of_ble_eq_true rfl) ?_
      refine m_isWell (fun z9 => absurd z9 hx) (fun _ => ?_)
      refine vr_if_eq (t := 117) (q := 89) dX9_readsStranger_86 (by decide) rfl (fun _ => ?_) (fun c9 => absurd c9 (by omega))
      refine vr_vret dX9_readsStranger_117 rfl ?_
      exact kk
    · refine vr_iconst (q := 73) dX9_readsStranger_72 rfl ⟨by decide, by decide⟩ ?_
      refine vr_goto (q := 77) dX9_readsStranger_73 (by decide) ?_
      refine vr_iconst (q := 78) dX9_readsStranger_77 rfl ⟨by decide, by decide⟩ ?_
      refine vr_iv2 (q := 81) dX9_readsStranger_78 rfl vX9_117 (Nat.le_of_ble_eq_true rfl) ?_
      refine m_takesX hx ?_
      refine vr_pop (q := 82) dX9_readsStranger_81 rfl rfl ?_
      refine vr_aload_n (q := 83) dX9_readsStranger_82 rfl rfl ?_
      refine vr_iv0 (q := 86) dX9_readsStranger_83 rfl vX9_107 (Nat.le_of_ble_eq_true rfl) ?_
      refine m_isWell (fun z9 => absurd z9 hx) (fun _ => ?_)
      refine vr_if_eq (t := 117) (q := 89) dX9_readsStranger_86 (by decide) rfl (fun _ => ?_) (fun c9 => absurd c9 (by omega))
      refine vr_vret dX9_readsStranger_117 rfl ?_
      exact kk
  have x56 : ∀ (hc : SH_) (v1 : Int), ¬ hc 68 8 < 0 → Post none hc → ∀ v2 : Int, V_ g (d + 5) mX9_readsStranger 55 [some (sv_r 4 8 68), some (sv_i v1), some (sv_i v2), none] [] hc Post := by
    intro hc v1 hx kk v2
    refine vr_aload_n (q := 56) dX9_readsStranger_55 rfl rfl ?_
    refine vr_iconst (q := 57) dX9_readsStranger_56 rfl ⟨by decide, by decide⟩ ?_
    refine vr_bipush (q := 59) dX9_readsStranger_57 rfl ⟨by decide, by decide⟩ (by decide) ?_
    -- at X9.readsStranger 59: .invokevirtual 127
    refine vr_iv2 (q := 62) dX9_readsStranger_59 rfl vX9_127 (Nat.le_of_ble_eq_true rfl) ?_
    refine m_nextX hx ?_
    refine vr_istore_n (q := 63) dX9_readsStranger_62 rfl rfl (Nat.le_of_ble_eq_true rfl) rfl rfl ?_
    -- at X9.readsStranger 63: .aload_n 0
    exact x91 hc _ _ _ hx kk
  by_cases c6 : L = 4
  · have kz := k3 c6
    refine V_mk (by decide +kernel) (Or.inl ⟨rfl, rfl⟩) (Nat.le_of_ble_eq_true rfl) (by simp [sv_c]) ?_
    show V_ _ _ _ 0 [_, _, _, _] [] _ _
    refine vr_aload_n (q := 1) dX9_readsStranger_0 rfl rfl ?_
    refine vr_aload_n (q := 2) dX9_readsStranger_1 rfl rfl ?_
    refine vr_getR (q := 5) dX9_readsStranger_2 rfl fX9_28 rfl y_X9_14 (by first | (simp only [Int.reduceAdd]; rfl) | rfl) ?_
    refine vr_iconst (q := 6) dX9_readsStranger_5 rfl ⟨by decide, by decide⟩ ?_
    refine vr_ialdV (q := 7) dX9_readsStranger_6 rfl ⟨by omega, by omega⟩ eL ?_
    refine vr_iconst (q := 8) dX9_readsStranger_7 rfl ⟨by decide, by decide⟩ ?_
    -- at X9.readsStranger 8: .if_icmp .ge 7
    refine vr_ic_ge (t := 15) (q := 11) dX9_readsStranger_8 (by decide) rfl (fun _ => ?_) (fun c9 => absurd c9 (by omega))
    refine vr_iconst (q := 16) dX9_readsStranger_15 rfl ⟨by decide, by decide⟩ ?_
    refine vr_iconst (q := 17) dX9_readsStranger_16 rfl ⟨by decide, by decide⟩ ?_
    -- at X9.readsStranger 17: .invokevirtual 117
    refine vr_iv2 (q := 20) dX9_readsStranger_17 rfl vX9_117 (Nat.le_of_ble_eq_true rfl) ?_
    refine m_takesF hw ?_
    rw [w.1]
    have z := flt_s (q := p) (k := 3) (adf_r h)
    have kz2 := kz _ z
    have zx : ¬ hs_ (hs_ h 68 8 p) 68 7 3 68 8 < 0 := by rw [z.2.2.1]; omega
    have e75 : hs_ (hs_ h 68 8 p) 68 7 3 75 3 = L := by rw [z.1 75 (by decide)]; exact eL
    generalize hs_ (hs_ h 68 8 p) 68 7 3 = hz at zx e75 kz2
    refine vr_pop (q := 21) dX9_readsStranger_20 rfl rfl ?_
    refine vr_bipush (q := 23) dX9_readsStranger_21 rfl ⟨by decide, by decide⟩ (by decide) ?_
    refine vr_iconst (q := 24) dX9_readsStranger_23 rfl ⟨by decide, by decide⟩ ?_
    refine vr_aload_n (q := 25) dX9_readsStranger_24 rfl rfl ?_
    refine vr_getR (q := 28) dX9_readsStranger_25 rfl fX9_28 rfl y_X9_14 (by first | (simp only [Int.reduceAdd]; rfl) | rfl) ?_
    refine vr_iconst (q := 29) dX9_readsStranger_28 rfl ⟨by decide, by decide⟩ ?_
    refine vr_ialdV (q := 30) dX9_readsStranger_29 rfl ⟨by omega, by omega⟩ e75 ?_
    refine vr_iconst (q := 31) dX9_readsStranger_30 rfl ⟨by decide, by decide⟩ ?_
    -- at X9.readsStranger 31: .if_icmp .ge 12
    refine vr_ic_ge (t := 43) (q := 34) dX9_readsStranger_31 (by decide) rfl (fun _ => ?_) (fun c9 => absurd c9 (by omega))
    refine vr_iconst (q := 44) dX9_readsStranger_43 rfl ⟨by decide, by decide⟩ ?_
    refine vr_imulN (q := 45) dX9_readsStranger_44 rfl ⟨by omega, by omega⟩ ?_
    refine vr_iaddN (q := 46) dX9_readsStranger_45 rfl ⟨by omega, by omega⟩ ?_
    refine vr_istore_n (q := 47) dX9_readsStranger_46 rfl rfl (Nat.le_of_ble_eq_true rfl) rfl rfl ?_
    refine vr_aload_n (q := 48) dX9_readsStranger_47 rfl rfl ?_
    refine vr_iconst (q := 49) dX9_readsStranger_48 rfl ⟨by decide, by decide⟩ ?_
    refine vr_bipush (q := 51) dX9_readsStranger_49 rfl ⟨by decide, by decide⟩ (by decide) ?_
    -- at X9.readsStranger 51: .invokevirtual 121
    refine vr_iv2 (q := 54) dX9_readsStranger_51 rfl vX9_121 (Nat.le_of_ble_eq_true rfl) ?_
    refine m_figureX zx ?_
    refine vr_istore_n (q := 55) dX9_readsStranger_54 rfl rfl (Nat.le_of_ble_eq_true rfl) rfl rfl ?_
    -- at X9.readsStranger 55: .aload_n 0
    exact x56 hz _ zx kz2 _
  · have kko := ko (by omega)
    have kke := ke (by omega)
    refine V_mk (by decide +kernel) (Or.inl ⟨rfl, rfl⟩) (Nat.le_of_ble_eq_true rfl) (by simp [sv_c]) ?_
    show V_ _ _ _ 0 [_, _, _, _] [] _ _
    refine vr_aload_n (q := 1) dX9_readsStranger_0 rfl rfl ?_
    refine vr_aload_n (q := 2) dX9_readsStranger_1 rfl rfl ?_
    refine vr_getR (q := 5) dX9_readsStranger_2 rfl fX9_28 rfl y_X9_14 (by first | (simp only [Int.reduceAdd]; rfl) | rfl) ?_
    refine vr_iconst (q := 6) dX9_readsStranger_5 rfl ⟨by decide, by decide⟩ ?_
    refine vr_ialdV (q := 7) dX9_readsStranger_6 rfl ⟨by omega, by omega⟩ eL ?_
    refine vr_iconst (q := 8) dX9_readsStranger_7 rfl ⟨by decide, by decide⟩ ?_
    -- at X9.readsStranger 8: .if_icmp .ge 7
    refine vr_ic_ge (t := 15) (q := 11) dX9_readsStranger_8 (by decide) rfl (fun c9 => absurd c9 (by omega)) (fun _ => ?_)
    refine vr_iconst (q := 12) dX9_readsStranger_11 rfl ⟨by decide, by decide⟩ ?_
    refine vr_goto (q := 16) dX9_readsStranger_12 (by decide) ?_
    refine vr_iconst (q := 17) dX9_readsStranger_16 rfl ⟨by decide, by decide⟩ ?_
    -- at X9.readsStranger 17: .invokevirtual 117
    refine vr_iv2 (q := 20) dX9_readsStranger_17 rfl vX9_117 (Nat.le_of_ble_eq_true rfl) ?_
    refine m_takesT t o hw ⟨by omega, w.2.1.2⟩ (fun hA a1 a2 => ?_)
    rw [e9] at a2
    have eA : hA 75 3 = L := by rw [a1.1 75 (by decide)]; exact eL
    refine vr_pop (q := 21) dX9_readsStranger_20 rfl rfl ?_
    refine vr_bipush (q := 23) dX9_readsStranger_21 rfl ⟨by decide, by decide⟩ (by decide) ?_
    refine vr_iconst (q := 24) dX9_readsStranger_23 rfl ⟨by decide, by decide⟩ ?_
    refine vr_aload_n (q := 25) dX9_readsStranger_24 rfl rfl ?_
    refine vr_getR (q := 28) dX9_readsStranger_25 rfl fX9_28 rfl y_X9_14 (by first | (simp only [Int.reduceAdd]; rfl) | rfl) ?_
    refine vr_iconst (q := 29) dX9_readsStranger_28 rfl ⟨by decide, by decide⟩ ?_
    refine vr_ialdV (q := 30) dX9_readsStranger_29 rfl ⟨by omega, by omega⟩ eA ?_
    refine vr_iconst (q := 31) dX9_readsStranger_30 rfl ⟨by decide, by decide⟩ ?_
    -- at X9.readsStranger 31: .if_icmp .ge 12
    refine vr_ic_ge (t := 43) (q := 34) dX9_readsStranger_31 (by decide) rfl (fun c9 => absurd c9 (by omega)) (fun _ => ?_)
    refine vr_aload_n (q := 35) dX9_readsStranger_34 rfl rfl ?_
    refine vr_getR (q := 38) dX9_readsStranger_35 rfl fX9_28 rfl y_X9_14 (by first | (simp only [Int.reduceAdd]; rfl) | rfl) ?_
    refine vr_iconst (q := 39) dX9_readsStranger_38 rfl ⟨by decide, by decide⟩ ?_
    refine vr_ialdV (q := 40) dX9_readsStranger_39 rfl ⟨by omega, by omega⟩ eA ?_
    refine vr_goto (q := 44) dX9_readsStranger_40 (by decide) ?_
    refine vr_imulN (q := 45) dX9_readsStranger_44 rfl ⟨by omega, by omega⟩ ?_
    refine vr_iaddN (q := 46) dX9_readsStranger_45 rfl ⟨by omega, by omega⟩ ?_
    refine vr_istore_n (q := 47) dX9_readsStranger_46 rfl rfl (Nat.le_of_ble_eq_true rfl) rfl rfl ?_
    refine vr_aload_n (q := 48) dX9_readsStranger_47 rfl rfl ?_
    refine vr_iconst (q := 49) dX9_readsStranger_48 rfl ⟨by decide, by decide⟩ ?_
    refine vr_bipush (q := 51) dX9_readsStranger_49 rfl ⟨by decide, by decide⟩ (by decide) ?_
    -- at X9.readsStranger 51: .invokevirtual 121
    refine vr_iv2 (q := 54) dX9_readsStranger_51 rfl vX9_121 (Nat.le_of_ble_eq_true rfl) ?_
    refine m_figure (adf_p a1 t) o (by rw [a1.2 8 (by omega)]; exact hw) a2 ⟨by omega, by omega⟩ (fun v q1 hB z b1 b2 => ?_) (fun q k hB z b1 => ?_)
    · have r1 := rn_ok z
      have a3 := adf_t a1 b1
      refine vr_istore_n (q := 55) dX9_readsStranger_54 rfl rfl (Nat.le_of_ble_eq_true rfl) rfl rfl ?_
      refine vr_aload_n (q := 56) dX9_readsStranger_55 rfl rfl ?_
      refine vr_iconst (q := 57) dX9_readsStranger_56 rfl ⟨by decide, by decide⟩ ?_
      refine vr_bipush (q := 59) dX9_readsStranger_57 rfl ⟨by decide, by decide⟩ (by decide) ?_
      -- at X9.readsStranger 59: .invokevirtual 127
      refine vr_iv2 (q := 62) dX9_readsStranger_59 rfl vX9_127 (Nat.le_of_ble_eq_true rfl) ?_
      refine m_next (adf_p a3 t) o (by rw [a3.2 8 (by omega)]; exact hw) b2 ⟨by omega, by omega⟩ (fun v2 q2 hC z44 z2 b3 b4 => ?_) (fun q k hC z44 z2 b3 => ?_) (fun hC z44 b3 => ?_)
      · have r2 := rn_ok z2
        have a4 := adf_t a3 b3
        have t4 := tkn_4 b4.2.2
        have zw : hC 68 8 < 0 := by rw [a4.2 8 (by omega)]; exact hw
        by_cases c59 : bz_ f n q2 = 59
        · have e92 := t4.2 c59
          refine vr_istore_n (q := 63) dX9_readsStranger_62 rfl rfl (Nat.le_of_ble_eq_true rfl) rfl rfl ?_
          refine vr_aload_n (q := 64) dX9_readsStranger_63 rfl rfl ?_
          refine vr_aload_n (q := 65) dX9_readsStranger_64 rfl rfl ?_
          refine vr_getV (ji := 11) (q := 68) dX9_readsStranger_65 rfl fX9_101 rfl rfl (t4.1.mpr c59) ?_
          refine vr_iconst (q := 69) dX9_readsStranger_68 rfl ⟨by decide, by decide⟩ ?_
          -- at X9.readsStranger 69: .if_icmp .ne 7
          refine vr_ic_ne (t := 76) (q := 72) dX9_readsStranger_69 (by decide) rfl (fun c9 => absurd c9 (by omega)) (fun _ => ?_)
          refine vr_iconst (q := 73) dX9_readsStranger_72 rfl ⟨by decide, by decide⟩ ?_
          refine vr_goto (q := 77) dX9_readsStranger_73 (by decide) ?_
          refine vr_iconst (q := 78) dX9_readsStranger_77 rfl ⟨by decide, by decide⟩ ?_
          -- at X9.readsStranger 78: .invokevirtual 117
          refine vr_iv2 (q := 81) dX9_readsStranger_78 rfl vX9_117 (Nat.le_of_ble_eq_true rfl) ?_
          refine m_takesT (adf_p a4 t) o zw ⟨by omega, b4.2.1.2⟩ (fun hD b5 b6 => ?_)
          rw [e92] at b6
          have a5 := adf_t a4 b5
          have eD : hD 75 3 = L := by rw [a5.1 75 (by decide)]; exact eL
          have kz := kko _ _ _ hD (r1_ok z z44 z2 c59) a5 b6
          refine vr_pop (q := 82) dX9_readsStranger_81 rfl rfl ?_
          refine vr_aload_n (q := 83) dX9_readsStranger_82 rfl rfl ?_
          -- at X9.readsStranger 83: .invokevirtual 107
          refine vr_iv0 (q := 86) dX9_readsStranger_83 rfl vX9_107 (Nat.le_of_ble_eq_true rfl) ?_
          refine m_isWell (fun _ => ?_) (fun q => absurd (show hD 68 8 < 0 by rw [a5.2 8 (by omega)]; exact hw) q)
          refine vr_if_eq (t := 117) (q := 89) dX9_readsStranger_86 (by decide) rfl (fun c9 => absurd c9 (by omega)) (fun _ => ?_)
          refine vr_aload_n (q := 90) dX9_readsStranger_89 rfl rfl ?_
          refine vr_getR (q := 93) dX9_readsStranger_90 rfl fX9_28 rfl y_X9_14 (by first | (simp only [Int.reduceAdd]; rfl) | rfl) ?_
          refine vr_iload_n (q := 94) dX9_readsStranger_93 rfl rfl ?_
          refine vr_iconst (q := 95) dX9_readsStranger_94 rfl ⟨by decide, by decide⟩ ?_
          refine vr_iaddN (q := 96) dX9_readsStranger_95 rfl ⟨by omega, by omega⟩ ?_
          refine vr_iload_n (q := 97) dX9_readsStranger_96 rfl rfl ?_
          refine vr_iast (q := 98) dX9_readsStranger_97 rfl ⟨by omega, by omega⟩ ?_
          refine vr_aload_n (q := 99) dX9_readsStranger_98 rfl rfl ?_
          refine vr_getR (q := 102) dX9_readsStranger_99 rfl fX9_28 rfl y_X9_14 (by first | (simp only [Int.reduceAdd]; rfl) | rfl) ?_
          refine vr_iload_n (q := 103) dX9_readsStranger_102 rfl rfl ?_
          refine vr_iconst (q := 104) dX9_readsStranger_103 rfl ⟨by decide, by decide⟩ ?_
          refine vr_iaddN (q := 105) dX9_readsStranger_104 rfl ⟨by omega, by omega⟩ ?_
          refine vr_iload_n (q := 106) dX9_readsStranger_105 rfl rfl ?_
          refine vr_iast (q := 107) dX9_readsStranger_106 rfl ⟨by omega, by omega⟩ ?_
          refine vr_aload_n (q := 108) dX9_readsStranger_107 rfl rfl ?_
          refine vr_getR (q := 111) dX9_readsStranger_108 rfl fX9_28 rfl y_X9_14 (by first | (simp only [Int.reduceAdd]; rfl) | rfl) ?_
          refine vr_iconst (q := 112) dX9_readsStranger_111 rfl ⟨by decide, by decide⟩ ?_
          refine vr_dup2 (q := 113) dX9_readsStranger_112 rfl rfl rfl ?_
          refine vr_ialdV (q := 114) dX9_readsStranger_113 rfl ⟨by omega, by omega⟩ (show _ = L by rw [hs_n (by omega), hs_n (by omega)]; exact eD) ?_
          refine vr_iconst (q := 115) dX9_readsStranger_114 rfl ⟨by decide, by decide⟩ ?_
          refine vr_iaddN (q := 116) dX9_readsStranger_115 rfl ⟨by omega, by omega⟩ ?_
          refine vr_iast (q := 117) dX9_readsStranger_116 rfl ⟨by omega, by omega⟩ ?_
          refine vr_vret dX9_readsStranger_117 rfl ?_
          rw [show 22 + 4 * L + 0 = 22 + 4 * L by omega]; exact kz
        · have n11 : ¬ hC 68 11 = 4 := fun z => c59 (t4.1.mp z)
          refine vr_istore_n (q := 63) dX9_readsStranger_62 rfl rfl (Nat.le_of_ble_eq_true rfl) rfl rfl ?_
          refine vr_aload_n (q := 64) dX9_readsStranger_63 rfl rfl ?_
          refine vr_aload_n (q := 65) dX9_readsStranger_64 rfl rfl ?_
          refine vr_getI (ji := 11) (q := 68) dX9_readsStranger_65 rfl fX9_101 rfl rfl ?_
          refine vr_iconst (q := 69) dX9_readsStranger_68 rfl ⟨by decide, by decide⟩ ?_
          -- at X9.readsStranger 69: .if_icmp .ne 7
          refine vr_ic_ne (t := 76) (q := 72) dX9_readsStranger_69 (by decide) rfl (fun _ => ?_) (fun c9 => absurd c9 (by omega))
          refine vr_iconst (q := 77) dX9_readsStranger_76 rfl ⟨by decide, by decide⟩ ?_
          refine vr_iconst (q := 78) dX9_readsStranger_77 rfl ⟨by decide, by decide⟩ ?_
          -- at X9.readsStranger 78: .invokevirtual 117
          refine vr_iv2 (q := 81) dX9_readsStranger_78 rfl vX9_117 (Nat.le_of_ble_eq_true rfl) ?_
          refine m_takesF zw ?_
          rw [b4.1]
          have zf := flt_s (q := q2) (k := 1) a4
          refine vr_pop (q := 82) dX9_readsStranger_81 rfl rfl ?_
          refine vr_aload_n (q := 83) dX9_readsStranger_82 rfl rfl ?_
          -- at X9.readsStranger 83: .invokevirtual 107
          refine vr_iv0 (q := 86) dX9_readsStranger_83 rfl vX9_107 (Nat.le_of_ble_eq_true rfl) ?_
          refine m_isWell (fun q => absurd q (by rw [zf.2.2.1]; omega)) (fun _ => ?_)
          refine vr_if_eq (t := 117) (q := 89) dX9_readsStranger_86 (by decide) rfl (fun _ => ?_) (fun c9 => absurd c9 (by omega))
          refine vr_vret dX9_readsStranger_117 rfl ?_
          exact kke _ _ _ (r1_e4 z z44 z2 c59) zf
      · have zf := flt_a a3 b3
        have er := rn_er z2
        refine vr_istore_n (q := 63) dX9_readsStranger_62 rfl rfl (Nat.le_of_ble_eq_true rfl) rfl rfl ?_
        -- at X9.readsStranger 63: .aload_n 0
        exact x91 hC _ _ _ (by rw [zf.2.2.1]; have := er.1; omega) (kke _ _ _ (r1_e3 z z44 z2) zf)
      · have zf := flt_a a3 b3
        refine vr_istore_n (q := 63) dX9_readsStranger_62 rfl rfl (Nat.le_of_ble_eq_true rfl) rfl rfl ?_
        -- at X9.readsStranger 63: .aload_n 0
        exact x91 hC _ _ _ (by rw [zf.2.2.1]; omega) (kke _ _ _ (r1_e2 z z44) zf)
    · have zf := flt_a a1 b1
      have er := rn_er z
      refine vr_istore_n (q := 55) dX9_readsStranger_54 rfl rfl (Nat.le_of_ble_eq_true rfl) rfl rfl ?_
      -- at X9.readsStranger 55: .aload_n 0
      exact x56 hB _ (by rw [zf.2.2.1]; have := er.1; omega) (kke _ _ _ (r1_e1 z) zf) _
end PM24_
