/-! the reference's reader: a town -/
theorem r1_b {f : Int → Int} {n p l1 h1 l2 h2 a b q : Int} (z : r1_ (bz_ f n) p l1 h1 l2 h2 = .ok (a, b, q)) : (l1 ≤ a ∧ a ≤ h1) ∧ (l2 ≤ b ∧ b ≤ h2) ∧ p < q ∧ q ≤ n := by
  unfold r1_ at z
  split at z
  · cases z
  · next w p1 e1 =>
    split at z
    · next c44 =>
      split at z
      · cases z
      · next t p3 e2 =>
        split at z
        · next c59 =>
          cases z
          have r1 := rn_ok e1
          have r2 := rn_ok e2
          have i3 := bz_i (f := f) (n := n) (p := p3) (by omega)
          exact ⟨⟨r1.1, r1.2.1⟩, ⟨r2.1, r2.2.1⟩, by omega, by omega⟩
        · cases z
    · cases z
theorem r1_q {f : Int → Int} {n p l1 h1 l2 h2 q k : Int} (hp : 0 ≤ p ∧ p < n) (z : r1_ (bz_ f n) p l1 h1 l2 h2 = .error (q, k)) : 0 ≤ q ∧ q ≤ n := by
  unfold r1_ at z
  split at z
  · next e e1 =>
    cases z
    have r1 := (rn_er e1).1
    dsimp only at r1
    omega
  · next w p1 e1 =>
    have r1 := rn_ok e1
    split at z
    · next c44 =>
      have i1 := bz_i (f := f) (n := n) (p := p1) (by omega)
      split at z
      · next e e2 =>
        cases z
        have r2 := (rn_er e2).1
        dsimp only at r2
        omega
      · next t p3 e2 =>
        have r2 := rn_ok e2
        split at z
        · cases z
        · cases z
          omega
    · cases z
      omega
theorem pl_e {B : Int → Int} {c : Nat} {p : Int} {ls : List (Int × Int × Int)} {e : Int × Int} (hk : ¬ kl_ (B p) = 0) (z : r1_ B p 1 20 0 3 = .error e) : pl_ B (c + 1) p ls = .error e := by
  unfold pl_
  rw [if_neg hk]
  unfold r1_ at z
  split at z
  · next e1 => rw [e1]; exact (by cases z; rfl)
  · next w p1 e1 =>
    rw [e1]
    dsimp only
    split at z
    · next c44 =>
      rw [if_pos c44]
      split at z
      · next e2 => rw [e2]; exact (by cases z; rfl)
      · next t p3 e2 =>
        rw [e2]
        dsimp only
        split at z
        · cases z
        · next c59 => rw [if_neg c59]; exact (by cases z; rfl)
    · next c44 => rw [if_neg c44]; exact (by cases z; rfl)
theorem pl_k {B : Int → Int} {c : Nat} {p a b q : Int} {ls : List (Int × Int × Int)} (hk : ¬ kl_ (B p) = 0) (z : r1_ B p 1 20 0 3 = .ok (a, b, q)) : pl_ B (c + 1) p ls = pl_ B c q (ls ++ [(kl_ (B p), a, b)]) := by
  conv => lhs; unfold pl_
  rw [if_neg hk]
  unfold r1_ at z
  split at z
  · cases z
  · next w p1 e1 =>
    rw [e1]
    dsimp only
    split at z
    · next c44 =>
      rw [if_pos c44]
      split at z
      · cases z
      · next t p3 e2 =>
        rw [e2]
        dsimp only
        split at z
        · next c59 => rw [if_pos c59]; exact (by cases z; rfl)
        · cases z
    · cases z
theorem pl_0 {B : Int → Int} {c : Nat} {p : Int} {ls : List (Int × Int × Int)} (hk : kl_ (B p) = 0) : pl_ B c p ls = .ok (p, ls) := by
  cases c with
  | zero => unfold pl_; rw [if_pos hk]
  | succ c => unfold pl_; rw [if_pos hk]
theorem pl_6 {B : Int → Int} {p : Int} {ls : List (Int × Int × Int)} (hk : ¬ kl_ (B p) = 0) : pl_ B 0 p ls = .error (p, 3) := by
  unfold pl_
  rw [if_neg hk]
theorem ps_e {B : Int → Int} {c : Nat} {p : Int} {ss : List (Int × Int)} {e : Int × Int} (hk : B p = 115) (z : r1_ B p 0 20 0 15 = .error e) : ps_ B (c + 1) p ss = .error e := by
  unfold ps_
  rw [if_pos hk]
  unfold r1_ at z
  split at z
  · next e1 => rw [e1]; exact (by cases z; rfl)
  · next w p1 e1 =>
    rw [e1]
    dsimp only
    split at z
    · next c44 =>
      rw [if_pos c44]
      split at z
      · next e2 => rw [e2]; exact (by cases z; rfl)
      · next t p3 e2 =>
        rw [e2]
        dsimp only
        split at z
        · cases z
        · next c59 => rw [if_neg c59]; exact (by cases z; rfl)
    · next c44 => rw [if_neg c44]; exact (by cases z; rfl)
theorem ps_k {B : Int → Int} {c : Nat} {p a b q : Int} {ss : List (Int × Int)} (hk : B p = 115) (z : r1_ B p 0 20 0 15 = .ok (a, b, q)) : ps_ B (c + 1) p ss = ps_ B c q (ss ++ [(a, b)]) := by
  conv => lhs; unfold ps_
  rw [if_pos hk]
  unfold r1_ at z
  split at z
  · cases z
  · next w p1 e1 =>
    rw [e1]
    dsimp only
    split at z
    · next c44 =>
      rw [if_pos c44]
      split at z
      · cases z
      · next t p3 e2 =>
        rw [e2]
        dsimp only
        split at z
        · next c59 => rw [if_pos c59]; exact (by cases z; rfl)
        · cases z
    · cases z
theorem ps_0 {B : Int → Int} {c : Nat} {p : Int} {ss : List (Int × Int)} (hk : ¬ B p = 115) : ps_ B c p ss = .ok (p, ss) := by
  cases c with
  | zero => unfold ps_; rw [if_neg hk]
  | succ c => unfold ps_; rw [if_neg hk]
theorem ps_4 {B : Int → Int} {p : Int} {ss : List (Int × Int)} (hk : B p = 115) : ps_ B 0 p ss = .error (p, 3) := by
  unfold ps_
  rw [if_pos hk]
/-- the numbers of a town that was read -/
def mdt_ (f : Int → Int) (st : Int) (ls : List (Int × Int × Int)) (ss : List (Int × Int)) : Prop := f 0 = st ∧ f 1 = 0 ∧ f 2 = ls.length ∧ f 3 = ss.length ∧ (∀ (i : Nat) (x : Int × Int × Int), ls[i]? = some x → f (4 + 3 * i) = x.1 ∧ f (4 + 3 * i + 1) = x.2.1 ∧ f (4 + 3 * i + 2) = x.2.2) ∧ (∀ (i : Nat) (x : Int × Int), ss[i]? = some x → f (22 + 4 * i) = x.1 ∧ f (22 + 4 * i + 1) = x.2) ∧ ∀ i : Nat, i < 4 → f (22 + 4 * i + 2) = 0 ∧ f (22 + 4 * i + 3) = 0
theorem ap_1 {α : Type} {ls : List α} {y x : α} {i : Nat} (h : (ls ++ [y])[i]? = some x) : (i < ls.length ∧ ls[i]? = some x) ∨ (i = ls.length ∧ x = y) := by
  rw [List.getElem?_append] at h
  by_cases c : i < ls.length
  · rw [if_pos c] at h
    exact Or.inl ⟨c, h⟩
  · rw [if_neg c] at h
    by_cases e : i - ls.length = 0
    · rw [e] at h
      exact Or.inr ⟨by omega, (Option.some.inj h).symm⟩
    · rw [List.getElem?_eq_none (by rw [List.length_singleton]; omega)] at h
      cases h
theorem mdt_l {hc : SH_} {st L k a b : Int} {ls : List (Int × Int × Int)} (hL : L = ls.length) (h6 : L < 6) (m : mdt_ (hc 75) st ls []) : mdt_ (hs_ (hs_ (hs_ (hs_ hc 75 (4 + 3 * L) k) 75 (4 + 3 * L + 1) a) 75 (4 + 3 * L + 2) b) 75 2 (L + 1) 75) st (ls ++ [(k, a, b)]) [] := by
  obtain ⟨m0, m1, m2, m3, m4, m5, m6⟩ := m
  refine ⟨?_, ?_, ?_, ?_, fun i x hx => ?_, fun i x hx => (by rw [List.getElem?_nil] at hx; cases hx), fun i hi => ?_⟩
  · rw [hs_n (by omega), hs_n (by omega), hs_n (by omega), hs_n (by omega)]; exact m0
  · rw [hs_n (by omega), hs_n (by omega), hs_n (by omega), hs_n (by omega)]; exact m1
  · rw [hs_e, List.length_append, List.length_singleton]; omega
  · rw [hs_n (by omega), hs_n (by omega), hs_n (by omega), hs_n (by omega)]; exact m3
  · rcases ap_1 hx with ⟨c, hx⟩ | ⟨c, hx⟩
    · have z := m4 i x hx
      rw [hs_n (by omega), hs_n (by omega), hs_n (by omega), hs_n (by omega), hs_n (by omega), hs_n (by omega), hs_n (by omega), hs_n (by omega), hs_n (by omega), hs_n (by omega), hs_n (by omega), hs_n (by omega)]
      exact z
    · subst hx
      have e : (i : Int) = L := by omega
      rw [e, hs_n (by omega), hs_n (by omega), hs_n (by omega), hs_e, hs_n (by omega), hs_n (by omega), hs_e, hs_n (by omega), hs_e]
      exact ⟨rfl, rfl, rfl⟩
  · have z := m6 i hi
    rw [hs_n (by omega), hs_n (by omega), hs_n (by omega), hs_n (by omega), hs_n (by omega), hs_n (by omega), hs_n (by omega), hs_n (by omega)]
    exact z
theorem mdt_s {hc : SH_} {st L a b : Int} {ls : List (Int × Int × Int)} {ss : List (Int × Int)} (hL : L = ss.length) (h4 : L < 4) (h6 : ls.length ≤ 6) (m : mdt_ (hc 75) st ls ss) : mdt_ (hs_ (hs_ (hs_ hc 75 (22 + 4 * L) a) 75 (22 + 4 * L + 1) b) 75 3 (L + 1) 75) st ls (ss ++ [(a, b)]) := by
  obtain ⟨m0, m1, m2, m3, m4, m5, m6⟩ := m
  refine ⟨?_, ?_, ?_, ?_, fun i x hx => ?_, fun i x hx => ?_, fun i hi => ?_⟩
  · rw [hs_n (by omega), hs_n (by omega), hs_n (by omega)]; exact m0
  · rw [hs_n (by omega), hs_n (by omega), hs_n (by omega)]; exact m1
  · rw [hs_n (by omega), hs_n (by omega), hs_n (by omega)]; exact m2
  · rw [hs_e, List.length_append, List.length_singleton]; omega
  · have z := m4 i x hx
    have hi := (List.getElem?_eq_some_iff.mp hx).1
    rw [hs_n (by omega), hs_n (by omega), hs_n (by omega), hs_n (by omega), hs_n (by omega), hs_n (by omega), hs_n (by omega), hs_n (by omega), hs_n (by omega)]
    exact z
  · rcases ap_1 hx with ⟨c, hx⟩ | ⟨c, hx⟩
    · have z := m5 i x hx
      rw [hs_n (by omega), hs_n (by omega), hs_n (by omega), hs_n (by omega), hs_n (by omega), hs_n (by omega)]
      exact z
    · subst hx
      have e : (i : Int) = L := by omega
      rw [e, hs_n (by omega), hs_n (by omega), hs_e, hs_n (by omega), hs_e]
      exact ⟨rfl, rfl⟩
  · have z := m6 i hi
    rw [hs_n (by omega), hs_n (by omega), hs_n (by omega), hs_n (by omega), hs_n (by omega), hs_n (by omega)]
    exact z
/-- while it reads: well at p -/
def tws_ (h : SH_) (f : Int → Int) (n p st : Int) (ls : List (Int × Int × Int)) (ss : List (Int × Int)) (hc : SH_) : Prop := (∀ a, a ≠ 68 → a ≠ 75 → hc a = h a) ∧ (∀ b, ¬ (8 ≤ b ∧ b ≤ 12) → hc 68 b = h 68 b) ∧ hc 68 8 < 0 ∧ rwl_ f n p hc ∧ (0 ≤ p ∧ p ≤ n) ∧ mdt_ (hc 75) st ls ss
/-- while it reads: a fault -/
def twf_ (h : SH_) (q k : Int) (hc : SH_) : Prop := (∀ a, a ≠ 68 → a ≠ 75 → hc a = h a) ∧ (∀ b, ¬ (7 ≤ b ∧ b ≤ 12) → hc 68 b = h 68 b) ∧ hc 68 8 = q ∧ hc 68 7 = k
theorem twf_f {h hc h2 : SH_} {q k : Int} (a1 : ∀ a, a ≠ 68 → a ≠ 75 → hc a = h a) (a2 : ∀ b, ¬ (8 ≤ b ∧ b ≤ 12) → hc 68 b = h 68 b) (b : flt_ hc q k h2) : twf_ h q k h2 := ⟨fun x x1 x2 => (b.1 x x1).trans (a1 x x1 x2), fun x hx => (b.2.1 x hx).trans (a2 x (by omega)), b.2.2⟩
def ter_ (h : SH_) (k : Int) (hc : SH_) : Prop := (∀ a, a ≠ 68 → a ≠ 75 → hc a = h a) ∧ (∀ b, ¬ (6 ≤ b ∧ b ≤ 12) → hc 68 b = h 68 b) ∧ hc 68 6 = 0 ∧ hc 68 7 = k
def tok_ (h : SH_) (st : Int) (ls : List (Int × Int × Int)) (ss : List (Int × Int)) (hc : SH_) : Prop := (∀ a, a ≠ 68 → a ≠ 74 → a ≠ 75 → hc a = h a) ∧ (∀ b, ¬ (6 ≤ b ∧ b ≤ 12) → b ≠ 16 → hc 68 b = h 68 b) ∧ hc 68 6 = 0 ∧ hc 68 7 = h 68 7 ∧ hc 68 16 = 0 ∧ mdt_ (hc 74) st ls ss
section PM25_
variable {g : SG_} {d : Nat} {h : SH_} {f : Int → Int} {n : Int} {Post : Option SV_ → SH_ → Prop} {o1 : Option SV_}
theorem e_179 (kf : ∀ q k hc, pt_ (bz_ f n) n = .error (q, k) → ter_ h k hc → Post (some (sv_i (-1000100 - q))) hc) {q k : Int} {hc : SH_} (hq : 0 ≤ q ∧ q ≤ 200) (ep : pt_ (bz_ f n) n = .error (q, k)) (w : twf_ h q k hc) : V_ g (d + 6) mX9_town 179 [some (sv_r 4 8 68), o1] [] hc Post := by
  have z : ter_ h k (hs_ hc 68 6 0) := ⟨fun a a1 a2 => by rw [hs_k a1]; exact w.1 a a1 a2, fun b hb => by rw [hs_n (by omega)]; exact w.2.1 b (by omega), hs_e _ _ _ _, by rw [hs_n (by omega)]; exact w.2.2.2⟩
  have e8 : hs_ hc 68 6 0 68 8 = q := by rw [hs_n (by omega)]; exact w.2.2.1
  refine vr_aload_n (q := 180) dX9_town_179 rfl rfl ?_
  refine vr_iconst (q := 181) dX9_town_180 rfl ⟨by decide, by decide⟩ ?_
  refine vr_put (ji := 6) (q := 184) dX9_town_181 rfl pX9_85 rfl rfl ?_
  refine vr_aload_n (q := 185) dX9_town_184 rfl rfl ?_
  -- at X9.town 185: .invokevirtual 107
  refine vr_iv0 (q := 188) dX9_town_185 rfl vX9_107 (Nat.le_of_ble_eq_true rfl) ?_
  refine m_isWell (fun y => absurd y (by rw [e8]; omega)) (fun _ => ?_)
  refine vr_if_ne (t := 199) (q := 191) dX9_town_188 (by decide) rfl (fun c9 => absurd c9 (by omega)) (fun _ => ?_)
  refine vr_ldc (x := -1000100) (q := 193) dX9_town_191 rfl ⟨by decide, by decide⟩ qX9_136 ?_
  refine vr_aload_n (q := 194) dX9_town_193 rfl rfl ?_
  refine vr_getV (ji := 8) (q := 197) dX9_town_194 rfl fX9_104 rfl rfl e8 ?_
  refine vr_isubN (q := 198) dX9_town_197 rfl ⟨by omega, by omega⟩ ?_
  refine vr_iret dX9_town_198 rfl ?_
  exact kf q k _ ep z
theorem e_158 (kf : ∀ q k hc, pt_ (bz_ f n) n = .error (q, k) → ter_ h k hc → Post (some (sv_i (-1000100 - q))) hc) {q k : Int} {hc : SH_} (hq : 0 ≤ q ∧ q ≤ 200) (ep : pt_ (bz_ f n) n = .error (q, k)) (w : twf_ h q k hc) : V_ g (d + 6) mX9_town 158 [some (sv_r 4 8 68), o1] [] hc Post := by
  refine vr_aload_n (q := 159) dX9_town_158 rfl rfl ?_
  -- at X9.town 159: .invokevirtual 107
  refine vr_iv0 (q := 162) dX9_town_159 rfl vX9_107 (Nat.le_of_ble_eq_true rfl) ?_
  refine m_isWell (fun y => absurd y (by rw [w.2.2.1]; omega)) (fun _ => ?_)
  refine vr_if_eq (t := 179) (q := 165) dX9_town_162 (by decide) rfl (fun _ => ?_) (fun c9 => absurd c9 (by omega))
  exact e_179 kf hq ep w
theorem e_127 (kf : ∀ q k hc, pt_ (bz_ f n) n = .error (q, k) → ter_ h k hc → Post (some (sv_i (-1000100 - q))) hc) {q k : Int} {hc : SH_} (hq : 0 ≤ q ∧ q ≤ 200) (ep : pt_ (bz_ f n) n = .error (q, k)) (w : twf_ h q k hc) : V_ g (d + 6) mX9_town 127 [some (sv_r 4 8 68), o1] [] hc Post := by
  refine vr_aload_n (q := 128) dX9_town_127 rfl rfl ?_
  -- at X9.town 128: .invokevirtual 107
  refine vr_iv0 (q := 131) dX9_town_128 rfl vX9_107 (Nat.le_of_ble_eq_true rfl) ?_
  refine m_isWell (fun y => absurd y (by rw [w.2.2.1]; omega)) (fun _ => ?_)
  refine vr_if_eq (t := 158) (q := 134) dX9_town_131 (by decide) rfl (fun _ => ?_) (fun c9 => absurd c9 (by omega))
  exact e_158 kf hq ep w
theorem e_95 (kf : ∀ q k hc, pt_ (bz_ f n) n = .error (q, k) → ter_ h k hc → Post (some (sv_i (-1000100 - q))) hc) {q k : Int} {hc : SH_} (hq : 0 ≤ q ∧ q ≤ 200) (ep : pt_ (bz_ f n) n = .error (q, k)) (w : twf_ h q k hc) : V_ g (d + 6) mX9_town 95 [some (sv_r 4 8 68), o1] [] hc Post := by
  refine vr_aload_n (q := 96) dX9_town_95 rfl rfl ?_
  -- at X9.town 96: .invokevirtual 107
  refine vr_iv0 (q := 99) dX9_town_96 rfl vX9_107 (Nat.le_of_ble_eq_true rfl) ?_
  refine m_isWell (fun y => absurd y (by rw [w.2.2.1]; omega)) (fun _ => ?_)
  refine vr_if_eq (t := 127) (q := 102) dX9_town_99 (by decide) rfl (fun _ => ?_) (fun c9 => absurd c9 (by omega))
  exact e_127 kf hq ep w
theorem tws_p {p st : Int} {ls : List (Int × Int × Int)} {ss : List (Int × Int)} {hc : SH_} (t : rtp_ f n h) (w : tws_ h f n p st ls ss hc) : rtp_ f n hc := ⟨(w.1 73 (by decide) (by decide)).trans t.1, (w.2.1 6 (by omega)).trans t.2⟩
theorem l_lies {st : Int} (t : rtp_ f n h) (o : tpo_ f n) : ∀ (c : Nat) (ls : List (Int × Int × Int)) (p : Int) (hc : SH_), ls.length + c = 6 → tws_ h f n p st ls [] hc → (∀ p2 ls2 hc, pl_ (bz_ f n) c p ls = .ok (p2, ls2) → ls2.length ≤ 6 → tws_ h f n p2 st ls2 [] hc → V_ g (d + 6) mX9_town 127 [some (sv_r 4 8 68), o1] [] hc Post) → (∀ q k hc, pl_ (bz_ f n) c p ls = .error (q, k) → (0 ≤ q ∧ q ≤ n) → twf_ h q k hc → V_ g (d + 6) mX9_town 95 [some (sv_r 4 8 68), o1] [] hc Post) → V_ g (d + 6) mX9_town 95 [some (sv_r 4 8 68), o1] [] hc Post := by
  intro c
  have on := o.1
  induction c with
  | zero =>
    intro ls p hc hl w ko ke
    obtain ⟨w1, w2, w3, w4, w5, w6⟩ := id w
    have t1 := tkn_1 w4.2.2
    by_cases ck : kl_ (bz_ f n p) = 0
    · have kk := ko p ls hc (pl_0 ck) (by omega) w
      by_cases cT : 97 ≤ bz_ f n p ∧ bz_ f n p ≤ 122
      · refine vr_aload_n (q := 96) dX9_town_95 rfl rfl ?_
        -- at X9.town 96: .invokevirtual 107
        refine vr_iv0 (q := 99) dX9_town_96 rfl vX9_107 (Nat.le_of_ble_eq_true rfl) ?_
        refine m_isWell (fun _ => ?_) (fun y => absurd w3 y)
        refine vr_if_eq (t := 127) (q := 102) dX9_town_99 (by decide) rfl (fun c9 => absurd c9 (by omega)) (fun _ => ?_)
        refine vr_aload_n (q := 103) dX9_town_102 rfl rfl ?_
        refine vr_getV (ji := 11) (q := 106) dX9_town_103 rfl fX9_101 rfl rfl (t1.1.mpr cT) ?_
        refine vr_iconst (q := 107) dX9_town_106 rfl ⟨by decide, by decide⟩ ?_
        -- at X9.town 107: .if_icmp .ne 20
        refine vr_ic_ne (t := 127) (q := 110) dX9_town_107 (by decide) rfl (fun c9 => absurd c9 (by omega)) (fun _ => ?_)
        refine vr_aload_n (q := 111) dX9_town_110 rfl rfl ?_
        refine vr_getV (ji := 12) (q := 114) dX9_town_111 rfl fX9_98 rfl rfl (t1.2.1 cT).1 ?_
        -- at X9.town 114: .invokestatic 124
        refine vr_is1 (q := 117) dX9_town_114 rfl vX9_124 (Nat.le_of_ble_eq_true rfl) ?_
        refine m_kindOf ?_
        refine vr_if_le (t := 127) (q := 120) dX9_town_117 (by decide) rfl (fun _ => ?_) (fun c9 => absurd c9 (by omega))
        exact kk
      · have nT : ¬ hc 68 11 = 1 := fun z => cT (t1.1.mp z)
        refine vr_aload_n (q := 96) dX9_town_95 rfl rfl ?_
        -- at X9.town 96: .invokevirtual 107
        refine vr_iv0 (q := 99) dX9_town_96 rfl vX9_107 (Nat.le_of_ble_eq_true rfl) ?_
        refine m_isWell (fun _ => ?_) (fun y => absurd w3 y)
        refine vr_if_eq (t := 127) (q := 102) dX9_town_99 (by decide) rfl (fun c9 => absurd c9 (by omega)) (fun _ => ?_)
        refine vr_aload_n (q := 103) dX9_town_102 rfl rfl ?_
        refine vr_getI (ji := 11) (q := 106) dX9_town_103 rfl fX9_101 rfl rfl ?_
        refine vr_iconst (q := 107) dX9_town_106 rfl ⟨by decide, by decide⟩ ?_
        -- at X9.town 107: .if_icmp .ne 20
        refine vr_ic_ne (t := 127) (q := 110) dX9_town_107 (by decide) rfl (fun _ => ?_) (fun c9 => absurd c9 (by omega))
        exact kk
    · have cl := kl_l ck
      have cT : 97 ≤ bz_ f n p ∧ bz_ f n p ≤ 122 := ⟨cl.1, cl.2.1⟩
      have hk0 : 0 ≤ kl_ (bz_ f n p) := by
        unfold kl_
        repeat' split
        all_goals decide
      have eL : hc 75 2 = 6 := by rw [w6.2.2.1]; omega
      have kk := fun hc2 q => ke p 3 hc2 (pl_6 ck) w5 q
      refine vr_aload_n (q := 96) dX9_town_95 rfl rfl ?_
      -- at X9.town 96: .invokevirtual 107
      refine vr_iv0 (q := 99) dX9_town_96 rfl vX9_107 (Nat.le_of_ble_eq_true rfl) ?_
      refine m_isWell (fun _ => ?_) (fun y => absurd w3 y)
      refine vr_if_eq (t := 127) (q := 102) dX9_town_99 (by decide) rfl (fun c9 => absurd c9 (by omega)) (fun _ => ?_)
      refine vr_aload_n (q := 103) dX9_town_102 rfl rfl ?_
      refine vr_getV (ji := 11) (q := 106) dX9_town_103 rfl fX9_101 rfl rfl (t1.1.mpr cT) ?_
      refine vr_iconst (q := 107) dX9_town_106 rfl ⟨by decide, by decide⟩ ?_
      -- at X9.town 107: .if_icmp .ne 20
      refine vr_ic_ne (t := 127) (q := 110) dX9_town_107 (by decide) rfl (fun c9 => absurd c9 (by omega)) (fun _ => ?_)
      refine vr_aload_n (q := 111) dX9_town_110 rfl rfl ?_
      refine vr_getV (ji := 12) (q := 114) dX9_town_111 rfl fX9_98 rfl rfl (t1.2.1 cT).1 ?_
      -- at X9.town 114: .invokestatic 124
      refine vr_is1 (q := 117) dX9_town_114 rfl vX9_124 (Nat.le_of_ble_eq_true rfl) ?_
      refine m_kindOf ?_
      refine vr_if_le (t := 127) (q := 120) dX9_town_117 (by decide) rfl (fun c9 => absurd c9 (by omega)) (fun _ => ?_)
      refine vr_aload_n (q := 121) dX9_town_120 rfl rfl ?_
      -- at X9.town 121: .invokevirtual 130
      refine vr_iv0 (q := 124) dX9_town_121 rfl vX9_130 (Nat.le_of_ble_eq_true rfl) ?_
      refine m_readsLie (tws_p t w) o w3 w4 w5 ck eL (by decide) (fun _ h2 b1 => ?_) (fun z => absurd z (by decide)) (fun z => absurd z (by decide))
      refine vr_goto (q := 95) dX9_town_124 (by decide) ?_
      -- at X9.town 95: .aload_n 0
      exact kk h2 (twf_f w1 w2 b1)
  | succ c ih =>
    intro ls p hc hl w ko ke
    obtain ⟨w1, w2, w3, w4, w5, w6⟩ := id w
    have t1 := tkn_1 w4.2.2
    by_cases ck : kl_ (bz_ f n p) = 0
    · have kk := ko p ls hc (pl_0 ck) (by omega) w
      by_cases cT : 97 ≤ bz_ f n p ∧ bz_ f n p ≤ 122
      · refine vr_aload_n (q := 96) dX9_town_95 rfl rfl ?_
        -- at X9.town 96: .invokevirtual 107
        refine vr_iv0 (q := 99) dX9_town_96 rfl vX9_107 (Nat.le_of_ble_eq_true rfl) ?_
        refine m_isWell (fun _ => ?_) (fun y => absurd w3 y)
        refine vr_if_eq (t := 127) (q := 102) dX9_town_99 (by decide) rfl (fun c9 => absurd c9 (by omega)) (fun _ => ?_)
        refine vr_aload_n (q := 103) dX9_town_102 rfl rfl ?_
        refine vr_getV (ji := 11) (q := 106) dX9_town_103 rfl fX9_101 rfl rfl (t1.1.mpr cT) ?_
        refine vr_iconst (q := 107) dX9_town_106 rfl ⟨by decide, by decide⟩ ?_
        -- at X9.town 107: .if_icmp .ne 20
        refine vr_ic_ne (t := 127) (q := 110) dX9_town_107 (by decide) rfl (fun c9 => absurd c9 (by omega)) (fun _ => ?_)
        refine vr_aload_n (q := 111) dX9_town_110 rfl rfl ?_
        refine vr_getV (ji := 12) (q := 114) dX9_town_111 rfl fX9_98 rfl rfl (t1.2.1 cT).1 ?_
        -- at X9.town 114: .invokestatic 124
        refine vr_is1 (q := 117) dX9_town_114 rfl vX9_124 (Nat.le_of_ble_eq_true rfl) ?_
        refine m_kindOf ?_
        refine vr_if_le (t := 127) (q := 120) dX9_town_117 (by decide) rfl (fun _ => ?_) (fun c9 => absurd c9 (by omega))
        exact kk
      · have nT : ¬ hc 68 11 = 1 := fun z => cT (t1.1.mp z)
        refine vr_aload_n (q := 96) dX9_town_95 rfl rfl ?_
        -- at X9.town 96: .invokevirtual 107
        refine vr_iv0 (q := 99) dX9_town_96 rfl vX9_107 (Nat.le_of_ble_eq_true rfl) ?_
        refine m_isWell (fun _ => ?_) (fun y => absurd w3 y)
        refine vr_if_eq (t := 127) (q := 102) dX9_town_99 (by decide) rfl (fun c9 => absurd c9 (by omega)) (fun _ => ?_)
        refine vr_aload_n (q := 103) dX9_town_102 rfl rfl ?_
        refine vr_getI (ji := 11) (q := 106) dX9_town_103 rfl fX9_101 rfl rfl ?_
        refine vr_iconst (q := 107) dX9_town_106 rfl ⟨by decide, by decide⟩ ?_
        -- at X9.town 107: .if_icmp .ne 20
        refine vr_ic_ne (t := 127) (q := 110) dX9_town_107 (by decide) rfl (fun _ => ?_) (fun c9 => absurd c9 (by omega))
        exact kk
    · have cl := kl_l ck
      have cT : 97 ≤ bz_ f n p ∧ bz_ f n p ≤ 122 := ⟨cl.1, cl.2.1⟩
      have hk0 : 0 ≤ kl_ (bz_ f n p) := by
        unfold kl_
        repeat' split
        all_goals decide
      have hpn := ((bz_r o p).2.2.mp (by omega)).2
      have eL : hc 75 2 = ls.length := w6.2.2.1
      refine vr_aload_n (q := 96) dX9_town_95 rfl rfl ?_
      -- at X9.town 96: .invokevirtual 107
      refine vr_iv0 (q := 99) dX9_town_96 rfl vX9_107 (Nat.le_of_ble_eq_true rfl) ?_
      refine m_isWell (fun _ => ?_) (fun y => absurd w3 y)
      refine vr_if_eq (t := 127) (q := 102) dX9_town_99 (by decide) rfl (fun c9 => absurd c9 (by omega)) (fun _ => ?_)
      refine vr_aload_n (q := 103) dX9_town_102 rfl rfl ?_
      refine vr_getV (ji := 11) (q := 106) dX9_town_103 rfl fX9_101 rfl rfl (t1.1.mpr cT) ?_
      refine vr_iconst (q := 107) dX9_town_106 rfl ⟨by decide, by decide⟩ ?_
      -- at X9.town 107: .if_icmp .ne 20
      refine vr_ic_ne (t := 127) (q := 110) dX9_town_107 (by decide) rfl (fun c9 => absurd c9 (by omega)) (fun _ => ?_)
      refine vr_aload_n (q := 111) dX9_town_110 rfl rfl ?_
      refine vr_getV (ji := 12) (q := 114) dX9_town_111 rfl fX9_98 rfl rfl (t1.2.1 cT).1 ?_
      -- at X9.town 114: .invokestatic 124
      refine vr_is1 (q := 117) dX9_town_114 rfl vX9_124 (Nat.le_of_ble_eq_true rfl) ?_
      refine m_kindOf ?_
      refine vr_if_le (t := 127) (q := 120) dX9_town_117 (by decide) rfl (fun c9 => absurd c9 (by omega)) (fun _ => ?_)
      refine vr_aload_n (q := 121) dX9_town_120 rfl rfl ?_
      -- at X9.town 121: .invokevirtual 130
      refine vr_iv0 (q := 124) dX9_town_121 rfl vX9_130 (Nat.le_of_ble_eq_true rfl) ?_
      refine m_readsLie (tws_p t w) o w3 w4 w5 ck eL ⟨by omega, by omega⟩ (fun z => absurd z (by omega)) (fun _ a b q h2 z b1 b2 => ?_) (fun _ q k h2 z b1 => ?_)
      · have rb := r1_b z
        have epl := pl_k (c := c) (ls := ls) ck z
        rw [epl] at ko ke
        refine vr_goto (q := 95) dX9_town_124 (by decide) ?_
        -- at X9.town 95: .aload_n 0
        refine ih (ls ++ [(kl_ (bz_ f n p), a, b)]) q _ (by rw [List.length_append, List.length_singleton]; omega) ⟨fun x x1 x2 => ?_, fun x hx => ?_, ?_, ?_, ⟨by omega, by omega⟩, mdt_l rfl (by omega) (by rw [b1.1 75 (by decide)]; exact w6)⟩ ko ke
        · rw [hs_k x2, hs_k x2, hs_k x2, hs_k x2, b1.1 x x1]; exact w1 x x1 x2
        · rw [hs_k (by decide), hs_k (by decide), hs_k (by decide), hs_k (by decide), b1.2 x (by omega)]; exact w2 x hx
        · rw [hs_k (by decide), hs_k (by decide), hs_k (by decide), hs_k (by decide), b1.2 8 (by omega)]; exact w3
        · unfold rwl_
          rw [hs_k (by decide), hs_k (by decide), hs_k (by decide), hs_k (by decide)]
          exact b2
      · have epl := pl_e (c := c) (ls := ls) ck z
        refine vr_goto (q := 95) dX9_town_124 (by decide) ?_
        -- at X9.town 95: .aload_n 0
        exact ke q k h2 epl (r1_q ⟨w5.1, hpn⟩ z) (twf_f w1 w2 b1)
theorem l_strs {st : Int} {ls : List (Int × Int × Int)} (t : rtp_ f n h) (o : tpo_ f n) (h6 : ls.length ≤ 6) : ∀ (c : Nat) (ss : List (Int × Int)) (p : Int) (hc : SH_), ss.length + c = 4 → tws_ h f n p st ls ss hc → (∀ p2 ss2 hc, ps_ (bz_ f n) c p ss = .ok (p2, ss2) → ss2.length ≤ 4 → tws_ h f n p2 st ls ss2 hc → V_ g (d + 6) mX9_town 158 [some (sv_r 4 8 68), o1] [] hc Post) → (∀ q k hc, ps_ (bz_ f n) c p ss = .error (q, k) → (0 ≤ q ∧ q ≤ n) → twf_ h q k hc → V_ g (d + 6) mX9_town 127 [some (sv_r 4 8 68), o1] [] hc Post) → V_ g (d + 6) mX9_town 127 [some (sv_r 4 8 68), o1] [] hc Post := by
  intro c
  have on := o.1
  induction c with
  | zero =>
    intro ss p hc hl w ko ke
    obtain ⟨w1, w2, w3, w4, w5, w6⟩ := id w
    have t1 := tkn_1 w4.2.2
    by_cases ck : bz_ f n p = 115
    · have cT : 97 ≤ bz_ f n p ∧ bz_ f n p ≤ 122 := ⟨by omega, by omega⟩
      have eL : hc 75 3 = 4 := by rw [w6.2.2.2.1]; omega
      have kk := fun hc2 q => ke p 3 hc2 (ps_4 ck) w5 q
      refine vr_aload_n (q := 128) dX9_town_127 rfl rfl ?_
      -- at X9.town 128: .invokevirtual 107
      refine vr_iv0 (q := 131) dX9_town_128 rfl vX9_107 (Nat.le_of_ble_eq_true rfl) ?_
      refine m_isWell (fun _ => ?_) (fun y => absurd w3 y)
      refine vr_if_eq (t := 158) (q := 134) dX9_town_131 (by decide) rfl (fun c9 => absurd c9 (by omega)) (fun _ => ?_)
      refine vr_aload_n (q := 135) dX9_town_134 rfl rfl ?_
      refine vr_getV (ji := 11) (q := 138) dX9_town_135 rfl fX9_101 rfl rfl (t1.1.mpr cT) ?_
      refine vr_iconst (q := 139) dX9_town_138 rfl ⟨by decide, by decide⟩ ?_
      -- at X9.town 139: .if_icmp .ne 19
      refine vr_ic_ne (t := 158) (q := 142) dX9_town_139 (by decide) rfl (fun c9 => absurd c9 (by omega)) (fun _ => ?_)
      refine vr_aload_n (q := 143) dX9_town_142 rfl rfl ?_
      refine vr_getV (ji := 12) (q := 146) dX9_town_143 rfl fX9_98 rfl rfl (t1.2.1 cT).1 ?_
      refine vr_bipush (q := 148) dX9_town_146 rfl ⟨by decide, by decide⟩ (by decide) ?_
      -- at X9.town 148: .if_icmp .ne 10
      refine vr_ic_ne (t := 158) (q := 151) dX9_town_148 (by decide) rfl (fun c9 => absurd c9 (by omega)) (fun _ => ?_)
      refine vr_aload_n (q := 152) dX9_town_151 rfl rfl ?_
      -- at X9.town 152: .invokevirtual 133
      refine vr_iv0 (q := 155) dX9_town_152 rfl vX9_133 (Nat.le_of_ble_eq_true rfl) ?_
      refine m_readsStranger (tws_p t w) o w3 w4 w5 ck eL (by decide) (fun _ h2 b1 => ?_) (fun z => absurd z (by decide)) (fun z => absurd z (by decide))
      refine vr_goto (q := 127) dX9_town_155 (by decide) ?_
      -- at X9.town 127: .aload_n 0
      exact kk h2 (twf_f w1 w2 b1)
    · have kk := ko p ss hc (ps_0 ck) (by omega) w
      by_cases cT : 97 ≤ bz_ f n p ∧ bz_ f n p ≤ 122
      · refine vr_aload_n (q := 128) dX9_town_127 rfl rfl ?_
        -- at X9.town 128: .invokevirtual 107
        refine vr_iv0 (q := 131) dX9_town_128 rfl vX9_107 (Nat.le_of_ble_eq_true rfl) ?_
        refine m_isWell (fun _ => ?_) (fun y => absurd w3 y)
        refine vr_if_eq (t := 158) (q := 134) dX9_town_131 (by decide) rfl (fun c9 => absurd c9 (by omega)) (fun _ => ?_)
        refine vr_aload_n (q := 135) dX9_town_134 rfl rfl ?_
        refine vr_getV (ji := 11) (q := 138) dX9_town_135 rfl fX9_101 rfl rfl (t1.1.mpr cT) ?_
        refine vr_iconst (q := 139) dX9_town_138 rfl ⟨by decide, by decide⟩ ?_
        -- at X9.town 139: .if_icmp .ne 19
        refine vr_ic_ne (t := 158) (q := 142) dX9_town_139 (by decide) rfl (fun c9 => absurd c9 (by omega)) (fun _ => ?_)
        refine vr_aload_n (q := 143) dX9_town_142 rfl rfl ?_
        refine vr_getV (ji := 12) (q := 146) dX9_town_143 rfl fX9_98 rfl rfl (t1.2.1 cT).1 ?_
        refine vr_bipush (q := 148) dX9_town_146 rfl ⟨by decide, by decide⟩ (by decide) ?_
        -- at X9.town 148: .if_icmp .ne 10
        refine vr_ic_ne (t := 158) (q := 151) dX9_town_148 (by decide) rfl (fun _ => ?_) (fun c9 => absurd c9 (by omega))
        exact kk
      · have nT : ¬ hc 68 11 = 1 := fun z => cT (t1.1.mp z)
        refine vr_aload_n (q := 128) dX9_town_127 rfl rfl ?_
        -- at X9.town 128: .invokevirtual 107
        refine vr_iv0 (q := 131) dX9_town_128 rfl vX9_107 (Nat.le_of_ble_eq_true rfl) ?_
        refine m_isWell (fun _ => ?_) (fun y => absurd w3 y)
        refine vr_if_eq (t := 158) (q := 134) dX9_town_131 (by decide) rfl (fun c9 => absurd c9 (by omega)) (fun _ => ?_)
        refine vr_aload_n (q := 135) dX9_town_134 rfl rfl ?_
        refine vr_getI (ji := 11) (q := 138) dX9_town_135 rfl fX9_101 rfl rfl ?_
        refine vr_iconst (q := 139) dX9_town_138 rfl ⟨by decide, by decide⟩ ?_
        -- at X9.town 139: .if_icmp .ne 19
        refine vr_ic_ne (t := 158) (q := 142) dX9_town_139 (by decide) rfl (fun _ => ?_) (fun c9 => absurd c9 (by omega))
        exact kk
  | succ c ih =>
    intro ss p hc hl w ko ke
    obtain ⟨w1, w2, w3, w4, w5, w6⟩ := id w
    have t1 := tkn_1 w4.2.2
    by_cases ck : bz_ f n p = 115
    · have cT : 97 ≤ bz_ f n p ∧ bz_ f n p ≤ 122 := ⟨by omega, by omega⟩
      have hpn := ((bz_r o p).2.2.mp (by omega)).2
      have eL : hc 75 3 = ss.length := w6.2.2.2.1
      refine vr_aload_n (q := 128) dX9_town_127 rfl rfl ?_
      -- at X9.town 128: .invokevirtual 107
      refine vr_iv0 (q := 131) dX9_town_128 rfl vX9_107 (Nat.le_of_ble_eq_true rfl) ?_
      refine m_isWell (fun _ => ?_) (fun y => absurd w3 y)
      refine vr_if_eq (t := 158) (q := 134) dX9_town_131 (by decide) rfl (fun c9 => absurd c9 (by omega)) (fun _ => ?_)
      refine vr_aload_n (q := 135) dX9_town_134 rfl rfl ?_
      refine vr_getV (ji := 11) (q := 138) dX9_town_135 rfl fX9_101 rfl rfl (t1.1.mpr cT) ?_
      refine vr_iconst (q := 139) dX9_town_138 rfl ⟨by decide, by decide⟩ ?_
      -- at X9.town 139: .if_icmp .ne 19
      refine vr_ic_ne (t := 158) (q := 142) dX9_town_139 (by decide) rfl (fun c9 => absurd c9 (by omega)) (fun _ => ?_)
      refine vr_aload_n (q := 143) dX9_town_142 rfl rfl ?_
      refine vr_getV (ji := 12) (q := 146) dX9_town_143 rfl fX9_98 rfl rfl (t1.2.1 cT).1 ?_
      refine vr_bipush (q := 148) dX9_town_146 rfl ⟨by decide, by decide⟩ (by decide) ?_
      -- at X9.town 148: .if_icmp .ne 10
      refine vr_ic_ne (t := 158) (q := 151) dX9_town_148 (by decide) rfl (fun c9 => absurd c9 (by omega)) (fun _ => ?_)
      refine vr_aload_n (q := 152) dX9_town_151 rfl rfl ?_
      -- at X9.town 152: .invokevirtual 133
      refine vr_iv0 (q := 155) dX9_town_152 rfl vX9_133 (Nat.le_of_ble_eq_true rfl) ?_
      refine m_readsStranger (tws_p t w) o w3 w4 w5 ck eL ⟨by omega, by omega⟩ (fun z => absurd z (by omega)) (fun _ a b q h2 z b1 b2 => ?_) (fun _ q k h2 z b1 => ?_)
      · have rb := r1_b z
        have epl := ps_k (c := c) (ss := ss) ck z
        rw [epl] at ko ke
        refine vr_goto (q := 127) dX9_town_155 (by decide) ?_
        -- at X9.town 127: .aload_n 0
        refine ih (ss ++ [(a, b)]) q _ (by rw [List.length_append, List.length_singleton]; omega) ⟨fun x x1 x2 => ?_, fun x hx => ?_, ?_, ?_, ⟨by omega, by omega⟩, mdt_s rfl (by omega) h6 (by rw [b1.1 75 (by decide)]; exact w6)⟩ ko ke
        · rw [hs_k x2, hs_k x2, hs_k x2, b1.1 x x1]; exact w1 x x1 x2
        · rw [hs_k (by decide), hs_k (by decide), hs_k (by decide), b1.2 x (by omega)]; exact w2 x hx
        · rw [hs_k (by decide), hs_k (by decide), hs_k (by decide), b1.2 8 (by omega)]; exact w3
        · unfold rwl_
          rw [hs_k (by decide), hs_k (by decide), hs_k (by decide)]
          exact b2
      · have epl := ps_e (c := c) (ss := ss) ck z
        refine vr_goto (q := 127) dX9_town_155 (by decide) ?_
        -- at X9.town 127: .aload_n 0
        exact ke q k h2 epl (r1_q ⟨w5.1, hpn⟩ z) (twf_f w1 w2 b1)
    · have kk := ko p ss hc (ps_0 ck) (by omega) w
      by_cases cT : 97 ≤ bz_ f n p ∧ bz_ f n p ≤ 122
      · refine vr_aload_n (q := 128) dX9_town_127 rfl rfl ?_
        -- at X9.town 128: .invokevirtual 107
        refine vr_iv0 (q := 131) dX9_town_128 rfl vX9_107 (Nat.le_of_ble_eq_true rfl) ?_
        refine m_isWell (fun _ => ?_) (fun y => absurd w3 y)
        refine vr_if_eq (t := 158) (q := 134) dX9_town_131 (by decide) rfl (fun c9 => absurd c9 (by omega)) (fun _ => ?_)
        refine vr_aload_n (q := 135) dX9_town_134 rfl rfl ?_
        refine vr_getV (ji := 11) (q := 138) dX9_town_135 rfl fX9_101 rfl rfl (t1.1.mpr cT) ?_
        refine vr_iconst (q := 139) dX9_town_138 rfl ⟨by decide, by decide⟩ ?_
        -- at X9.town 139: .if_icmp .ne 19
        refine vr_ic_ne (t := 158) (q := 142) dX9_town_139 (by decide) rfl (fun c9 => absurd c9 (by omega)) (fun _ => ?_)
        refine vr_aload_n (q := 143) dX9_town_142 rfl rfl ?_
        refine vr_getV (ji := 12) (q := 146) dX9_town_143 rfl fX9_98 rfl rfl (t1.2.1 cT).1 ?_
        refine vr_bipush (q := 148) dX9_town_146 rfl ⟨by decide, by decide⟩ (by decide) ?_
        -- at X9.town 148: .if_icmp .ne 10
        refine vr_ic_ne (t := 158) (q := 151) dX9_town_148 (by decide) rfl (fun _ => ?_) (fun c9 => absurd c9 (by omega))
        exact kk
      · have nT : ¬ hc 68 11 = 1 := fun z => cT (t1.1.mp z)
        refine vr_aload_n (q := 128) dX9_town_127 rfl rfl ?_
        -- at X9.town 128: .invokevirtual 107
        refine vr_iv0 (q := 131) dX9_town_128 rfl vX9_107 (Nat.le_of_ble_eq_true rfl) ?_
        refine m_isWell (fun _ => ?_) (fun y => absurd w3 y)
        refine vr_if_eq (t := 158) (q := 134) dX9_town_131 (by decide) rfl (fun c9 => absurd c9 (by omega)) (fun _ => ?_)
        refine vr_aload_n (q := 135) dX9_town_134 rfl rfl ?_
        refine vr_getI (ji := 11) (q := 138) dX9_town_135 rfl fX9_101 rfl rfl ?_
        refine vr_iconst (q := 139) dX9_town_138 rfl ⟨by decide, by decide⟩ ?_
        -- at X9.town 139: .if_icmp .ne 19
        refine vr_ic_ne (t := 158) (q := 142) dX9_town_139 (by decide) rfl (fun _ => ?_) (fun c9 => absurd c9 (by omega))
        exact kk
end PM25_
