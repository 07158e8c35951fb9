/-! what ties the class to the reference -/
def tgo_ (p : SH_) (K : Int) : Prop := (0 ≤ p K 2 ∧ p K 2 ≤ 6) ∧ (0 ≤ p K 3 ∧ p K 3 ≤ 4) ∧ (0 ≤ p K 0 ∧ p K 0 ≤ 9) ∧ (∀ l, 0 ≤ l → l < p K 2 → lo_ (p (K + 1) l) (p (K + 2) l) (p (K + 3) l)) ∧
  (∀ s, 0 ≤ s → s < p K 3 → (0 ≤ p (K + 4) s ∧ p (K + 4) s ≤ 20) ∧ (0 ≤ p (K + 5) s ∧ p (K + 5) s < 16) ∧ (0 ≤ p (K + 6) s ∧ p (K + 6) s < 64) ∧ (0 ≤ p (K + 7) s ∧ p (K + 7) s < 64))
/-- the class's town at K has the numbers f -/
def twn_ (p : SH_) (K : Int) (f : Int → Int) : Prop := tgo_ p K ∧ (f 0 = p K 0 ∧ f 1 = p K 1 ∧ f 2 = p K 2 ∧ f 3 = p K 3) ∧ (∀ l, 0 ≤ l → l < p K 2 → f (4 + 3 * l) = p (K + 1) l ∧ f (4 + 3 * l + 1) = p (K + 2) l ∧ f (4 + 3 * l + 2) = p (K + 3) l) ∧ (∀ s, 0 ≤ s → s < p K 3 → f (22 + 4 * s) = p (K + 4) s ∧ f (22 + 4 * s + 1) = p (K + 5) s ∧ f (22 + 4 * s + 2) = p (K + 6) s ∧ f (22 + 4 * s + 3) = p (K + 7) s)
theorem twn_7 (p h : SH_) : twn_ p 7 (h 74) ↔ cpl_ p h := Iff.rfl
theorem twn_c {p q : SH_} {K : Int} {f k : Int → Int} (e : ∀ a, K ≤ a → a ≤ K + 7 → q a = p a) (ef : ∀ b, 0 ≤ b → b < 38 → k b = f b) (t : twn_ p K f) : twn_ q K k := by
  unfold twn_ tgo_ at t ⊢
  rw [e K (by omega) (by omega), e (K + 1) (by omega) (by omega), e (K + 2) (by omega) (by omega), e (K + 3) (by omega) (by omega), e (K + 4) (by omega) (by omega), e (K + 5) (by omega) (by omega), e (K + 6) (by omega) (by omega), e (K + 7) (by omega) (by omega)]
  obtain ⟨o, ⟨t0, t1, t2, t3⟩, t4, t5⟩ := t
  have o1 := o.1
  have o2 := o.2.1
  refine ⟨o, ⟨by rw [ef 0 (by decide) (by decide)]; exact t0, by rw [ef 1 (by decide) (by decide)]; exact t1, by rw [ef 2 (by decide) (by decide)]; exact t2, by rw [ef 3 (by decide) (by decide)]; exact t3⟩, fun l l0 l1 => ?_, fun s s0 s1 => ?_⟩
  · rw [ef _ (by omega) (by omega), ef _ (by omega) (by omega), ef _ (by omega) (by omega)]; exact t4 l l0 l1
  · rw [ef _ (by omega) (by omega), ef _ (by omega) (by omega), ef _ (by omega) (by omega), ef _ (by omega) (by omega)]; exact t5 s s0 s1
/-- a town that was copied -/
theorem twn_tc {h hc : SH_} {k o : Int} {f f2 : Int → Int} (t : twn_ h o f) (c : tc_ h k o 6 4 hc) (ef : ∀ b, 0 ≤ b → b < 38 → f2 b = f b) : twn_ hc k f2 := by
  obtain ⟨⟨o1, o2, o3, o4, o5⟩, ⟨t0, t1, t2, t3⟩, t4, t5⟩ := t
  obtain ⟨c1, c2, c3, c4⟩ := c
  have e0 := c2 0 (by decide) (by decide)
  have e1 := c2 1 (by decide) (by decide)
  have e2 := c2 2 (by decide) (by decide)
  have e3 := c2 3 (by decide) (by decide)
  unfold twn_ tgo_
  rw [e0, e1, e2, e3]
  refine ⟨⟨o1, o2, o3, fun l l0 l1 => ?_, fun s s0 s1 => ?_⟩, ⟨by rw [ef 0 (by decide) (by decide)]; exact t0, by rw [ef 1 (by decide) (by decide)]; exact t1, by rw [ef 2 (by decide) (by decide)]; exact t2, by rw [ef 3 (by decide) (by decide)]; exact t3⟩, fun l l0 l1 => ?_, fun s s0 s1 => ?_⟩
  · obtain ⟨a1, a2, a3⟩ := c3 l l0 (by omega)
    rw [a1, a2, a3]; exact o4 l l0 l1
  · obtain ⟨a1, a2, a3, a4⟩ := c4 s s0 (by omega)
    rw [a1, a2, a3, a4]; exact o5 s s0 s1
  · obtain ⟨a1, a2, a3⟩ := c3 l l0 (by omega)
    rw [a1, a2, a3, ef _ (by omega) (by omega), ef _ (by omega) (by omega), ef _ (by omega) (by omega)]; exact t4 l l0 l1
  · obtain ⟨a1, a2, a3, a4⟩ := c4 s s0 (by omega)
    rw [a1, a2, a3, a4, ef _ (by omega) (by omega), ef _ (by omega) (by omega), ef _ (by omega) (by omega), ef _ (by omega) (by omega)]; exact t5 s s0 s1
def img_ (h : SH_) : Prop := ∀ k, 0 ≤ k → k < 2 → (h 78 k = 0 ∧ ¬ 0 < h (23 + 8 * k) 0) ∨ (¬ h 78 k = 0 ∧ 0 < h (23 + 8 * k) 0 ∧ twn_ h (23 + 8 * k) (fun b => h 77 (38 * k + b)))
/-- the place of the i-th of A acts, if the next comes to N -/
def asl_ (N A i : Int) : Int := if N - A + i < 0 then N - A + i + 24 else N - A + i
/-- the reference's town ahead of the i-th of A acts -/
def snp_ (h : SH_) (A i : Int) : Int → Int := fun b => if i = A then h 74 b else h 76 (38 * i + b)
def lnk_ (p : SH_) (sl n : Int) (f1 f2 : Int → Int) : Prop := (0 ≤ p 41 sl ∧ p 41 sl < n) ∧ (0 ≤ p 42 sl ∧ p 42 sl ≤ 20) ∧ (0 ≤ p 43 sl ∧ p 43 sl < 64) ∧ (0 ≤ p 44 sl ∧ p 44 sl < 64) ∧ f1 (22 + 4 * p 41 sl) = p 42 sl ∧ f1 (22 + 4 * p 41 sl + 2) = p 43 sl ∧ f1 (22 + 4 * p 41 sl + 3) = p 44 sl ∧ f1 1 = p 45 sl ∧ ∀ b, 0 ≤ b → b < 38 → b ≠ 1 → b ≠ 22 + 4 * p 41 sl → b ≠ 22 + 4 * p 41 sl + 2 → b ≠ 22 + 4 * p 41 sl + 3 → f1 b = f2 b
def act_ (h : SH_) : Prop := (0 ≤ h 40 6 ∧ h 40 6 ≤ 24) ∧ h 68 16 = h 40 6 ∧ (0 ≤ h 40 5 ∧ h 40 5 < 24) ∧ ∀ i, 0 ≤ i → i < h 40 6 → lnk_ h (asl_ (h 40 5) (h 40 6) i) (h 7 3) (snp_ h (h 40 6) i) (snp_ h (h 40 6) (i + 1))
def tap_ (h : SH_) : Prop := (0 ≤ h 5 1 ∧ h 5 1 ≤ 120) ∧ h 68 6 = h 5 1 ∧ h 68 7 = h 5 3 ∧ ∀ i, 0 ≤ i → i < h 5 1 → h 73 i = h 6 i ∧ 0 ≤ h 6 i ∧ h 6 i ≤ 255
def J_ (h : SH_) : Prop := cpl_ h h ∧ rcp_ h h ∧ trc_ h h ∧ h 68 4 = h 0 8 ∧ tap_ h ∧ img_ h ∧ act_ h
/-- the parts, under a change of cells that they don't look at -/
theorem img_k {h hc : SH_} (e : ∀ a, 23 ≤ a → a ≤ 38 → hc a = h a) (e1 : hc 77 = h 77) (e2 : hc 78 = h 78) (m : img_ h) : img_ hc := by
  intro k k0 k1
  rw [e2, e (23 + 8 * k) (by omega) (by omega), e1]
  rcases m k k0 k1 with z | ⟨z1, z2, z3⟩
  · exact Or.inl z
  · exact Or.inr ⟨z1, z2, twn_c (fun a a0 a1 => e a (by omega) (by omega)) (fun b _ _ => rfl) z3⟩
theorem act_k {h hc : SH_} (e : ∀ a, 40 ≤ a → a ≤ 45 → hc a = h a) (e1 : hc 7 3 = h 7 3) (e2 : hc 74 = h 74) (e3 : hc 76 = h 76) (e4 : hc 68 16 = h 68 16) (m : act_ h) : act_ hc := by
  unfold act_ lnk_ snp_ at m ⊢
  rw [e 40 (by decide) (by decide), e 41 (by decide) (by decide), e 42 (by decide) (by decide), e 43 (by decide) (by decide), e 44 (by decide) (by decide), e 45 (by decide) (by decide), e1, e2, e3, e4]
  exact m
theorem tap_k {h hc : SH_} (e5 : hc 5 = h 5) (e6 : hc 6 = h 6) (e73 : hc 73 = h 73) (e1 : hc 68 6 = h 68 6) (e2 : hc 68 7 = h 68 7) (m : tap_ h) : tap_ hc := by
  unfold tap_ at m ⊢
  rw [e5, e6, e73, e1, e2]
  exact m
theorem trc_k {h hc : SH_} (e66 : hc 66 1 = h 66 1) (e67 : hc 67 = h 67) (e79 : hc 79 = h 79) (e1 : hc 68 20 = h 68 20) (m : trc_ h h) : trc_ hc hc := by
  unfold trc_ at m ⊢
  rw [e66, e67, e79, e1]
  exact m
theorem rcp_2 {h hc : SH_} (e2 : hc 2 = h 2) (e3 : hc 3 = h 3) (e4 : hc 4 = h 4) (e69 : hc 69 = h 69) (e70 : hc 70 = h 70) (e71 : hc 71 = h 71) (m : rcp_ h h) : rcp_ hc hc := by
  unfold rcp_ at m ⊢
  rw [e2, e3, e4, e69, e70, e71]
  exact m
theorem cpl_2 {h hc : SH_} (e : ∀ a, 7 ≤ a → a ≤ 14 → hc a = h a) (e74 : hc 74 = h 74) (m : cpl_ h h) : cpl_ hc hc := cpl_p e (cpl_k e74 m)
/-- what both scratch while they foretell -/
def jsc_ (h hc : SH_) : Prop := (∀ a, (a < 46 ∨ 65 < a) → a ≠ 0 → a ≠ 68 → a ≠ 80 → a ≠ 81 → a ≠ 82 → hc a = h a) ∧ ∀ b, b ≤ 20 → b ≠ 4 → hc 68 b = h 68 b
theorem J_s {h hc : SH_} (s : jsc_ h hc) (e : hc 68 4 = hc 0 8) (j : J_ h) : J_ hc := by
  obtain ⟨s1, s2⟩ := s
  obtain ⟨j1, j2, j3, j4, j5, j6, j7⟩ := j
  have c : ∀ a, (a < 46 ∨ 65 < a) → a ≠ 0 → a ≠ 68 → a ≠ 80 → a ≠ 81 → a ≠ 82 → hc a = h a := s1
  refine ⟨cpl_2 (fun a _ _ => c a (by omega) (by omega) (by omega) (by omega) (by omega) (by omega)) (c 74 (by omega) (by omega) (by omega) (by omega) (by omega) (by omega)) j1, rcp_2 (c 2 (by omega) (by omega) (by omega) (by omega) (by omega) (by omega)) (c 3 (by omega) (by omega) (by omega) (by omega) (by omega) (by omega)) (c 4 (by omega) (by omega) (by omega) (by omega) (by omega) (by omega)) (c 69 (by omega) (by omega) (by omega) (by omega) (by omega) (by omega)) (c 70 (by omega) (by omega) (by omega) (by omega) (by omega) (by omega)) (c 71 (by omega) (by omega) (by omega) (by omega) (by omega) (by omega)) j2, trc_k (by rw [c 66 (by omega) (by omega) (by omega) (by omega) (by omega) (by omega)]) (c 67 (by omega) (by omega) (by omega) (by omega) (by omega) (by omega)) (c 79 (by omega) (by omega) (by omega) (by omega) (by omega) (by omega)) (s2 20 (by omega) (by omega)) j3, e, tap_k (c 5 (by omega) (by omega) (by omega) (by omega) (by omega) (by omega)) (c 6 (by omega) (by omega) (by omega) (by omega) (by omega) (by omega)) (c 73 (by omega) (by omega) (by omega) (by omega) (by omega) (by omega)) (s2 6 (by omega) (by omega)) (s2 7 (by omega) (by omega)) j5, img_k (fun a _ _ => c a (by omega) (by omega) (by omega) (by omega) (by omega) (by omega)) (c 77 (by omega) (by omega) (by omega) (by omega) (by omega) (by omega)) (c 78 (by omega) (by omega) (by omega) (by omega) (by omega) (by omega)) j6, act_k (fun a _ _ => c a (by omega) (by omega) (by omega) (by omega) (by omega) (by omega)) (by rw [c 7 (by omega) (by omega) (by omega) (by omega) (by omega) (by omega)]) (c 74 (by omega) (by omega) (by omega) (by omega) (by omega) (by omega)) (c 76 (by omega) (by omega) (by omega) (by omega) (by omega) (by omega)) (s2 16 (by omega) (by omega)) j7⟩
theorem jsc_r (h : SH_) : jsc_ h h := ⟨fun _ _ _ _ _ _ _ => rfl, fun _ _ _ => rfl⟩
theorem jsc_f {h hc hd : SH_} (s : jsc_ h hc) (k : fk_ hc hd) : jsc_ h hd := ⟨fun a a1 a2 a3 a4 a5 a6 => (k a a1).trans (s.1 a a1 a2 a3 a4 a5 a6), fun b b1 b2 => (congrFun (k 68 (by omega)) b).trans (s.2 b b1 b2)⟩
theorem jsc_m {h hc hd : SH_} (s : jsc_ h hc) (k : msc_ hc hd) : jsc_ h hd := ⟨fun a a1 a2 a3 a4 a5 a6 => (k.1 a a3 a4 a5 a6).trans (s.1 a a1 a2 a3 a4 a5 a6), fun b b1 b2 => (k.2 b (by omega)).trans (s.2 b b1 b2)⟩
theorem jsc_0 {h hc : SH_} {v : Int} (s : jsc_ h hc) : jsc_ h (hs_ hc 0 8 v) := ⟨fun a a1 a2 a3 a4 a5 a6 => (hs_k a2).trans (s.1 a a1 a2 a3 a4 a5 a6), fun b b1 b2 => (congrFun (hs_k (by decide)) b).trans (s.2 b b1 b2)⟩
theorem jsc_4 {h hc : SH_} {v : Int} (s : jsc_ h hc) : jsc_ h (hs_ hc 68 4 v) := ⟨fun a a1 a2 a3 a4 a5 a6 => (hs_k a3).trans (s.1 a a1 a2 a3 a4 a5 a6), fun b b1 b2 => (hs_n (by omega)).trans (s.2 b b1 b2)⟩
theorem fk_52 (h : SH_) (m : MU_) : fk_ h (ms_ h 52 m) := fk_m ⟨by decide, by decide⟩ (fk_r h)
theorem msc_mw (h : SH_) (m : MU_) : msc_ h (mw_ h m) := msc_w (msc_r h)
/-- one call of both -/
def Pr_ (g : SG_) (d : Nat) (Y1 Y2 : MD_) (as : List SV_) (h : SH_) : Prop := Ctr_ g (d + 14) Y1 (sv_r 4 7 0 :: as) h (fun r h1 => ∃ v, r = some (sv_i v) ∧ Ctr_ g (d + 14) Y2 (sv_r 4 8 68 :: as) h1 (fun r2 h2 => r2 = some (sv_i v) ∧ J_ h2))
