/-! the pure part: minds -/
abbrev Q4_ : Type := Int × Int × Int × Int
abbrev MU_ : Type := Int × Int × Int × Q4_
def q4_ (q : Q4_) (t : Int) : Int := if t = 0 then q.1 else if t = 1 then q.2.1 else if t = 2 then q.2.2.1 else q.2.2.2
def u4_ (q : Q4_) (t v : Int) : Q4_ := (if t = 0 then v else q.1, if t = 1 then v else q.2.1, if t = 2 then v else q.2.2.1, if t = 0 ∨ t = 1 ∨ t = 2 then q.2.2.2 else v)
def a4_ (f : Int → Int) : Q4_ := (f 0, f 1, f 2, f 3)
theorem q4_a {f : Int → Int} {t : Int} (h : 0 ≤ t ∧ t < 4) : q4_ (a4_ f) t = f t := by
  rcases (by omega : t = 0 ∨ t = 1 ∨ t = 2 ∨ t = 3) with rfl | rfl | rfl | rfl <;> rfl
theorem q4_u {q : Q4_} {t u v : Int} (ht : 0 ≤ t ∧ t < 4) (hu : 0 ≤ u ∧ u < 4) : q4_ (u4_ q t v) u = if u = t then v else q4_ q u := by
  rcases (by omega : t = 0 ∨ t = 1 ∨ t = 2 ∨ t = 3) with rfl | rfl | rfl | rfl <;> rcases (by omega : u = 0 ∨ u = 1 ∨ u = 2 ∨ u = 3) with rfl | rfl | rfl | rfl <;> rfl
/-- bit k of x -/
def bt_ (x k : Int) : Int := sb_iand (sb_ishr x k) 1
def pn_ (w n : Int) : Int := if 0 < n then 0 else 20 + w
def un_ (k w n t : Int) : Int := if k = 2 then 2 * w else if k = 3 then (if w - 2 * n < 0 then 0 else w - 2 * n) else if k = 4 then pn_ w n else if k = 5 then (if t < 2 then 99 else pn_ w n) else w
/-- NEED of a lie of kind k, weight w, topic t -/
def nd_ (k w t : Int) (m : MU_) : Int := (if bt_ m.2.1 t = 0 then 0 else 3) + un_ k w (q4_ m.2.2.2 t) m.2.2.1
/-- whether it nods -/
def nb_ (k w t : Int) (m : MU_) : Int := if m.1 < nd_ k w t m then 0 else 1
/-- the mind behind a lie at which it nods (b = 1) or not (0) -/
def he_ (w t b : Int) (m : MU_) : MU_ := if b = 0 then (if m.1 - w.tdiv 4 - 1 < 0 then 0 else m.1 - w.tdiv 4 - 1, m.2.1, m.2.2.1 + 1, m.2.2.2) else (if 20 < m.1 + 1 then 20 else m.1 + 1, m.2.1, m.2.2.1 + 1, u4_ m.2.2.2 t (q4_ m.2.2.2 t + 1))
def di_ (m : MU_) : MU_ := (if 20 < m.1 + 2 then 20 else m.1 + 2, m.2)
/-- a mind that has been told n lies at most -/
def mo_ (n : Int) (m : MU_) : Prop := (0 ≤ m.1 ∧ m.1 ≤ 20) ∧ (0 ≤ m.2.1 ∧ m.2.1 < 16) ∧ (0 ≤ m.2.2.1 ∧ m.2.2.1 ≤ n) ∧ ∀ t, 0 ≤ t → t < 4 → 0 ≤ q4_ m.2.2.2 t ∧ q4_ m.2.2.2 t ≤ n
/-- a lie's numbers -/
def lo_ (k w t : Int) : Prop := (1 ≤ k ∧ k ≤ 5) ∧ (1 ≤ w ∧ w ≤ 20) ∧ (0 ≤ t ∧ t < 4)
theorem nb_01 (k w t : Int) (m : MU_) : nb_ k w t m = 0 ∨ nb_ k w t m = 1 := by
  unfold nb_
  split
  · exact Or.inl rfl
  · exact Or.inr rfl
theorem he_mo {n k w t b : Int} {m : MU_} (hl : lo_ k w t) (hm : mo_ n m) : mo_ (n + 1) (he_ w t b m) := by
  obtain ⟨-, hw, ht⟩ := hl
  obtain ⟨h1, h2, h3, h4⟩ := hm
  unfold he_
  have hd : 0 ≤ w.tdiv 4 := Int.tdiv_nonneg (by omega) (by omega)
  split
  · refine ⟨?_, h2, ⟨by show 0 ≤ m.2.2.1 + 1; omega, by show m.2.2.1 + 1 ≤ n + 1; omega⟩, fun u hu hu2 => ?_⟩
    · show 0 ≤ (if m.1 - w.tdiv 4 - 1 < 0 then 0 else m.1 - w.tdiv 4 - 1) ∧ (if m.1 - w.tdiv 4 - 1 < 0 then 0 else m.1 - w.tdiv 4 - 1) ≤ 20
      split <;> omega
    · have h5 := h4 u hu hu2
      show 0 ≤ q4_ m.2.2.2 u ∧ q4_ m.2.2.2 u ≤ n + 1
      omega
  · refine ⟨?_, h2, ⟨by show 0 ≤ m.2.2.1 + 1; omega, by show m.2.2.1 + 1 ≤ n + 1; omega⟩, fun u hu hu2 => ?_⟩
    · show 0 ≤ (if 20 < m.1 + 1 then 20 else m.1 + 1) ∧ (if 20 < m.1 + 1 then 20 else m.1 + 1) ≤ 20
      split <;> omega
    · show 0 ≤ q4_ (u4_ m.2.2.2 t (q4_ m.2.2.2 t + 1)) u ∧ q4_ (u4_ m.2.2.2 t (q4_ m.2.2.2 t + 1)) u ≤ n + 1
      rw [q4_u ht ⟨hu, hu2⟩]
      have h5 := h4 u hu hu2
      have h6 := h4 t ht.1 ht.2
      split <;> omega
/-- the mind that lies at cell k (its row at k + 1) -/
def mu_ (h : SH_) (k : Int) : MU_ := (h k 0, h k 1, h k 2, a4_ (h (k + 1)))
def ms_ (h : SH_) (k : Int) (m : MU_) : SH_ := fun a b =>
  if a = k then (if b = 0 then m.1 else if b = 1 then m.2.1 else if b = 2 then m.2.2.1 else h a b)
  else if a = k + 1 then (if b = 0 then m.2.2.2.1 else if b = 1 then m.2.2.2.2.1 else if b = 2 then m.2.2.2.2.2.1 else if b = 3 then m.2.2.2.2.2.2 else h a b) else h a b
theorem mu_ms (h : SH_) (k : Int) (m : MU_) : mu_ (ms_ h k m) k = m := by
  obtain ⟨a, b, c, e, f, i, j⟩ := m
  have hk : ¬ k + 1 = k := by omega
  simp [mu_, ms_, a4_, hk]
theorem ms_n {h : SH_} {k : Int} {m : MU_} {a : Int} (h1 : a ≠ k) (h2 : a ≠ k + 1) : ms_ h k m a = h a := by
  funext b
  simp [ms_, h1, h2]
theorem mu_n {h : SH_} {k k2 : Int} {m : MU_} (h1 : k2 ≠ k) (h2 : k2 ≠ k + 1) (h3 : k2 + 1 ≠ k) : mu_ (ms_ h k m) k2 = mu_ h k2 := by
  unfold mu_
  rw [ms_n h1 h2, ms_n h3 (by omega)]
theorem ms_ms (h : SH_) (k : Int) (m n : MU_) : ms_ (ms_ h k m) k n = ms_ h k n := by
  funext a b
  unfold ms_
  repeat' split
  all_goals first | rfl | omega
theorem ms_id (h : SH_) (k : Int) : ms_ h k (mu_ h k) = h := by
  funext a b
  unfold ms_ mu_ a4_
  by_cases h1 : a = k
  · subst h1
    rw [if_pos rfl]
    by_cases c0 : b = 0
    · subst c0; rfl
    by_cases c1 : b = 1
    · subst c1; rfl
    by_cases c2 : b = 2
    · subst c2; rfl
    rw [if_neg c0, if_neg c1, if_neg c2]
  · rw [if_neg h1]
    by_cases h2 : a = k + 1
    · subst h2
      rw [if_pos rfl]
      by_cases c0 : b = 0
      · subst c0; rfl
      by_cases c1 : b = 1
      · subst c1; rfl
      by_cases c2 : b = 2
      · subst c2; rfl
      by_cases c3 : b = 3
      · subst c3; rfl
      rw [if_neg c0, if_neg c1, if_neg c2, if_neg c3]
    · rw [if_neg h2]
theorem ms_h0 (h : SH_) (k : Int) (m : MU_) (v : Int) : hs_ (ms_ h k m) k 0 v = ms_ h k (v, m.2) := by
  funext a b
  unfold ms_ hs_
  by_cases h1 : a = k
  · subst h1
    by_cases c0 : b = 0
    · subst c0; simp
    · simp [c0]
  · simp [h1]
theorem ms_h1 (h : SH_) (k : Int) (m : MU_) (v : Int) : hs_ (ms_ h k m) k 1 v = ms_ h k (m.1, v, m.2.2) := by
  funext a b
  unfold ms_ hs_
  by_cases h1 : a = k
  · subst h1
    by_cases c0 : b = 1
    · subst c0; simp
    · simp [c0]
  · simp [h1]
theorem ms_h2 (h : SH_) (k : Int) (m : MU_) (v : Int) : hs_ (ms_ h k m) k 2 v = ms_ h k (m.1, m.2.1, v, m.2.2.2) := by
  funext a b
  unfold ms_ hs_
  by_cases h1 : a = k
  · subst h1
    by_cases c0 : b = 2
    · subst c0; simp
    · simp [c0]
  · simp [h1]
theorem ms_q (h : SH_) (k : Int) (m : MU_) (v : Int) {t : Int} (ht : 0 ≤ t ∧ t < 4) : hs_ (ms_ h k m) (k + 1) t v = ms_ h k (m.1, m.2.1, m.2.2.1, u4_ m.2.2.2 t v) := by
  funext a b
  unfold ms_ hs_ u4_
  by_cases h1 : a = k
  · subst h1
    have h2 : ¬ a = a + 1 := by omega
    simp [h2]
  · by_cases h2 : a = k + 1
    · subst h2
      have h3 : ¬ k + 1 = k := by omega
      rcases (by omega : t = 0 ∨ t = 1 ∨ t = 2 ∨ t = 3) with rfl | rfl | rfl | rfl
      · by_cases c0 : b = 0
        · subst c0; simp [h3]
        · simp [h3, c0]
      · by_cases c0 : b = 1
        · subst c0; simp [h3]
        · simp [h3, c0]
      · by_cases c0 : b = 2
        · subst c0; simp [h3]
        · simp [h3, c0]
      · by_cases c0 : b = 3
        · subst c0; simp [h3]
        · simp [h3, c0]
    · simp [h1, h2]
theorem hs_m0 (h : SH_) (k v : Int) : hs_ h k 0 v = ms_ h k (v, (mu_ h k).2) := by
  have e := ms_h0 h k (mu_ h k) v
  rw [ms_id] at e
  exact e
theorem hs_m1 (h : SH_) (k v : Int) : hs_ h k 1 v = ms_ h k ((mu_ h k).1, v, (mu_ h k).2.2) := by
  have e := ms_h1 h k (mu_ h k) v
  rw [ms_id] at e
  exact e
theorem hs_m2 (h : SH_) (k v : Int) : hs_ h k 2 v = ms_ h k ((mu_ h k).1, (mu_ h k).2.1, v, (mu_ h k).2.2.2) := by
  have e := ms_h2 h k (mu_ h k) v
  rw [ms_id] at e
  exact e
/-- all bits that are set among the lowest six -/
def pc_ (x : Int) : Int := x % 2 + x / 2 % 2 + x / 4 % 2 + x / 8 % 2 + x / 16 % 2 + x / 32 % 2
/-- of the first n lies, of each topic how many it nodded at (s: a set) -/
def cn_ (tp : Int → Int) (s : Int) : Nat → Q4_
  | 0 => (0, 0, 0, 0)
  | n + 1 => u4_ (cn_ tp s n) (tp n) (q4_ (cn_ tp s n) (tp n) + bt_ s n)
theorem bt_01 (x k : Int) : 0 ≤ bt_ x k ∧ bt_ x k ≤ 1 := by
  have h1 : (Int32.ofInt (sb_ishr x k) &&& Int32.ofInt 1).toBitVec = (Int32.ofInt (sb_ishr x k)).toBitVec &&& 1#32 := rfl
  have e : bt_ x k = ((Int32.ofInt (sb_ishr x k)).toBitVec &&& 1#32).toInt := by
    show (Int32.ofInt (sb_ishr x k) &&& Int32.ofInt 1).toInt = _
    rw [← h1]; rfl
  rw [e]
  generalize (Int32.ofInt (sb_ishr x k)).toBitVec = y
  have h2 : (y &&& 1#32).toNat ≤ 1 := by
    rw [BitVec.toNat_and]
    exact Nat.and_le_right
  rw [BitVec.toInt_eq_toNat_of_lt (by omega)]
  omega
section PX_
variable {g : SG_} {d : Nat} {M : MD_} {pc q : Nat} {ls : List (Option SV_)} {st : List SV_} {h : SH_} {Post : Option SV_ → SH_ → Prop}
/-- a read whose value is known -/
theorem vr_ialdV {n : Nat} {k i x : Int} (hd : decode M.2.1 pc = .ok (.iaload, 1)) (hq : pc + 1 = q) (hi : 0 ≤ i ∧ i < n) (hx : h k i = x) (kk : V_ g d M q ls (sv_i x :: st) h Post) : V_ g d M pc ls (sv_i i :: sv_r 0 n k :: st) h Post := vr_iald hd hq hi (hx ▸ kk)
theorem vr_getV {idx c j : Nat} {k ji x : Int} (hd : decode M.2.1 pc = .ok (.getfield idx, 3)) (hq : pc + 3 = q) (hf : sf_ok M.1.cls idx c j) (ht : (sf_c c).getD j none = none) (hj : (j : Int) = ji) (hx : h k ji = x) (kk : V_ g d M q ls (sv_i x :: st) h Post) : V_ g d M pc ls (sv_r 4 c k :: st) h Post := vr_getI hd hq hf ht hj (hx ▸ kk)
theorem vr_h {h2 : SH_} (e : h2 = h) (kk : V_ g d M pc ls st h2 Post) : V_ g d M pc ls st h Post := e ▸ kk
end PX_
