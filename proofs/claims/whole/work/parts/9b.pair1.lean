theorem zf_k {h : SH_} {k i n a : Int} (ha : a ≠ k) : zf_ h k i n a = h a := by
  funext b
  unfold zf_
  rw [if_neg (fun z => ha z.1)]
theorem hc_k {h : SH_} {k0 sp k1 dp n a : Int} (ha : a ≠ k1) : hc_ h k0 sp k1 dp n a = h a := by
  funext b
  unfold hc_
  rw [if_neg (fun z => ha z.1)]
theorem hc_in {h : SH_} {k0 sp k1 dp n b : Int} (hb : dp ≤ b ∧ b < dp + n) : hc_ h k0 sp k1 dp n k1 b = h k0 (sp + (b - dp)) := by
  unfold hc_
  rw [if_pos ⟨rfl, hb⟩]
theorem hc_out {h : SH_} {k0 sp k1 dp n b : Int} (hb : ¬ (dp ≤ b ∧ b < dp + n)) : hc_ h k0 sp k1 dp n k1 b = h k1 b := by
  unfold hc_
  rw [if_neg (fun z => hb z.2)]
theorem J_0 {h : SH_} {v : Int} (j : J_ h) : J_ (hs_ (hs_ h 0 8 v) 68 4 v) := J_s (jsc_4 (jsc_0 (jsc_r h))) (by rw [hs_e, hs_k (by decide), hs_e]) j
theorem J_rows {h hc : SH_} (j : J_ h) (e : ∀ a, a ≠ 0 → a ≠ 2 → a ≠ 3 → a ≠ 4 → a ≠ 68 → a ≠ 69 → a ≠ 70 → a ≠ 71 → a ≠ 72 → hc a = h a) (e68 : ∀ b, b ≠ 4 → hc 68 b = h 68 b) (es : hc 68 4 = hc 0 8) (r : rcp_ hc hc) : J_ hc := by
  obtain ⟨j1, j2, j3, j4, j5, j6, j7⟩ := j
  refine ⟨cpl_2 (fun a _ _ => e a (by omega) (by omega) (by omega) (by omega) (by omega) (by omega) (by omega) (by omega) (by omega)) (e 74 (by decide) (by decide) (by decide) (by decide) (by decide) (by decide) (by decide) (by decide) (by decide)) j1, r, trc_k (by rw [e 66 (by decide) (by decide) (by decide) (by decide) (by decide) (by decide) (by decide) (by decide) (by decide)]) (e 67 (by decide) (by decide) (by decide) (by decide) (by decide) (by decide) (by decide) (by decide) (by decide)) (e 79 (by decide) (by decide) (by decide) (by decide) (by decide) (by decide) (by decide) (by decide) (by decide)) (e68 20 (by decide)) j3, es, tap_k (e 5 (by decide) (by decide) (by decide) (by decide) (by decide) (by decide) (by decide) (by decide) (by decide)) (e 6 (by decide) (by decide) (by decide) (by decide) (by decide) (by decide) (by decide) (by decide) (by decide)) (e 73 (by decide) (by decide) (by decide) (by decide) (by decide) (by decide) (by decide) (by decide) (by decide)) (e68 6 (by decide)) (e68 7 (by decide)) j5, img_k (fun a _ _ => e a (by omega) (by omega) (by omega) (by omega) (by omega) (by omega) (by omega) (by omega) (by omega)) (e 77 (by decide) (by decide) (by decide) (by decide) (by decide) (by decide) (by decide) (by decide) (by decide)) (e 78 (by decide) (by decide) (by decide) (by decide) (by decide) (by decide) (by decide) (by decide) (by decide)) j6, act_k (fun a _ _ => e a (by omega) (by omega) (by omega) (by omega) (by omega) (by omega) (by omega) (by omega) (by omega)) (by rw [e 7 (by decide) (by decide) (by decide) (by decide) (by decide) (by decide) (by decide) (by decide) (by decide)]) (e 74 (by decide) (by decide) (by decide) (by decide) (by decide) (by decide) (by decide) (by decide) (by decide)) (e 76 (by decide) (by decide) (by decide) (by decide) (by decide) (by decide) (by decide) (by decide) (by decide)) (e68 16 (by decide)) j7⟩
/-- rows, one by one -/
theorem J_rw {h hc : SH_} (j : J_ h) (e : ∀ a, a ≠ 0 → a ≠ 2 → a ≠ 3 → a ≠ 4 → a ≠ 68 → a ≠ 69 → a ≠ 70 → a ≠ 71 → a ≠ 72 → hc a = h a) (e68 : ∀ b, b ≠ 4 → hc 68 b = h 68 b) (es : hc 68 4 = hc 0 8) (R : ∀ r, 0 ≤ r → r < 8 → ∃ A2 A3 A69 A70, hc 2 r = A2 ∧ hc 3 r = A3 ∧ hc 69 r = A69 ∧ hc 70 r = A70 ∧ (0 ≤ A3 ∧ A3 ≤ 40) ∧ (0 ≤ A70 ∧ A70 ≤ 40) ∧ ((A2 = -1 ∧ A69 = -1000000) ∨ ((0 ≤ A2 ∧ A2 ≤ 2) ∧ A69 = A2 ∧ A70 = A3 ∧ ∀ i, 0 ≤ i → i < A3 → ∃ v, hc 71 (40 * r + i) = v ∧ hc 4 (40 * r + i) = v))) : J_ hc := by
  refine J_rows j e e68 es (fun r r0 r1 => ?_)
  obtain ⟨A2, A3, A69, A70, e2, e3, e69, e70, b3, b70, z⟩ := R r r0 r1
  rw [e2, e3, e69, e70]
  refine ⟨b3, b70, ?_⟩
  rcases z with z | ⟨z1, z2, z3, z4⟩
  · exact Or.inl z
  · refine Or.inr ⟨z1, z2, z3, fun i i0 i1 => ?_⟩
    obtain ⟨v, v1, v2⟩ := z4 i i0 i1
    rw [v1, v2]
theorem rcp_1 {h : SH_} {r : Int} (m : rcp_ h h) (hr : 0 ≤ r ∧ r < 8) : (h 2 r = -1 → h 69 r = -1000000) ∧ (¬ h 2 r = -1 → ¬ h 69 r = -1000000 ∧ (0 ≤ h 2 r ∧ h 2 r ≤ 2) ∧ h 69 r = h 2 r ∧ h 70 r = h 3 r ∧ ∀ i, 0 ≤ i → i < h 3 r → h 71 (40 * r + i) = h 4 (40 * r + i)) := by
  rcases (m r hr.1 hr.2).2.2 with ⟨z1, z2⟩ | ⟨z1, z2, z3, z4⟩
  · exact ⟨fun _ => z2, fun z => absurd z1 z⟩
  · exact ⟨fun z => absurd z (by omega), fun _ => ⟨by omega, z1, z2, z3, z4⟩⟩
section PJ1_
variable {g : SG_} {d : Nat} {h : SH_}
theorem P_row {r l n : Int} (j : J_ h) : Pr_ g d mX8_row mX9_row [sv_i r, sv_i l, sv_i n] h := by
  have j2 := j.2.1
  refine x_row (fun q => ⟨_, rfl, mx_row (fun _ => ⟨rfl, j⟩) (fun q2 => absurd q2 q) (fun q2 => absurd q2 q)⟩) (fun q q0 => ⟨_, rfl, mx_row (fun q2 => absurd q q2) (fun _ _ => ⟨rfl, J_0 j⟩) (fun _ q3 => absurd q0 q3)⟩) (fun q q0 => ⟨_, rfl, mx_row (fun q2 => absurd q q2) (fun _ q3 => absurd q3 (by omega)) (fun _ _ => ⟨rfl, ?_⟩)⟩)
  refine J_rw j (fun a a1 a2 a3 a4 a5 a6 a7 a8 a9 => ?_) (fun b hb => ?_) ?_ (fun r2 r0 r1 => ?_)
  · rw [hs_k a5, zf_k a8, hs_k a7, hs_k a6, hs_k a1, zf_k a4, hs_k a3, hs_k a2]
  · rw [hs_n (by omega), zf_k (by decide), hs_k (by decide), hs_k (by decide), hs_k (by decide), zf_k (by decide), hs_k (by decide), hs_k (by decide)]
  · rw [hs_e, hs_k (by decide), zf_k (by decide), hs_k (by decide), hs_k (by decide), hs_e]
  · have b1 := j2 r2 r0 r1
    by_cases er : r2 = r
    · subst er
      refine ⟨l, n, l, n, ?_, ?_, ?_, ?_, ⟨q0, q.2.2⟩, ⟨q0, q.2.2⟩, Or.inr ⟨q.2.1, rfl, rfl, fun i i0 i1 => ⟨0, ?_, ?_⟩⟩⟩
      · rw [hs_k (by decide), zf_k (by decide), hs_k (by decide), hs_k (by decide), hs_k (by decide), zf_k (by decide), hs_k (by decide), hs_e]
      · rw [hs_k (by decide), zf_k (by decide), hs_k (by decide), hs_k (by decide), hs_k (by decide), zf_k (by decide), hs_e]
      · rw [hs_k (by decide), zf_k (by decide), hs_k (by decide), hs_e]
      · rw [hs_k (by decide), zf_k (by decide), hs_e]
      · rw [hs_k (by decide)]
        unfold zf_
        rw [if_pos ⟨rfl, by omega, by omega⟩]
      · rw [hs_k (by decide), zf_k (by decide), hs_k (by decide), hs_k (by decide), hs_k (by decide)]
        unfold zf_
        rw [if_pos ⟨rfl, by omega, by omega⟩]
    · refine ⟨h 2 r2, h 3 r2, h 69 r2, h 70 r2, ?_, ?_, ?_, ?_, b1.1, b1.2.1, ?_⟩
      · rw [hs_k (by decide), zf_k (by decide), hs_k (by decide), hs_k (by decide), hs_k (by decide), zf_k (by decide), hs_k (by decide), hs_n (by omega)]
      · rw [hs_k (by decide), zf_k (by decide), hs_k (by decide), hs_k (by decide), hs_k (by decide), zf_k (by decide), hs_n (by omega), hs_k (by decide)]
      · rw [hs_k (by decide), zf_k (by decide), hs_k (by decide), hs_n (by omega), hs_k (by decide), zf_k (by decide), hs_k (by decide), hs_k (by decide)]
      · rw [hs_k (by decide), zf_k (by decide), hs_n (by omega), hs_k (by decide), hs_k (by decide), zf_k (by decide), hs_k (by decide), hs_k (by decide)]
      · rcases b1.2.2 with z | ⟨z1, z2, z3, z4⟩
        · exact Or.inl z
        · refine Or.inr ⟨z1, z2, z3, fun i i0 i1 => ⟨h 4 (40 * r2 + i), ?_, ?_⟩⟩
          · rw [hs_k (by decide)]
            conv => lhs; unfold zf_
            rw [if_neg (by omega), hs_k (by decide), hs_k (by decide), hs_k (by decide)]
            show zf_ _ 4 _ _ 71 _ = _
            rw [zf_k (by decide), hs_k (by decide), hs_k (by decide)]
            exact z4 i i0 i1
          · rw [hs_k (by decide), zf_k (by decide), hs_k (by decide), hs_k (by decide), hs_k (by decide)]
            unfold zf_
            rw [if_neg (by omega), hs_k (by decide), hs_k (by decide)]
theorem P_set {r i v : Int} (j : J_ h) : Pr_ g d mX8_set mX9_set [sv_i r, sv_i i, sv_i v] h := by
  have j2 := j.2.1
  have hl3 : ∀ r, 0 ≤ r → r < 8 → 0 ≤ h 3 r ∧ h 3 r ≤ 40 := fun r a b => (j2 r a b).1
  have hl70 : ∀ r, 0 ≤ r → r < 8 → 0 ≤ h 70 r ∧ h 70 r ≤ 40 := fun r a b => (j2 r a b).2.1
  refine x_set hl3 (fun q => ⟨_, rfl, mx_set hl70 (fun _ => ⟨rfl, j⟩) (fun q2 => absurd q2 q) (fun q2 => absurd q2 q) (fun q2 => absurd q2 q)⟩) (fun q q0 => ?_) (fun q q0 q1 => ?_) (fun q q0 q1 => ?_)
  · have e69 : hs_ h 0 8 1 69 = h 69 := hs_k (by decide)
    have e70 : hs_ h 0 8 1 70 = h 70 := hs_k (by decide)
    have m := (rcp_1 j2 q).1 q0
    exact ⟨_, rfl, mx_set (by rw [e70]; exact hl70) (fun q2 => absurd q q2) (fun _ _ => ⟨rfl, J_0 j⟩) (fun _ z => absurd (by rw [e69]; exact m) z) (fun _ z => absurd (by rw [e69]; exact m) z)⟩
  · have e69 : hs_ h 0 8 2 69 = h 69 := hs_k (by decide)
    have e70 : hs_ h 0 8 2 70 = h 70 := hs_k (by decide)
    have m := (rcp_1 j2 q).2 q0
    exact ⟨_, rfl, mx_set (by rw [e70]; exact hl70) (fun q2 => absurd q q2) (fun _ z => absurd z (by rw [e69]; exact m.1)) (fun _ _ _ => ⟨rfl, J_0 j⟩) (fun _ _ z => absurd z (by rw [e70, m.2.2.2.1]; exact q1))⟩
  · have m := (rcp_1 j2 q).2 q0
    have eC : ∀ a, a ≠ 0 → a ≠ 4 → hs_ (hs_ h 4 (r * 40 + i) (ct_ (h 2 r) v)) 0 8 0 a = h a := fun a a1 a2 => by rw [hs_k a1, hs_k a2]
    refine ⟨_, rfl, mx_set (by rw [eC 70 (by decide) (by decide)]; exact hl70) (fun q2 => absurd q q2) (fun _ z => absurd z (by rw [eC 69 (by decide) (by decide)]; exact m.1)) (fun _ _ z => absurd (by rw [eC 70 (by decide) (by decide), m.2.2.2.1]; exact q1) z) (fun _ _ _ => ⟨?_, ?_⟩)⟩
    · rw [eC 69 (by decide) (by decide), m.2.2.1, cu_ct]
    · rw [eC 69 (by decide) (by decide), m.2.2.1, cu_ct]
      refine J_rw j (fun a a1 a2 a3 a4 a5 a6 a7 a8 a9 => ?_) (fun b hb => ?_) ?_ (fun r2 r0 r1 => ?_)
      · rw [hs_k a5, hs_k a8, eC a a1 a4]
      · rw [hs_n (by omega), hs_k (by decide), eC 68 (by decide) (by decide)]
      · rw [hs_e, hs_k (by decide), hs_k (by decide), hs_e]
      · have b1 := j2 r2 r0 r1
        have h41 := hl3 r q.1 q.2
        refine ⟨h 2 r2, h 3 r2, h 69 r2, h 70 r2, ?_, ?_, ?_, ?_, b1.1, b1.2.1, ?_⟩
        · rw [hs_k (by decide), hs_k (by decide), eC 2 (by decide) (by decide)]
        · rw [hs_k (by decide), hs_k (by decide), eC 3 (by decide) (by decide)]
        · rw [hs_k (by decide), hs_k (by decide), eC 69 (by decide) (by decide)]
        · rw [hs_k (by decide), hs_k (by decide), eC 70 (by decide) (by decide)]
        · rcases b1.2.2 with z | ⟨z1, z2, z3, z4⟩
          · exact Or.inl z
          · refine Or.inr ⟨z1, z2, z3, fun k k0 k1 => ?_⟩
            have h40 := b1.1
            by_cases ek : 40 * r2 + k = 40 * r + i
            · refine ⟨ct_ (h 2 r) v, ?_, ?_⟩
              · rw [ek, hs_k (by decide), hs_e]
              · rw [ek, hs_k (by decide), hs_k (by decide), hs_k (by decide), show 40 * r + i = r * 40 + i by omega, hs_e]
            · refine ⟨h 4 (40 * r2 + k), ?_, ?_⟩
              · rw [hs_k (by decide), hs_n (by omega), eC 71 (by decide) (by decide)]
                exact z4 k k0 k1
              · rw [hs_k (by decide), hs_k (by decide), hs_k (by decide), hs_n (by omega)]
theorem P_copy {a i b c n : Int} (j : J_ h) : Pr_ g d mX8_copy mX9_copy [sv_i a, sv_i i, sv_i b, sv_i c, sv_i n] h := by
  intro os oh
  have hn : n < 2147483648 := (os (sv_i n) (by simp)).2
  revert os oh
  show Ctr_ _ _ _ _ _ _
  have j2 := j.2.1
  have hl3 : ∀ r, 0 ≤ r → r < 8 → 0 ≤ h 3 r ∧ h 3 r ≤ 40 := fun r a b => (j2 r a b).1
  have hl70 : ∀ r, 0 ≤ r → r < 8 → 0 ≤ h 70 r ∧ h 70 r ≤ 40 := fun r a b => (j2 r a b).2.1
  refine x_copy hn hl3 (fun q => ⟨_, rfl, mx_copy hl70 (fun _ => ⟨rfl, j⟩) (fun q2 => absurd q2 q) (fun q2 => absurd q2 q) (fun q2 => absurd q2 q) (fun q2 => absurd q2 q)⟩) (fun q q0 => ?_) (fun q q0 q1 => ?_) (fun q q0 q1 q2 => ?_) (fun q q0 q1 q2 => ?_)
  · have e69 : hs_ h 0 8 1 69 = h 69 := hs_k (by decide)
    have e70 : hs_ h 0 8 1 70 = h 70 := hs_k (by decide)
    have m : h 69 a = -1000000 ∨ h 69 b = -1000000 := q0.elim (fun z => Or.inl ((rcp_1 j2 q.1).1 z)) (fun z => Or.inr ((rcp_1 j2 q.2).1 z))
    exact ⟨_, rfl, mx_copy (by rw [e70]; exact hl70) (fun q2 => absurd q q2) (fun _ _ => ⟨rfl, J_0 j⟩) (fun _ z => absurd (by rw [e69]; exact m) z) (fun _ z => absurd (by rw [e69]; exact m) z) (fun _ z => absurd (by rw [e69]; exact m) z)⟩
  · have e69 : hs_ h 0 8 5 69 = h 69 := hs_k (by decide)
    have e70 : hs_ h 0 8 5 70 = h 70 := hs_k (by decide)
    have ma := (rcp_1 j2 q.1).2 (fun z => q0 (Or.inl z))
    have mb := (rcp_1 j2 q.2).2 (fun z => q0 (Or.inr z))
    have m : ¬ (h 69 a = -1000000 ∨ h 69 b = -1000000) := fun z => z.elim ma.1 mb.1
    have m2 : ¬ h 69 a = h 69 b := by rw [ma.2.2.1, mb.2.2.1]; exact q1
    exact ⟨_, rfl, mx_copy (by rw [e70]; exact hl70) (fun q2 => absurd q q2) (fun _ z => absurd z (by rw [e69]; exact m)) (fun _ _ _ => ⟨rfl, J_0 j⟩) (fun _ _ z => absurd z (by rw [e69]; exact m2)) (fun _ _ z => absurd z (by rw [e69]; exact m2))⟩
  · have e69 : hs_ h 0 8 2 69 = h 69 := hs_k (by decide)
    have e70 : hs_ h 0 8 2 70 = h 70 := hs_k (by decide)
    have ma := (rcp_1 j2 q.1).2 (fun z => q0 (Or.inl z))
    have mb := (rcp_1 j2 q.2).2 (fun z => q0 (Or.inr z))
    have m : ¬ (h 69 a = -1000000 ∨ h 69 b = -1000000) := fun z => z.elim ma.1 mb.1
    have m2 : h 69 a = h 69 b := by rw [ma.2.2.1, mb.2.2.1]; exact q1
    exact ⟨_, rfl, mx_copy (by rw [e70]; exact hl70) (fun q2 => absurd q q2) (fun _ z => absurd z (by rw [e69]; exact m)) (fun _ _ z => absurd (by rw [e69]; exact m2) z) (fun _ _ _ _ => ⟨rfl, J_0 j⟩) (fun _ _ _ z => absurd z (by rw [e70, ma.2.2.2.1, mb.2.2.2.1]; omega))⟩
  · have ma := (rcp_1 j2 q.1).2 (fun z => q0 (Or.inl z))
    have mb := (rcp_1 j2 q.2).2 (fun z => q0 (Or.inr z))
    have m : ¬ (h 69 a = -1000000 ∨ h 69 b = -1000000) := fun z => z.elim ma.1 mb.1
    have m2 : h 69 a = h 69 b := by rw [ma.2.2.1, mb.2.2.1]; exact q1
    have ha3 := hl3 a q.1.1 q.1.2
    have hb3 := hl3 b q.2.1 q.2.2
    have eC : ∀ x, x ≠ 0 → x ≠ 4 → hs_ (hc_ h 4 (a * 40 + i) 4 (b * 40 + c) n) 0 8 0 x = h x := fun x x1 x2 => by rw [hs_k x1, hc_k x2]
    refine ⟨_, rfl, mx_copy (by rw [eC 70 (by decide) (by decide)]; exact hl70) (fun q2 => absurd q q2) (fun _ z => absurd z (by rw [eC 69 (by decide) (by decide)]; exact m)) (fun _ _ z => absurd (by rw [eC 69 (by decide) (by decide)]; exact m2) z) (fun _ _ _ z => absurd (by rw [eC 70 (by decide) (by decide), ma.2.2.2.1, mb.2.2.2.1]; omega) z) (fun _ _ _ _ => ⟨rfl, ?_⟩)⟩
    refine J_rw j (fun x a1 a2 a3 a4 a5 a6 a7 a8 a9 => ?_) (fun b hb => ?_) ?_ (fun r2 r0 r1 => ?_)
    · rw [hs_k a5, hc_k a8, hc_k a9, eC x a1 a4]
    · rw [hs_n (by omega), hc_k (by decide), hc_k (by decide), eC 68 (by decide) (by decide)]
    · rw [hs_e, hs_k (by decide), hc_k (by decide), hc_k (by decide), hs_e]
    · have b1 := j2 r2 r0 r1
      have h40 := b1.1
      refine ⟨h 2 r2, h 3 r2, h 69 r2, h 70 r2, ?_, ?_, ?_, ?_, b1.1, b1.2.1, ?_⟩
      · rw [hs_k (by decide), hc_k (by decide), hc_k (by decide), eC 2 (by decide) (by decide)]
      · rw [hs_k (by decide), hc_k (by decide), hc_k (by decide), eC 3 (by decide) (by decide)]
      · rw [hs_k (by decide), hc_k (by decide), hc_k (by decide), eC 69 (by decide) (by decide)]
      · rw [hs_k (by decide), hc_k (by decide), hc_k (by decide), eC 70 (by decide) (by decide)]
      · rcases b1.2.2 with z | ⟨z1, z2, z3, z4⟩
        · exact Or.inl z
        · refine Or.inr ⟨z1, z2, z3, fun k k0 k1 => ?_⟩
          by_cases w : b * 40 + c ≤ 40 * r2 + k ∧ 40 * r2 + k < b * 40 + c + n
          · refine ⟨h 4 (40 * a + (i + (40 * r2 + k - (b * 40 + c)))), ?_, ?_⟩
            · rw [hs_k (by decide), hc_in (by omega), hc_in (by omega), eC 71 (by decide) (by decide), show 40 * a + i + (0 + (40 * r2 + k - (40 * b + c)) - 0) = 40 * a + (i + (40 * r2 + k - (b * 40 + c))) by omega]
              exact ma.2.2.2.2 _ (by omega) (by omega)
            · rw [hs_k (by decide), hc_k (by decide), hc_k (by decide), hs_k (by decide), hc_in (by omega), show a * 40 + i + (40 * r2 + k - (b * 40 + c)) = 40 * a + (i + (40 * r2 + k - (b * 40 + c))) by omega]
          · refine ⟨h 4 (40 * r2 + k), ?_, ?_⟩
            · rw [hs_k (by decide), hc_out (by omega), hc_k (by decide), eC 71 (by decide) (by decide)]
              exact z4 k k0 k1
            · rw [hs_k (by decide), hc_k (by decide), hc_k (by decide), hs_k (by decide), hc_out (by omega)]
theorem P_drop {r : Int} (j : J_ h) : Pr_ g d mX8_drop mX9_drop [sv_i r] h := by
  have j2 := j.2.1
  refine x_drop (fun q => ⟨_, rfl, mx_drop (fun _ => ⟨rfl, j⟩) (fun q2 => absurd q2 q) (fun q2 => absurd q2 q)⟩) (fun q q0 => ?_) (fun q q0 => ?_)
  · have e69 : hs_ h 0 8 1 69 = h 69 := hs_k (by decide)
    have m := (rcp_1 j2 q).1 q0
    exact ⟨_, rfl, mx_drop (fun q2 => absurd q q2) (fun _ _ => ⟨rfl, J_0 j⟩) (fun _ z => absurd (by rw [e69]; exact m) z)⟩
  · have m := (rcp_1 j2 q).2 q0
    have eC : ∀ x, x ≠ 0 → x ≠ 2 → x ≠ 3 → hs_ (hs_ (hs_ h 2 r (-1)) 3 r 0) 0 8 0 x = h x := fun x x1 x2 x3 => by rw [hs_k x1, hs_k x3, hs_k x2]
    refine ⟨_, rfl, mx_drop (fun q2 => absurd q q2) (fun _ z => absurd z (by rw [eC 69 (by decide) (by decide) (by decide)]; exact m.1)) (fun _ _ => ⟨?_, ?_⟩)⟩
    · rw [eC 70 (by decide) (by decide) (by decide), m.2.2.2.1]
    · refine J_rw j (fun x a1 a2 a3 a4 a5 a6 a7 a8 a9 => ?_) (fun b hb => ?_) ?_ (fun r2 r0 r1 => ?_)
      · rw [hs_k a5, hs_k a6, eC x a1 a2 a3]
      · rw [hs_n (by omega), hs_k (by decide), eC 68 (by decide) (by decide) (by decide)]
      · rw [hs_e, hs_k (by decide), hs_k (by decide), hs_e]
      · have b1 := j2 r2 r0 r1
        by_cases er : r2 = r
        · subst er
          refine ⟨-1, 0, -1000000, h 70 r2, ?_, ?_, ?_, ?_, by decide, b1.2.1, Or.inl ⟨rfl, rfl⟩⟩
          · rw [hs_k (by decide), hs_k (by decide), hs_k (by decide), hs_k (by decide), hs_e]
          · rw [hs_k (by decide), hs_k (by decide), hs_k (by decide), hs_e]
          · rw [hs_k (by decide), hs_e]
          · rw [hs_k (by decide), hs_k (by decide), eC 70 (by decide) (by decide) (by decide)]
        · refine ⟨h 2 r2, h 3 r2, h 69 r2, h 70 r2, ?_, ?_, ?_, ?_, b1.1, b1.2.1, ?_⟩
          · rw [hs_k (by decide), hs_k (by decide), hs_k (by decide), hs_k (by decide), hs_n (by omega)]
          · rw [hs_k (by decide), hs_k (by decide), hs_k (by decide), hs_n (by omega), hs_k (by decide)]
          · rw [hs_k (by decide), hs_n (by omega), eC 69 (by decide) (by decide) (by decide)]
          · rw [hs_k (by decide), hs_k (by decide), eC 70 (by decide) (by decide) (by decide)]
          · rcases b1.2.2 with z | ⟨z1, z2, z3, z4⟩
            · exact Or.inl z
            · refine Or.inr ⟨z1, z2, z3, fun k k0 k1 => ⟨h 4 (40 * r2 + k), ?_, ?_⟩⟩
              · rw [hs_k (by decide), hs_k (by decide), eC 71 (by decide) (by decide) (by decide)]
                exact z4 k k0 k1
              · rw [hs_k (by decide), hs_k (by decide), eC 4 (by decide) (by decide) (by decide)]
end PJ1_
