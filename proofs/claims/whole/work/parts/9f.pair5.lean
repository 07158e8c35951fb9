theorem J_img {h hc : SH_} (j : J_ h) (e : ∀ a, (a < 23 ∨ 38 < a) → a ≠ 77 → a ≠ 78 → hc a = h a) (m : img_ hc) : J_ hc := by
  obtain ⟨j1, j2, j3, j4, j5, j6, j7⟩ := j
  have c : ∀ a, (a < 23 ∨ (38 < a ∧ a < 77) ∨ 78 < a) → hc a = h a := fun a ha => e a (by omega) (by omega) (by omega)
  exact ⟨cpl_2 (fun a _ _ => c a (by omega)) (c 74 (by omega)) j1, rcp_2 (c 2 (by omega)) (c 3 (by omega)) (c 4 (by omega)) (c 69 (by omega)) (c 70 (by omega)) (c 71 (by omega)) j2, trc_k (by rw [c 66 (by omega)]) (c 67 (by omega)) (c 79 (by omega)) (by rw [c 68 (by omega)]) j3, by rw [c 68 (by omega), c 0 (by omega)]; exact j4, tap_k (c 5 (by omega)) (c 6 (by omega)) (c 73 (by omega)) (by rw [c 68 (by omega)]) (by rw [c 68 (by omega)]) j5, m, act_k (fun a _ _ => c a (by omega)) (by rw [c 7 (by omega)]) (c 74 (by omega)) (c 76 (by omega)) (by rw [c 68 (by omega)]) j7⟩
theorem J_twn {h hc : SH_} (j : J_ h) (e : ∀ a, a ≠ 5 → (a < 7 ∨ 22 < a) → a ≠ 40 → a ≠ 68 → a ≠ 74 → a ≠ 75 → hc a = h a) (e68 : ∀ b, ¬ (6 ≤ b ∧ b ≤ 12) → b ≠ 16 → hc 68 b = h 68 b) (cc : cpl_ hc hc) (t : tap_ hc) (ac : act_ hc) : J_ hc := by
  obtain ⟨j1, j2, j3, j4, j5, j6, j7⟩ := j
  have c : ∀ a, (a < 5 ∨ a = 6 ∨ (22 < a ∧ a < 40) ∨ (40 < a ∧ a < 68) ∨ (68 < a ∧ a < 74) ∨ 75 < a) → hc a = h a := fun a ha => e a (by omega) (by omega) (by omega) (by omega) (by omega) (by omega)
  exact ⟨cc, rcp_2 (c 2 (by omega)) (c 3 (by omega)) (c 4 (by omega)) (c 69 (by omega)) (c 70 (by omega)) (c 71 (by omega)) j2, trc_k (by rw [c 66 (by omega)]) (c 67 (by omega)) (c 79 (by omega)) (e68 20 (by omega) (by decide)) j3, by rw [e68 4 (by omega) (by decide), c 0 (by omega)]; exact j4, t, img_k (fun a _ _ => c a (by omega)) (c 77 (by omega)) (c 78 (by omega)) j6, ac⟩
theorem J_trc {h hc : SH_} (j : J_ h) (e : ∀ a, a ≠ 66 → a ≠ 67 → a ≠ 68 → a ≠ 79 → hc a = h a) (e68 : ∀ b, b ≠ 20 → hc 68 b = h 68 b) (t : trc_ hc hc) : J_ hc := by
  obtain ⟨j1, j2, j3, j4, j5, j6, j7⟩ := j
  have c : ∀ a, (a < 66 ∨ (68 < a ∧ a < 79) ∨ 79 < a) → hc a = h a := fun a ha => e a (by omega) (by omega) (by omega) (by omega)
  exact ⟨cpl_2 (fun a _ _ => c a (by omega)) (c 74 (by omega)) j1, rcp_2 (c 2 (by omega)) (c 3 (by omega)) (c 4 (by omega)) (c 69 (by omega)) (c 70 (by omega)) (c 71 (by omega)) j2, t, by rw [e68 4 (by decide), c 0 (by omega)]; exact j4, tap_k (c 5 (by omega)) (c 6 (by omega)) (c 73 (by omega)) (e68 6 (by decide)) (e68 7 (by decide)) j5, img_k (fun a _ _ => c a (by omega)) (c 77 (by omega)) (c 78 (by omega)) j6, act_k (fun a _ _ => c a (by omega)) (by rw [c 7 (by omega)]) (c 74 (by omega)) (c 76 (by omega)) (e68 16 (by decide)) j7⟩
theorem zs_k {p : SH_} {l a : Int} (h1 : a ≠ 66) (h2 : a ≠ 67) : zs_ p l a = p a := by
  unfold zs_ mp_ me_
  repeat' split
  all_goals (repeat rw [lt_k h1 h2])
theorem zm_k {p : SH_} {l a : Int} (h1 : a ≠ 66) (h2 : a ≠ 67) : zm_ p l a = p a := by
  unfold zm_ mp_ me_
  repeat' split
  all_goals (repeat rw [lt_k h1 h2])
theorem kl_r {x : Int} (h : ¬ kl_ x = 0) : 1 ≤ kl_ x ∧ kl_ x ≤ 5 := by
  unfold kl_ at h ⊢
  by_cases c1 : x = 101
  · rw [if_pos c1]; decide
  · rw [if_neg c1] at h ⊢
    by_cases c2 : x = 97
    · rw [if_pos c2]; decide
    · rw [if_neg c2] at h ⊢
      by_cases c3 : x = 104
      · rw [if_pos c3]; decide
      · rw [if_neg c3] at h ⊢
        by_cases c4 : x = 112
        · rw [if_pos c4]; decide
        · rw [if_neg c4] at h ⊢
          by_cases c5 : x = 108
          · rw [if_pos c5]; decide
          · rw [if_neg c5] at h
            exact absurd rfl h
theorem pl_r {f : Int → Int} {n q : Int} {ls2 : List (Int × Int × Int)} : ∀ (c : Nat) (p : Int) (ls : List (Int × Int × Int)), (∀ x ∈ ls, lo_ x.1 x.2.1 x.2.2) → ls.length + c ≤ 6 → pl_ (bz_ f n) c p ls = .ok (q, ls2) → (∀ x ∈ ls2, lo_ x.1 x.2.1 x.2.2) ∧ ls2.length ≤ 6 := by
  intro c
  induction c with
  | zero =>
    intro p ls hl hn h
    by_cases ck : kl_ (bz_ f n p) = 0
    · rw [pl_0 ck] at h
      cases h
      exact ⟨hl, by omega⟩
    · rw [pl_6 ck] at h
      cases h
  | succ c ih =>
    intro p ls hl hn h
    by_cases ck : kl_ (bz_ f n p) = 0
    · rw [pl_0 ck] at h
      cases h
      exact ⟨hl, by omega⟩
    · cases er : r1_ (bz_ f n) p 1 20 0 3 with
      | error e =>
        rw [pl_e ck er] at h
        cases h
      | ok x =>
        obtain ⟨a, b, q2⟩ := x
        rw [pl_k ck er] at h
        have rb := r1_b er
        refine ih q2 _ (fun x hx => ?_) (by rw [List.length_append, List.length_singleton]; omega) h
        rcases List.mem_append.mp hx with hx | hx
        · exact hl x hx
        · have e := List.mem_singleton.mp hx
          subst e
          exact ⟨kl_r ck, rb.1, ⟨rb.2.1.1, by have := rb.2.1.2; show b < 4; omega⟩⟩
theorem ps_r {f : Int → Int} {n q : Int} {ss2 : List (Int × Int)} : ∀ (c : Nat) (p : Int) (ss : List (Int × Int)), (∀ x ∈ ss, (0 ≤ x.1 ∧ x.1 ≤ 20) ∧ (0 ≤ x.2 ∧ x.2 < 16)) → ss.length + c ≤ 4 → ps_ (bz_ f n) c p ss = .ok (q, ss2) → (∀ x ∈ ss2, (0 ≤ x.1 ∧ x.1 ≤ 20) ∧ (0 ≤ x.2 ∧ x.2 < 16)) ∧ ss2.length ≤ 4 := by
  intro c
  induction c with
  | zero =>
    intro p ss hl hn h
    by_cases ck : bz_ f n p = 115
    · rw [ps_4 ck] at h
      cases h
    · rw [ps_0 ck] at h
      cases h
      exact ⟨hl, by omega⟩
  | succ c ih =>
    intro p ss hl hn h
    by_cases ck : bz_ f n p = 115
    · cases er : r1_ (bz_ f n) p 0 20 0 15 with
      | error e =>
        rw [ps_e ck er] at h
        cases h
      | ok x =>
        obtain ⟨a, b, q2⟩ := x
        rw [ps_k ck er] at h
        have rb := r1_b er
        refine ih q2 _ (fun x hx => ?_) (by rw [List.length_append, List.length_singleton]; omega) h
        rcases List.mem_append.mp hx with hx | hx
        · exact hl x hx
        · have e := List.mem_singleton.mp hx
          subst e
          exact ⟨rb.1, ⟨rb.2.1.1, by have := rb.2.1.2; show b < 16; omega⟩⟩
    · rw [ps_0 ck] at h
      cases h
      exact ⟨hl, by omega⟩
theorem pt_r {f : Int → Int} {n st : Int} {ls : List (Int × Int × Int)} {ss : List (Int × Int)} (h : pt_ (bz_ f n) n = .ok (st, ls, ss)) : (1 ≤ st ∧ st ≤ 9) ∧ ((∀ x ∈ ls, lo_ x.1 x.2.1 x.2.2) ∧ ls.length ≤ 6) ∧ ((∀ x ∈ ss, (0 ≤ x.1 ∧ x.1 ≤ 20) ∧ (0 ≤ x.2 ∧ x.2 < 16)) ∧ ss.length ≤ 4) := by
  by_cases c : bz_ f n 0 = 116
  · cases er : rn_ (bz_ f n) 1 1 9 with
    | error e => rw [pt_2 c er] at h; cases h
    | ok x =>
      obtain ⟨s2, p1⟩ := x
      by_cases c2 : bz_ f n p1 = 59
      · cases el : pl_ (bz_ f n) 6 (p1 + 1) [] with
        | error e => rw [pt_4 c er c2 el] at h; cases h
        | ok x =>
          obtain ⟨p2, l2⟩ := x
          cases es : ps_ (bz_ f n) 4 p2 [] with
          | error e => rw [pt_5 c er c2 el es] at h; cases h
          | ok x =>
            obtain ⟨p3, t2⟩ := x
            rw [pt_6 c er c2 el es] at h
            split at h
            · cases h
            · cases h
              have rb := rn_ok er
              exact ⟨⟨rb.1, rb.2.1⟩, pl_r 6 _ [] (fun x hx => absurd hx (List.not_mem_nil)) (by decide) el, ps_r 4 _ [] (fun x hx => absurd hx (List.not_mem_nil)) (by decide) es⟩
      · rw [pt_3 c er c2] at h; cases h
  · rw [pt_1 c] at h; cases h
/-- a town that was read, and the reference's numbers of it -/
theorem twn_d {h : SH_} {f : Int → Int} {st : Int} {ls : List (Int × Int × Int)} {ss : List (Int × Int)} (r : (1 ≤ st ∧ st ≤ 9) ∧ ((∀ x ∈ ls, lo_ x.1 x.2.1 x.2.2) ∧ ls.length ≤ 6) ∧ ((∀ x ∈ ss, (0 ≤ x.1 ∧ x.1 ≤ 20) ∧ (0 ≤ x.2 ∧ x.2 < 16)) ∧ ss.length ≤ 4)) (t : td_ h 15 st ls ss) (m : mdt_ f st ls ss) : twn_ h 15 f := by
  obtain ⟨r1, ⟨r2, r3⟩, r4, r5⟩ := r
  obtain ⟨t0, t1, t2, t3, t4, t5⟩ := t
  obtain ⟨m0, m1, m2, m3, m4, m5, m6⟩ := m
  have gl : ∀ l, 0 ≤ l → l < (ls.length : Int) → ∃ x, ls[l.toNat]? = some x ∧ x ∈ ls := fun l l0 l1 => ⟨ls[l.toNat]'(by omega), List.getElem?_eq_getElem (by omega), List.getElem_mem _⟩
  have gs : ∀ l, 0 ≤ l → l < (ss.length : Int) → ∃ x, ss[l.toNat]? = some x ∧ x ∈ ss := fun l l0 l1 => ⟨ss[l.toNat]'(by omega), List.getElem?_eq_getElem (by omega), List.getElem_mem _⟩
  refine ⟨⟨by rw [t2]; omega, by rw [t3]; omega, by rw [t0]; omega, fun l l0 l1 => ?_, fun s s0 s1 => ?_⟩, ⟨by rw [m0, t0], by rw [m1, t1], by rw [m2, t2], by rw [m3, t3]⟩, fun l l0 l1 => ?_, fun s s0 s1 => ?_⟩
  · rw [t2] at l1
    obtain ⟨x, hx, hm⟩ := gl l l0 l1
    have z := t4 _ x hx
    rw [Int.toNat_of_nonneg l0] at z
    rw [z.1, z.2.1, z.2.2]
    exact r2 x hm
  · rw [t3] at s1
    obtain ⟨x, hx, hm⟩ := gs s s0 s1
    have z := t5 _ x hx
    rw [Int.toNat_of_nonneg s0] at z
    have y := r4 x hm
    rw [z.1, z.2.1, z.2.2.1, z.2.2.2]
    exact ⟨y.1, y.2, by decide, by decide⟩
  · rw [t2] at l1
    obtain ⟨x, hx, hm⟩ := gl l l0 l1
    have z := t4 _ x hx
    have y := m4 _ x hx
    rw [Int.toNat_of_nonneg l0] at z y
    rw [z.1, z.2.1, z.2.2]
    exact y
  · rw [t3] at s1
    obtain ⟨x, hx, hm⟩ := gs s s0 s1
    have z := t5 _ x hx
    have y := m5 _ x hx
    have w := m6 s.toNat (by omega)
    rw [Int.toNat_of_nonneg s0] at z y w
    rw [z.1, z.2.1, z.2.2.1, z.2.2.2]
    exact ⟨y.1, y.2, w.1, w.2⟩
section PJ5_
variable {g : SG_} {d : Nat} {h : SH_}
theorem P_image {k : Int} (j : J_ h) : Pr_ g d mX8_image mX9_image [sv_i k] h := by
  have c := j.1
  have e0 := c.2.1.1
  have j6 := j.2.2.2.2.2.1
  refine x_image (fun q => ⟨_, rfl, mx_image (fun _ => ⟨rfl, j⟩) (fun z => absurd z (by omega)) (fun z => absurd z (by omega))⟩) (fun q q0 => ⟨_, rfl, mx_image (fun z => absurd z (by omega)) (fun _ _ => ⟨rfl, j⟩) (fun _ z => absurd z (by rw [e0]; exact q0))⟩) (fun q q0 h2 t => ?_)
  have e74 : h2 74 = h 74 := t.1 74 (by omega)
  refine ⟨_, rfl, mx_image (fun z => absurd z (by omega)) (fun _ z => absurd (by rw [e74, e0]; exact q0) z) (fun _ _ => ⟨rfl, ?_⟩)⟩
  have ek : ∀ a, a ≠ 77 → a ≠ 78 → hs_ (hc_ h2 74 0 77 (38 * k) 38) 78 k 1 a = h2 a := fun a a1 a2 => by rw [hs_k a2, hc_k a1]
  refine J_img j (fun a a1 a2 a3 => by rw [ek a a2 a3]; exact t.1 a (by omega)) (fun k2 k0 k1 => ?_)
  by_cases e : k2 = k
  · subst e
    refine Or.inr ⟨by rw [hs_e]; decide, ?_, ?_⟩
    · rw [ek _ (by omega) (by omega), t.2.1 0 (by decide) (by decide)]; exact q0
    · refine twn_c (p := h2) (fun a a0 a1 => ek a (by omega) (by omega)) (fun b b0 b1 => rfl) (twn_tc ((twn_7 h h).mpr c) t (fun b b0 b1 => ?_))
      rw [hs_k (by decide), hc_in (by omega), e74, show 0 + (38 * k2 + b - 38 * k2) = b by omega]
  · have h78 : hs_ (hc_ h2 74 0 77 (38 * k) 38) 78 k 1 78 k2 = h 78 k2 := by rw [hs_n (by omega), hc_k (by decide), t.1 78 (by omega)]
    rw [h78, ek _ (by omega) (by omega), t.1 (23 + 8 * k2) (by omega)]
    rcases j6 k2 k0 k1 with z | ⟨z1, z2, z3⟩
    · exact Or.inl z
    · refine Or.inr ⟨z1, z2, twn_c (p := h) (fun a a0 a1 => ?_) (fun b b0 b1 => ?_) z3⟩
      · rw [ek _ (by omega) (by omega), t.1 a (by omega)]
      · rw [hs_k (by decide), hc_out (by omega), t.1 77 (by omega)]
theorem P_restore {k : Int} (j : J_ h) : Pr_ g d mX8_restore mX9_restore [sv_i k] h := by
  have j6 := j.2.2.2.2.2.1
  obtain ⟨a1, a2, a3, a4⟩ := j.2.2.2.2.2.2
  refine x_restore (fun q => ⟨_, rfl, mx_restore (fun _ => ⟨rfl, j⟩) (fun z => absurd z (by omega)) (fun z => absurd z (by omega))⟩) (fun q q0 => ⟨_, rfl, mx_restore (fun z => absurd z (by omega)) (fun _ _ => ⟨rfl, j⟩) (fun _ z => ?_)⟩) (fun q q0 h2 t => ?_)
  · rcases j6 k q.1 q.2 with y | y
    · exact absurd y.1 z
    · exact absurd y.2.1 q0
  · rcases j6 k q.1 q.2 with y | ⟨y1, y2, y3⟩
    · exact absurd q0 y.2
    have ek : ∀ a, a ≠ 40 → hs_ h2 40 6 0 a = h2 a := fun a ha => hs_k ha
    have e78 : hs_ h2 40 6 0 78 k = h 78 k := by rw [ek 78 (by decide), t.1 78 (by omega)]
    refine ⟨_, rfl, mx_restore (fun z => absurd z (by omega)) (fun _ z => absurd (by rw [← e78]; exact z) y1) (fun _ _ => ⟨rfl, ?_⟩)⟩
    have fk : ∀ a, a ≠ 40 → a ≠ 68 → a ≠ 74 → hs_ (hc_ (hs_ h2 40 6 0) 77 (38 * k) 74 0 38) 68 16 0 a = h2 a := fun a b1 b2 b3 => by rw [hs_k b2, hc_k b3, hs_k b1]
    refine J_twn j (fun a b1 b2 b3 b4 b5 b6 => by rw [fk a b3 b4 b5]; exact t.1 a (by omega)) (fun b b0 b1 => ?_) ?_ (tap_k (by rw [fk 5 (by decide) (by decide) (by decide), t.1 5 (by omega)]) (by rw [fk 6 (by decide) (by decide) (by decide), t.1 6 (by omega)]) (by rw [fk 73 (by decide) (by decide) (by decide), t.1 73 (by omega)]) ?_ ?_ j.2.2.2.2.1) ⟨?_, ?_, ?_, fun i i0 i1 => ?_⟩
    · rw [hs_n (by omega), hc_k (by decide), hs_k (by decide), t.1 68 (by omega)]
    · refine (twn_7 _ _).mp (twn_c (p := h2) (fun a b0 b1 => fk a (by omega) (by omega) (by omega)) (fun b b0 b1 => rfl) (twn_tc y3 t (fun b b0 b1 => ?_)))
      rw [hs_k (by decide), hc_in (by omega), hs_k (by decide), t.1 77 (by omega), show 38 * k + (b - 0) = 38 * k + b by omega]
    · rw [hs_n (by omega), hc_k (by decide), hs_k (by decide), t.1 68 (by omega)]
    · rw [hs_n (by omega), hc_k (by decide), hs_k (by decide), t.1 68 (by omega)]
    · rw [hs_k (by decide), hc_k (by decide), hs_e]; decide
    · rw [hs_e, hs_k (by decide), hc_k (by decide), hs_e]
    · rw [hs_k (by decide), hc_k (by decide), hs_n (by omega), t.1 40 (by omega)]; exact a3
    · rw [hs_k (by decide), hc_k (by decide), hs_e] at i1
      exact absurd i1 (by omega)
theorem P_ask {l w : Int} (hX : sx_ g) (j : J_ h) : Pr_ g d mX8_ask mX9_ask [sv_i l, sv_i w] h := by
  obtain ⟨t1, t2, t3⟩ := id j.2.2.1
  refine x_ask hX j.1.1 t1 (fun q => ⟨_, rfl, mx_ask j.1 j.2.2.1 (fun _ => ⟨rfl, j⟩) (fun z => absurd z q)⟩) (fun q => ?_)
  have zk : ∀ a, a ≠ 66 → a ≠ 67 → (if w = 0 then zs_ (hs_ h 66 1 0) l else zm_ (hs_ h 66 1 0) l) a = h a := fun a b1 b2 => by
    split
    · rw [zs_k b1 b2, hs_k b1]
    · rw [zm_k b1 b2, hs_k b1]
  refine ⟨_, rfl, mx_ask (p := h) (cpl_k (zk 74 (by decide) (by decide)) j.1) ⟨t1, by rw [zk 68 (by decide) (by decide)]; exact t2, fun i i0 i1 => by rw [zk 79 (by decide) (by decide)]; exact t3 i i0 i1⟩ (fun z => absurd q z) (fun _ hc tc kc => ⟨rfl, ?_⟩)⟩
  refine J_trc j (fun a b1 b2 b3 b4 => by rw [kc.1 a b3 b4, zk a b1 b2]) (fun b hb => by rw [kc.2 b hb, zk 68 (by decide) (by decide)]) ?_
  unfold trc_ at tc ⊢
  rw [kc.1 66 (by decide) (by decide), kc.1 67 (by decide) (by decide)]
  exact tc
theorem P_town (j : J_ h) : Pr_ g d mX8_town mX9_town [] h := by
  obtain ⟨t1, t2, t3, t4⟩ := id j.2.2.2.2.1
  obtain ⟨a1, a2, a3, a4⟩ := j.2.2.2.2.2.2
  have eB : bz_ (h 73) (h 5 1) = bz_ (h 6) (h 5 1) := by
    funext q
    unfold bz_
    by_cases c : 0 ≤ q ∧ q < h 5 1
    · rw [if_pos c, if_pos c]; exact (t4 q c.1 c.2).1
    · rw [if_neg c, if_neg c]
  have tp : tpo_ (h 73) (h 5 1) := ⟨t1, fun i i0 i1 => by rw [(t4 i i0 i1).1]; exact (t4 i i0 i1).2⟩
  refine x_town t1 (fun q k h2 e r => ?_) (fun st ls ss h2 q h3 e r td tc => ?_)
  · have rk : ∀ a, a ≠ 5 → (a < 15 ∨ 22 < a) → h2 a = h a := r.1
    have rt : rtp_ (h 73) (h 5 1) h2 := ⟨rk 73 (by decide) (by omega), by rw [rk 68 (by decide) (by omega)]; exact t2⟩
    refine ⟨_, rfl, mx_town rt tp (fun q2 k2 hc e2 hq te => ?_) (fun st ls ss hc e2 => ?_)⟩
    · rw [eB, e] at e2
      cases Except.error.inj e2
      refine ⟨by rw [sw_32i ⟨by omega, by omega⟩], ?_⟩
      obtain ⟨f1, f2, f3, f4⟩ := te
      refine J_twn j (fun a b1 b2 b3 b4 b5 b6 => by rw [f1 a b4 b6]; exact rk a b1 (by omega)) (fun b b0 b1 => by rw [f2 b b0, rk 68 (by decide) (by omega)]) (cpl_2 (fun a b0 b1 => by rw [f1 a (by omega) (by omega)]; exact rk a (by omega) (by omega)) (by rw [f1 74 (by decide) (by decide)]; exact rk 74 (by decide) (by omega)) j.1) ⟨?_, ?_, ?_, fun i i0 i1 => ?_⟩ (act_k (fun a b0 b1 => by rw [f1 a (by omega) (by omega)]; exact rk a (by omega) (by omega)) (by rw [f1 7 (by decide) (by decide), rk 7 (by decide) (by omega)]) (by rw [f1 74 (by decide) (by decide)]; exact rk 74 (by decide) (by omega)) (by rw [f1 76 (by decide) (by decide)]; exact rk 76 (by decide) (by omega)) (by rw [f2 16 (by omega), rk 68 (by decide) (by omega)]) j.2.2.2.2.2.2)
      · rw [f1 5 (by decide) (by decide), r.2.1]; decide
      · rw [f3, f1 5 (by decide) (by decide), r.2.1]
      · rw [f4, f1 5 (by decide) (by decide), r.2.2.2]
      · rw [f1 5 (by decide) (by decide), r.2.1] at i1
        exact absurd i1 (by omega)
    · rw [eB, e] at e2
      cases e2
  · have rk : ∀ a, a ≠ 5 → (a < 7 ∨ 22 < a) → a ≠ 40 → hs_ h3 40 6 0 a = h a := fun a b1 b2 b3 => by rw [hs_k b3, tc.1 a (by omega)]; exact r.1 a b1 (by omega)
    have rt : rtp_ (h 73) (h 5 1) (hs_ h3 40 6 0) := ⟨rk 73 (by decide) (by omega) (by decide), by rw [rk 68 (by decide) (by omega) (by decide)]; exact t2⟩
    have e5 : hs_ h3 40 6 0 5 = h2 5 := by rw [hs_k (by decide), tc.1 5 (by omega)]
    refine ⟨_, rfl, mx_town rt tp (fun q2 k2 hc e2 => ?_) (fun st2 ls2 ss2 hc e2 tk => ?_)⟩
    · rw [eB, e] at e2
      cases e2
    · rw [eB, e] at e2
      cases Except.ok.inj e2
      obtain ⟨f1, f2, f3, f4, f5, f6⟩ := tk
      refine ⟨?_, ?_⟩
      · rw [tc.2.1 3 (by decide) (by decide), td.2.2.2.1]
      refine J_twn j (fun a b1 b2 b3 b4 b5 b6 => by rw [f1 a b4 b5 b6]; exact rk a b1 b2 b3) (fun b b0 b1 => by rw [f2 b b0 b1, rk 68 (by decide) (by omega) (by decide)]) ?_ ⟨?_, ?_, ?_, fun i i0 i1 => ?_⟩ ⟨?_, ?_, ?_, fun i i0 i1 => ?_⟩
      · refine (twn_7 _ _).mp (twn_c (p := h3) (fun a b0 b1 => by rw [f1 a (by omega) (by omega) (by omega), hs_k (by omega)]) (fun b _ _ => rfl) (twn_tc (twn_d (pt_r e) td f6) tc (fun b _ _ => rfl)))
      · rw [f1 5 (by decide) (by decide) (by decide), e5, r.2.1]; decide
      · rw [f3, f1 5 (by decide) (by decide) (by decide), e5, r.2.1]
      · rw [f4, f1 5 (by decide) (by decide) (by decide), e5, r.2.2.2, rk 68 (by decide) (by omega) (by decide)]; exact t3
      · rw [f1 5 (by decide) (by decide) (by decide), e5, r.2.1] at i1
        exact absurd i1 (by omega)
      · rw [f1 40 (by decide) (by decide) (by decide), hs_e]; decide
      · rw [f5, f1 40 (by decide) (by decide) (by decide), hs_e]
      · rw [f1 40 (by decide) (by decide) (by decide), hs_n (by omega), tc.1 40 (by omega), r.1 40 (by decide) (by omega)]; exact a3
      · rw [f1 40 (by decide) (by decide) (by decide), hs_e] at i1
        exact absurd i1 (by omega)
end PJ5_
