theorem J_fm {h h2 h3 : SH_} (j : J_ h) (k : fk_ h h2) (m : msc_ h2 h3) : J_ h3 := by
  refine J_s (jsc_m (jsc_f (jsc_r h) k) m) ?_ j
  rw [m.2 4 (by omega), k 68 (by omega), m.1 0 (by decide) (by decide) (by decide) (by decide), k 0 (by omega)]
  exact j.2.2.2.1
theorem J_fms {h h2 h3 : SH_} {v : Int} (j : J_ h) (k : fk_ h h2) (m : msc_ (hs_ h2 0 8 v) h3) : J_ (hs_ h3 68 4 v) := by
  refine J_s (jsc_4 (jsc_m (jsc_0 (jsc_f (jsc_r h) k)) m)) ?_ j
  rw [hs_e, hs_k (by decide), m.1 0 (by decide) (by decide) (by decide) (by decide), hs_e]
theorem J_f {h h2 : SH_} (j : J_ h) (k : fk_ h h2) : J_ h2 := J_fm j k (msc_r h2)
theorem cpl_F {h h2 : SH_} (j : J_ h) (k : fk_ h h2) : cpl_ h h2 := cpl_k (k 74 (by omega)) j.1
theorem rcp_F {h h2 : SH_} (j : J_ h) (k : fk_ h h2) : rcp_ h h2 := rcp_k (k 69 (by omega)) (k 70 (by omega)) (k 71 (by omega)) j.2.1
theorem cpl_0 {h h2 : SH_} {v : Int} (c : cpl_ h h2) : cpl_ h (hs_ h2 0 8 v) := cpl_k (hs_k (by decide)) c
theorem rcp_0 {h h2 : SH_} {v : Int} (c : rcp_ h h2) : rcp_ h (hs_ h2 0 8 v) := rcp_k (hs_k (by decide)) (hs_k (by decide)) (hs_k (by decide)) c
theorem J_tap {h hc : SH_} (j : J_ h) (e : ∀ a, a ≠ 5 → a ≠ 6 → a ≠ 68 → a ≠ 73 → hc a = h a) (e68 : ∀ b, b ≠ 6 → hc 68 b = h 68 b) (t : tap_ hc) : J_ hc := by
  obtain ⟨j1, j2, j3, j4, j5, j6, j7⟩ := j
  have c : ∀ a, (a < 5 ∨ (6 < a ∧ a < 68) ∨ (68 < a ∧ a < 73) ∨ 73 < a) → hc a = h a := fun a ha => e a (by omega) (by omega) (by omega) (by omega)
  exact ⟨cpl_2 (fun a _ _ => c a (by omega)) (c 74 (by omega)) j1, rcp_2 (c 2 (by omega)) (c 3 (by omega)) (c 4 (by omega)) (c 69 (by omega)) (c 70 (by omega)) (c 71 (by omega)) j2, trc_k (by rw [c 66 (by omega)]) (c 67 (by omega)) (c 79 (by omega)) (e68 20 (by decide)) j3, by rw [e68 4 (by decide), c 0 (by omega)]; exact j4, t, img_k (fun a _ _ => c a (by omega)) (c 77 (by omega)) (c 78 (by omega)) j6, act_k (fun a _ _ => c a (by omega)) (by rw [c 7 (by omega)]) (c 74 (by omega)) (c 76 (by omega)) (e68 16 (by decide)) j7⟩
theorem ws_c {f k : Int → Int} {l : Int} : ∀ n : Nat, (∀ s : Int, 0 ≤ s → s < n → f s = k s) → ws_ f l n = ws_ k l n := by
  intro n
  induction n with
  | zero => intro _; rfl
  | succ n ih =>
    intro hh
    show ws_ f l n + bt_ (f n) l = ws_ k l n + bt_ (k n) l
    rw [ih (fun s a b => hh s a (by omega)), hh n (by omega) (by omega)]
theorem pr_c {f k : Int → Int} {a b : Int} : ∀ n : Nat, (∀ s : Int, 0 ≤ s → s < n → (f s = a ↔ k s = b)) → pr_ f a n = pr_ k b n := by
  intro n
  induction n with
  | zero => intro _; rfl
  | succ n ih =>
    intro hh
    show pr_ f a n + (if f n = a then 0 else 1) = pr_ k b n + (if k n = b then 0 else 1)
    rw [ih (fun s x y => hh s x (by omega))]
    have z := hh n (by omega) (by omega)
    by_cases c : f n = a
    · rw [if_pos c, if_pos (z.mp c)]
    · rw [if_neg c, if_neg (fun w => c (z.mpr w))]
section PJ2_
variable {g : SG_} {d : Nat} {h : SH_}
theorem P_feed {b : Int} (j : J_ h) : Pr_ g d mX8_feed mX9_feed [sv_i b] h := by
  obtain ⟨t1, t2, t3, t4⟩ := j.2.2.2.2.1
  refine x_feed t1 (fun q => ⟨_, rfl, mx_feed (by rw [t2]; exact t1) (fun _ => ⟨rfl, j⟩) (fun z => absurd z q) (fun z => absurd z q)⟩) (fun q q0 => ⟨_, rfl, mx_feed (by rw [t2]; exact t1) (fun z => absurd q z) (fun _ _ => ⟨rfl, j⟩) (fun _ z => absurd (by rw [t2]; omega) z)⟩) (fun q q0 => ?_)
  have eC : ∀ a, a ≠ 5 → a ≠ 6 → hs_ (hs_ h 6 (h 5 1) b) 5 1 (h 5 1 + 1) a = h a := fun a a1 a2 => by rw [hs_k a1, hs_k a2]
  have e6 : hs_ (hs_ h 6 (h 5 1) b) 5 1 (h 5 1 + 1) 68 6 = h 5 1 := by rw [eC 68 (by decide) (by decide)]; exact t2
  refine ⟨_, rfl, mx_feed (by rw [e6]; exact t1) (fun z => absurd q z) (fun _ z => absurd z (by rw [e6]; omega)) (fun _ _ => ⟨by rw [e6], ?_⟩)⟩
  rw [e6]
  refine J_tap j (fun a a1 a2 a3 a4 => ?_) (fun b hb => ?_) ⟨?_, ?_, ?_, fun i i0 i1 => ?_⟩
  · rw [hs_k a3, hs_k a4, eC a a1 a2]
  · rw [hs_n (by omega), hs_k (by decide), eC 68 (by decide) (by decide)]
  · rw [hs_k (by decide), hs_k (by decide), hs_e]; omega
  · rw [hs_e, hs_k (by decide), hs_k (by decide), hs_e]
  · rw [hs_n (by omega), hs_k (by decide), eC 68 (by decide) (by decide), hs_k (by decide), hs_k (by decide), hs_n (by omega), hs_k (by decide)]
    exact t3
  · rw [hs_k (by decide), hs_k (by decide), hs_e] at i1
    rw [hs_k (a := 73) (by decide), hs_k (a := 6) (by decide), hs_k (a := 6) (by decide), hs_k (a := 6) (by decide)]
    by_cases e : i = h 5 1
    · rw [e, hs_e, hs_e]
      exact ⟨rfl, q⟩
    · rw [hs_n (a := 73) (by omega), eC 73 (by decide) (by decide), hs_n (a := 6) (by omega)]
      exact t4 i i0 (by omega)
theorem P_fault (j : J_ h) : Pr_ g d mX8_fault mX9_fault [] h := x_fault ⟨_, rfl, mx_fault ⟨by rw [j.2.2.2.2.1.2.2.1], j⟩⟩
theorem P_status (j : J_ h) : Pr_ g d mX8_status mX9_status [] h := x_status ⟨_, rfl, mx_status ⟨by rw [j.2.2.2.1], j⟩⟩
theorem P_kind {l : Int} (j : J_ h) : Pr_ g d mX8_kind mX9_kind [sv_i l] h := by
  have c := j.1
  refine x_kind c.1.1 ⟨_, rfl, mx_kind (by rw [c.2.1.2.2.1]; exact c.1.1) (fun q => ⟨?_, j⟩) (fun q => ⟨?_, j⟩)⟩
  · rw [c.2.1.2.2.1] at q
    rw [if_neg q]
  · rw [c.2.1.2.2.1] at q
    rw [if_pos q, (c.2.2.1 l q.1 q.2).1]
theorem P_trace {i : Int} (j : J_ h) : Pr_ g d mX8_trace mX9_trace [sv_i i] h := by
  obtain ⟨t1, t2, t3⟩ := j.2.2.1
  refine x_trace t1 ⟨_, rfl, mx_trace (by rw [t2]; exact t1) (fun q => ⟨?_, j⟩) (fun q => ⟨?_, j⟩)⟩
  · rw [t2] at q
    rw [if_neg q]
  · rw [t2] at q
    rw [if_pos q, t3 i q.1 q.2]
theorem P_lie {l w : Int} (j : J_ h) : Pr_ g d mX8_lie mX9_lie [sv_i l, sv_i w] h := by
  have c := j.1
  have e2 := c.2.1.2.2.1
  have e3 := c.2.1.2.2.2
  have o1 := c.1.1
  have o2 := c.1.2.1
  refine x_lie o1 o2 (fun q => ⟨_, rfl, mx_lie (by rw [e2]; exact o1) (by rw [e3]; exact o2) (fun _ => ⟨rfl, j⟩) (fun z => absurd z (by rw [e2]; exact q)) (fun z => absurd z (by rw [e2]; exact q))⟩) (fun q q0 => ⟨_, rfl, mx_lie (by rw [e2]; exact o1) (by rw [e3]; exact o2) (fun z => absurd (by rw [e2]; exact q) z) (fun _ _ => ⟨rfl, j⟩) (fun _ z => absurd z q0)⟩) (fun q q0 => ⟨_, rfl, mx_lie (by rw [e2]; exact o1) (by rw [e3]; exact o2) (fun z => absurd (by rw [e2]; exact q) z) (fun _ z => absurd q0 z) (fun _ _ => ⟨?_, j⟩)⟩)
  have w1 : ws_ (fun s => h 74 (22 + 4 * s + 2)) l (h 7 3).toNat = ws_ (h 13) l (h 7 3).toNat := ws_c _ (fun s s0 s1 => (c.2.2.2 s s0 (by omega)).2.2.1)
  have w2 : ws_ (fun s => h 74 (22 + 4 * s + 3)) l (h 7 3).toNat = ws_ (h 14) l (h 7 3).toNat := ws_c _ (fun s s0 s1 => (c.2.2.2 s s0 (by omega)).2.2.2)
  rw [e3, w1, w2, (c.2.2.1 l q.1 q.2).2.1, (c.2.2.1 l q.1 q.2).2.2]
  rfl
theorem P_stranger {s w : Int} (j : J_ h) : Pr_ g d mX8_stranger mX9_stranger [sv_i s, sv_i w] h := by
  have c := j.1
  have e3 := c.2.1.2.2.2
  have o2 := c.1.2.1
  refine x_stranger o2 (fun q => ⟨_, rfl, mx_stranger (by rw [e3]; exact o2) (fun _ => ⟨rfl, j⟩) (fun z => absurd z (by rw [e3]; exact q))⟩) (fun q q0 => ⟨_, rfl, mx_stranger (by rw [e3]; exact o2) (fun z => absurd (by rw [e3]; exact ⟨q, q0⟩) z) (fun _ => ⟨?_, j⟩)⟩)
  obtain ⟨a1, a2, a3, a4⟩ := c.2.2.2 s q.1 q.2
  rcases (by omega : w = 0 ∨ w = 1 ∨ w = 2 ∨ w = 3) with rfl | rfl | rfl | rfl
  · rw [Int.add_zero, a1]; rfl
  · rw [a2]; rfl
  · rw [a3]; rfl
  · rw [a4]; rfl
theorem P_count {w : Int} (j : J_ h) : Pr_ g d mX8_count mX9_count [sv_i w] h := by
  have c := j.1
  obtain ⟨e0, e1, e2, e3⟩ := c.2.1
  refine x_count (fun q => ⟨_, rfl, mx_count (fun _ => ⟨rfl, j⟩) (fun z => absurd z q)⟩) (fun q => ⟨_, rfl, mx_count (fun z => absurd q z) (fun _ => ⟨?_, j⟩)⟩)
  have ep : pr_ (h 69) (-1000000) 8 = pr_ (h 2) (-1) 8 := pr_c 8 (fun s s0 s1 => by
    have m := rcp_1 j.2.1 (r := s) ⟨s0, s1⟩
    constructor
    · intro z
      by_cases y : h 2 s = -1
      · exact y
      · exact absurd z (m.2 y).1
    · exact m.1)
  rw [ep, e0, e1, e2, e3, j.2.2.2.2.2.2.2.1, j.2.2.2.2.1.2.1]
theorem P_as {l k : Int} (hX : sx_ g) (j : J_ h) : Pr_ g d mX8_as mX9_as [sv_i l, sv_i k] h := by
  have c := j.1
  refine x_as hX c.1.1 (fun l a b => (c.1.2.2.2.1 l a b).1) (fun q => ⟨_, rfl, mx_as c (fun _ => ⟨rfl, j⟩) (fun z => absurd z q) (fun z => absurd z q)⟩) (fun q q0 => ⟨_, rfl, mx_as (cpl_0 c) (fun z => absurd q z) (fun _ _ => ⟨rfl, J_0 j⟩) (fun _ z => absurd z q0)⟩) (fun q q0 => ⟨_, rfl, mx_as (cpl_0 c) (fun z => absurd q z) (fun _ z => absurd q0 z) (fun _ _ => ⟨rfl, J_0 j⟩)⟩)
theorem P_need {s l : Int} (j : J_ h) : Pr_ g d mX8_need mX9_need [sv_i s, sv_i l] h := by
  have c := j.1
  have cm := cpl_mt c
  have e2 := c.2.1.2.2.1
  have e3 := c.2.1.2.2.2
  refine x_need c.1 (fun q => ⟨_, rfl, mx_need cm (fun _ => ⟨rfl, j⟩) (fun z => absurd z (by rw [e2, e3]; exact q))⟩) (fun q => ?_)
  have k := fk_52 h (en_ h s)
  have c2 := cpl_F j k
  have f2 := c2.2.1.2.2.1
  have f3 := c2.2.1.2.2.2
  refine ⟨_, rfl, mx_need (cpl_mt c2) (fun z => absurd (by rw [f2, f3]; exact q) z) (fun _ => ⟨?_, ?_⟩)⟩
  · obtain ⟨a1, a2, a3⟩ := c2.2.2.1 l q.2.1 q.2.2
    rw [a1, a2, a3, cpl_en c2 q.1]
  · exact J_fm j k (msc_mw _ _)
theorem P_nods {s : Int} (j : J_ h) : Pr_ g d mX8_nods mX9_nods [sv_i s] h := by
  refine x_nods j.1.1 (fun q => ⟨_, rfl, mx_nods j.1 (fun _ => ⟨rfl, j⟩) (fun z => absurd z q)⟩) (fun q => ?_)
  have k := fk_52 h (en_ h s)
  exact ⟨_, rfl, mx_nods (cpl_F j k) (fun z => absurd q z) (fun _ => ⟨rfl, J_fm j k (msc_mw _ _)⟩)⟩
theorem P_order {s x k : Int} (j : J_ h) : Pr_ g d mX8_order mX9_order [sv_i s, sv_i x, sv_i k] h := by
  refine x_order j.1.1 (fun q => ⟨_, rfl, mx_order j.1 (fun _ => ⟨rfl, j⟩) (fun z => absurd z q) (fun z => absurd z q)⟩) (fun q q0 => ⟨_, rfl, mx_order j.1 (fun z => absurd q z) (fun _ _ => ⟨rfl, j⟩) (fun _ z => absurd z q0)⟩) (fun q q0 h2 k => ⟨_, rfl, mx_order (cpl_F j k) (fun z => absurd q z) (fun _ z => absurd q0 z) (fun _ _ h3 m => ⟨rfl, J_fm j k m⟩)⟩)
theorem P_comesIn {s l w : Int} (j : J_ h) : Pr_ g d mX8_comesIn mX9_comesIn [sv_i s, sv_i l, sv_i w] h := by
  refine x_comesIn j.1.1 (fun q => ⟨_, rfl, mx_comesIn j.1 (fun _ => ⟨rfl, j⟩) (fun z => absurd z q) (fun z => absurd z q) (fun z => absurd z q)⟩) (fun q q0 => ⟨_, rfl, mx_comesIn j.1 (fun z => absurd q z) (fun _ _ => ⟨rfl, j⟩) (fun _ z => absurd z q0) (fun _ z => absurd z q0)⟩) (fun q q0 e h2 k => ⟨_, rfl, mx_comesIn (cpl_F j k) (fun z => absurd q z) (fun _ z => absurd q0 z) (fun _ _ _ h3 m => ⟨rfl, J_fm j k m⟩) (fun _ _ i r e2 => absurd (e.symm.trans e2) (by simp))⟩) (fun q q0 i r e h2 k => ⟨_, rfl, mx_comesIn (cpl_F j k) (fun z => absurd q z) (fun _ z => absurd q0 z) (fun _ _ e2 => absurd (e.symm.trans e2) (by simp)) (fun _ _ i2 r2 e2 h3 m => ?_)⟩)
  have e3 := Option.some.inj (e.symm.trans e2)
  cases e3
  exact ⟨rfl, J_fm j k m⟩
theorem P_dead {s : Int} (j : J_ h) : Pr_ g d mX8_dead mX9_dead [sv_i s] h := by
  refine x_dead j.1.1 (fun q => ⟨_, rfl, mx_dead j.1 (fun _ => ⟨rfl, j⟩) (fun z => absurd z q)⟩) (fun q h2 k => ⟨_, rfl, mx_dead (cpl_F j k) (fun z => absurd q z) (fun _ h3 m => ⟨rfl, J_fm j k m⟩)⟩)
theorem P_help {s w : Int} (j : J_ h) : Pr_ g d mX8_help mX9_help [sv_i s, sv_i w] h := by
  refine x_help j.1.1 (fun q => ⟨_, rfl, mx_help j.1 (fun _ => ⟨rfl, j⟩) (fun z => absurd z q)⟩) (fun q h2 k => ⟨_, rfl, mx_help (cpl_F j k) (fun z => absurd q z) (fun _ m => ⟨rfl, J_fm j k (msc_mw _ _)⟩)⟩)
theorem P_suppers {s l : Int} (j : J_ h) : Pr_ g d mX8_suppers mX9_suppers [sv_i s, sv_i l] h := by
  refine x_suppers j.1.1 (fun q => ⟨_, rfl, mx_suppers j.1 (fun _ => ⟨rfl, j⟩) (fun z => absurd z q) (fun z => absurd z q)⟩) (fun q q0 => ⟨_, rfl, mx_suppers j.1 (fun z => absurd q z) (fun _ _ => ⟨rfl, j⟩) (fun _ z => absurd z q0)⟩) (fun q q0 m2 => ⟨_, rfl, mx_suppers (cpl_F j (fk_52 h m2)) (fun z => absurd q z) (fun _ z => absurd q0 z) (fun _ _ m => ⟨rfl, J_fm j (fk_52 h m2) (msc_mw _ _)⟩)⟩)
theorem P_doubted {s r i n w : Int} (j : J_ h) : Pr_ g d mX8_doubted mX9_doubted [sv_i s, sv_i r, sv_i i, sv_i n, sv_i w] h := by
  have hl3 : ∀ r, 0 ≤ r → r < 8 → 0 ≤ h 3 r ∧ h 3 r ≤ 40 := fun r a b => (j.2.1 r a b).1
  refine x_doubted j.1.1 hl3 (fun q => ⟨_, rfl, mx_doubted j.1 j.2.1 (fun _ => ⟨rfl, j⟩) (fun z => absurd z q) (fun z => absurd z q) (fun z => absurd z q) (fun z => absurd z q)⟩)
    (fun q q0 => ⟨_, rfl, mx_doubted (cpl_0 j.1) (rcp_0 j.2.1) (fun z => absurd q z) (fun _ _ => ⟨rfl, J_0 j⟩) (fun _ z => absurd q0 z) (fun _ z => absurd q0 z) (fun _ z => absurd q0 z)⟩)
    (fun q q0 q1 => ⟨_, rfl, mx_doubted (cpl_0 j.1) (rcp_0 j.2.1) (fun z => absurd q z) (fun _ z => absurd z q0) (fun _ _ _ => ⟨rfl, J_0 j⟩) (fun _ _ z => absurd z q1) (fun _ _ z => absurd z q1)⟩)
    (fun q q0 q1 q2 h2 k => ⟨_, rfl, mx_doubted (cpl_F j k) (rcp_F j k) (fun z => absurd q z) (fun _ z => absurd z q0) (fun _ _ z => absurd q1 z) (fun _ _ _ _ => ⟨rfl, J_f j k⟩) (fun _ _ _ z => absurd z q2)⟩)
    (fun q q0 q1 q2 h2 k => ⟨_, rfl, mx_doubted (cpl_0 (cpl_F j k)) (rcp_0 (rcp_F j k)) (fun z => absurd q z) (fun _ z => absurd z q0) (fun _ _ z => absurd q1 z) (fun _ _ _ z => absurd q2 z) (fun _ _ _ _ m => ⟨rfl, J_fms j k (msc_mw _ _)⟩)⟩)
theorem P_trusted {s r i n : Int} (j : J_ h) : Pr_ g d mX8_trusted mX9_trusted [sv_i s, sv_i r, sv_i i, sv_i n] h := by
  have hl3 : ∀ r, 0 ≤ r → r < 8 → 0 ≤ h 3 r ∧ h 3 r ≤ 40 := fun r a b => (j.2.1 r a b).1
  refine x_trusted j.1.1 hl3 (fun q => ⟨_, rfl, mx_trusted j.1 j.2.1 (fun _ => ⟨rfl, j⟩) (fun z => absurd z q) (fun z => absurd z q) (fun z => absurd z q) (fun z => absurd z q)⟩)
    (fun q q0 => ⟨_, rfl, mx_trusted (cpl_0 j.1) (rcp_0 j.2.1) (fun z => absurd q z) (fun _ _ => ⟨rfl, J_0 j⟩) (fun _ z => absurd q0 z) (fun _ z => absurd q0 z) (fun _ z => absurd q0 z)⟩)
    (fun q q0 q1 => ⟨_, rfl, mx_trusted (cpl_0 j.1) (rcp_0 j.2.1) (fun z => absurd q z) (fun _ z => absurd z q0) (fun _ _ _ => ⟨rfl, J_0 j⟩) (fun _ _ z => absurd z q1) (fun _ _ z => absurd z q1)⟩)
    (fun q q0 q1 q2 h2 k => ⟨_, rfl, mx_trusted (cpl_F j k) (rcp_F j k) (fun z => absurd q z) (fun _ z => absurd z q0) (fun _ _ z => absurd q1 z) (fun _ _ _ _ => ⟨rfl, J_f j k⟩) (fun _ _ _ z => absurd z q2)⟩)
    (fun q q0 q1 q2 h2 k => ⟨_, rfl, mx_trusted (cpl_0 (cpl_F j k)) (rcp_0 (rcp_F j k)) (fun z => absurd q z) (fun _ z => absurd z q0) (fun _ _ z => absurd q1 z) (fun _ _ _ z => absurd q2 z) (fun _ _ _ _ m => ⟨rfl, J_fms j k (msc_mw _ _)⟩)⟩)
theorem P_who {r i n : Int} (j : J_ h) : Pr_ g d mX8_who mX9_who [sv_i r, sv_i i, sv_i n] h := by
  have hl3 : ∀ r, 0 ≤ r → r < 8 → 0 ≤ h 3 r ∧ h 3 r ≤ 40 := fun r a b => (j.2.1 r a b).1
  refine x_who j.1.1 hl3 (fun p => ⟨_, rfl, mx_who j.1 j.2.1 (fun _ => ⟨rfl, j⟩) (fun z => absurd z p) (fun z => absurd z p) (fun z => absurd z p) (fun z => absurd z p) (fun z => absurd z p)⟩)
    (fun p q => ⟨_, rfl, mx_who j.1 j.2.1 (fun z => absurd p z) (fun _ _ => ⟨rfl, j⟩) (fun _ z => absurd z q) (fun _ z => absurd z q) (fun _ z => absurd z q) (fun _ z => absurd z q)⟩)
    (fun p q q0 => ⟨_, rfl, mx_who (cpl_0 j.1) (rcp_0 j.2.1) (fun z => absurd p z) (fun _ z => absurd q z) (fun _ _ _ => ⟨rfl, J_0 j⟩) (fun _ _ z => absurd q0 z) (fun _ _ z => absurd q0 z) (fun _ _ z => absurd q0 z)⟩)
    (fun p q q0 q1 => ⟨_, rfl, mx_who (cpl_0 j.1) (rcp_0 j.2.1) (fun z => absurd p z) (fun _ z => absurd q z) (fun _ _ z => absurd z q0) (fun _ _ _ _ => ⟨rfl, J_0 j⟩) (fun _ _ _ z => absurd z q1) (fun _ _ _ z => absurd z q1)⟩)
    (fun p q q0 q1 q2 h2 k => ⟨_, rfl, mx_who (cpl_F j k) (rcp_F j k) (fun z => absurd p z) (fun _ z => absurd q z) (fun _ _ z => absurd z q0) (fun _ _ _ z => absurd q1 z) (fun _ _ _ _ _ => ⟨rfl, J_f j k⟩) (fun _ _ _ _ z => absurd z q2)⟩)
    (fun p q q0 q1 q2 h2 k => ⟨_, rfl, mx_who (cpl_0 (cpl_F j k)) (rcp_0 (rcp_F j k)) (fun z => absurd p z) (fun _ z => absurd q z) (fun _ _ z => absurd z q0) (fun _ _ _ z => absurd q1 z) (fun _ _ _ _ z => absurd q2 z) (fun _ _ _ _ _ m => ⟨rfl, J_fms j k (msc_mw _ _)⟩)⟩)
theorem P_odds {s r i n k c w : Int} (j : J_ h) : Pr_ g d mX8_odds mX9_odds [sv_i s, sv_i r, sv_i i, sv_i n, sv_i k, sv_i c, sv_i w] h := by
  have hl3 : ∀ r, 0 ≤ r → r < 8 → 0 ≤ h 3 r ∧ h 3 r ≤ 40 := fun r a b => (j.2.1 r a b).1
  refine x_odds j.1.1 hl3 (fun q => ⟨_, rfl, mx_odds j.1 j.2.1 (fun _ => ⟨rfl, j⟩) (fun z => absurd z q) (fun z => absurd z q) (fun z => absurd z q) (fun z => absurd z q)⟩)
    (fun q q0 => ⟨_, rfl, mx_odds (cpl_0 j.1) (rcp_0 j.2.1) (fun z => absurd q z) (fun _ _ => ⟨rfl, J_0 j⟩) (fun _ z => absurd q0 z) (fun _ z => absurd q0 z) (fun _ z => absurd q0 z)⟩)
    (fun q q0 q1 => ⟨_, rfl, mx_odds (cpl_0 j.1) (rcp_0 j.2.1) (fun z => absurd q z) (fun _ z => absurd z q0) (fun _ _ _ => ⟨rfl, J_0 j⟩) (fun _ _ z => absurd z q1) (fun _ _ z => absurd z q1)⟩)
    (fun q q0 q1 q2 h2 k => ⟨_, rfl, mx_odds (cpl_F j k) (rcp_F j k) (fun z => absurd q z) (fun _ z => absurd z q0) (fun _ _ z => absurd q1 z) (fun _ _ _ _ => ⟨rfl, J_f j k⟩) (fun _ _ _ z => absurd z q2)⟩)
    (fun q q0 q1 q2 h2 k => ⟨_, rfl, mx_odds (cpl_0 (cpl_F j k)) (rcp_0 (rcp_F j k)) (fun z => absurd q z) (fun _ z => absurd z q0) (fun _ _ z => absurd q1 z) (fun _ _ _ z => absurd q2 z) (fun _ _ _ _ h3 m => ⟨rfl, J_fms j k m⟩)⟩)
end PJ2_
