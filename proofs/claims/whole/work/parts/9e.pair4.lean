theorem hs_if (h : SH_) (k i v b : Int) : hs_ h k i v k b = if b = i then v else h k b := by
  unfold hs_
  by_cases c : b = i
  · rw [if_pos ⟨rfl, c⟩, if_pos c]
  · rw [if_neg (fun z => c z.2), if_neg c]
theorem ka_k {h : SH_} {s a : Int} (ha : a < 40 ∨ 45 < a) : ka_ h s a = h a := by
  unfold ka_
  rw [hs_k (by omega), hs_k (by omega), hs_k (by omega), hs_k (by omega), hs_k (by omega), hs_k (by omega), hs_k (by omega)]
theorem ka_41 (h : SH_) (s b : Int) : ka_ h s 41 b = if b = h 40 5 then s else h 41 b := by
  unfold ka_
  rw [hs_k (by decide), hs_k (by decide), hs_k (by decide), hs_k (by decide), hs_k (by decide), hs_k (by decide), hs_if]
theorem ka_42 (h : SH_) (s b : Int) : ka_ h s 42 b = if b = h 40 5 then h 11 s else h 42 b := by
  unfold ka_
  rw [hs_k (by decide), hs_k (by decide), hs_k (by decide), hs_k (by decide), hs_k (by decide), hs_if, hs_k (by decide)]
theorem ka_43 (h : SH_) (s b : Int) : ka_ h s 43 b = if b = h 40 5 then h 13 s else h 43 b := by
  unfold ka_
  rw [hs_k (by decide), hs_k (by decide), hs_k (by decide), hs_k (by decide), hs_if, hs_k (by decide), hs_k (by decide)]
theorem ka_44 (h : SH_) (s b : Int) : ka_ h s 44 b = if b = h 40 5 then h 14 s else h 44 b := by
  unfold ka_
  rw [hs_k (by decide), hs_k (by decide), hs_k (by decide), hs_if, hs_k (by decide), hs_k (by decide), hs_k (by decide)]
theorem ka_45 (h : SH_) (s b : Int) : ka_ h s 45 b = if b = h 40 5 then h 7 1 else h 45 b := by
  unfold ka_
  rw [hs_k (by decide), hs_k (by decide), hs_if, hs_k (by decide), hs_k (by decide), hs_k (by decide), hs_k (by decide)]
theorem ka_405 (h : SH_) (s : Int) : ka_ h s 40 5 = if h 40 5 + 1 < 24 then h 40 5 + 1 else 0 := by
  unfold ka_
  rw [hs_n (by omega), hs_e]
theorem ka_406 (h : SH_) (s : Int) : ka_ h s 40 6 = if 24 < h 40 6 + 1 then 24 else h 40 6 + 1 := by
  unfold ka_
  rw [hs_e]
/-- an act: behind what is kept ahead of it (h1), and behind the reference's notes -/
theorem J_act2 {h h1 hF : SH_} {s T D E P : Int} (j : J_ h) (hs : 0 ≤ s ∧ s < h 7 3) (rT : 0 ≤ T ∧ T ≤ 20) (rD : 0 ≤ D ∧ D < 64) (rE : 0 ≤ E ∧ E < 64)
    (k1 : ∀ a, a ≠ 7 → a ≠ 11 → a ≠ 13 → a ≠ 14 → (a < 46 ∨ 65 < a) → h1 a = ka_ h s a)
    (k7 : ∀ b, h1 7 b = if b = 1 then P else h 7 b) (k11 : ∀ b, h1 11 b = if b = s then T else h 11 b) (k13 : ∀ b, h1 13 b = if b = s then D else h 13 b) (k14 : ∀ b, h1 14 b = if b = s then E else h 14 b)
    (kF : ∀ a, a ≠ 68 → a ≠ 74 → a ≠ 80 → hF a = mnt_ h1 a) (k68 : ∀ b, b ≤ 20 → hF 68 b = mnt_ h1 68 b)
    (k74 : ∀ b, hF 74 b = if b = 1 then P else if b = 22 + 4 * s then T else if b = 22 + 4 * s + 2 then D else if b = 22 + 4 * s + 3 then E else h 74 b) : J_ hF := by
  obtain ⟨a1, a2, a3, a4⟩ := j.2.2.2.2.2.2
  have e68 : h1 68 = h 68 := by rw [k1 68 (by decide) (by decide) (by decide) (by decide) (by omega), ka_k (by omega)]
  have e74 : h1 74 = h 74 := by rw [k1 74 (by decide) (by decide) (by decide) (by decide) (by omega), ka_k (by omega)]
  have e76 : h1 76 = h 76 := by rw [k1 76 (by decide) (by decide) (by decide) (by decide) (by omega), ka_k (by omega)]
  have ha : 0 ≤ h1 68 16 ∧ h1 68 16 ≤ 24 := by rw [e68, a2]; exact a1
  have eA : h1 68 16 = h 40 6 := by rw [e68, a2]
  have mk : ∀ a, a ≠ 68 → a ≠ 74 → a ≠ 76 → a ≠ 80 → hF a = h1 a := fun a b1 b2 b3 b4 => by rw [kF a b1 b2 b4, mnt_k b1 b3]
  have m40 : hF 40 6 = if 24 < h 40 6 + 1 then 24 else h 40 6 + 1 := by rw [mk 40 (by decide) (by decide) (by decide) (by decide), k1 40 (by decide) (by decide) (by decide) (by decide) (by omega), ka_406]
  refine J_act (P := P) (T := T) (D := D) (E := E) j hs rT rD rE (fun a b1 b2 b3 b4 b5 b6 b7 b8 b9 => ?_) (fun b b0 b1 => ?_) (fun b => ?_) (fun b => ?_) (fun b => ?_) (fun b => ?_) (fun b => ?_) (fun b => ?_) (fun b => ?_) (fun b => ?_) (fun b => ?_) ?_ m40 ?_ k74 (fun i b i0 i1 b0 b1 => ?_)
  · rw [mk a b6 b7 b8 b9, k1 a b1 b2 b3 b4 (by omega), ka_k (by omega)]
  · rw [k68 b b0, mnt_68 b1, e68]
  · rw [mk 7 (by decide) (by decide) (by decide) (by decide)]; exact k7 b
  · rw [mk 11 (by decide) (by decide) (by decide) (by decide)]; exact k11 b
  · rw [mk 13 (by decide) (by decide) (by decide) (by decide)]; exact k13 b
  · rw [mk 14 (by decide) (by decide) (by decide) (by decide)]; exact k14 b
  · rw [mk 41 (by decide) (by decide) (by decide) (by decide), k1 41 (by decide) (by decide) (by decide) (by decide) (by omega)]; exact ka_41 h s b
  · rw [mk 42 (by decide) (by decide) (by decide) (by decide), k1 42 (by decide) (by decide) (by decide) (by decide) (by omega)]; exact ka_42 h s b
  · rw [mk 43 (by decide) (by decide) (by decide) (by decide), k1 43 (by decide) (by decide) (by decide) (by decide) (by omega)]; exact ka_43 h s b
  · rw [mk 44 (by decide) (by decide) (by decide) (by decide), k1 44 (by decide) (by decide) (by decide) (by decide) (by omega)]; exact ka_44 h s b
  · rw [mk 45 (by decide) (by decide) (by decide) (by decide), k1 45 (by decide) (by decide) (by decide) (by decide) (by omega)]; exact ka_45 h s b
  · rw [mk 40 (by decide) (by decide) (by decide) (by decide), k1 40 (by decide) (by decide) (by decide) (by decide) (by omega)]; exact ka_405 h s
  · rw [m40, k68 16 (by decide), mnt_16 ha, eA]
  · rw [m40] at i1 ⊢
    rw [kF 76 (by decide) (by decide) (by decide), mnt_76 ha i0 (by rw [eA]; exact i1) b0 b1, eA, e74, e76]
section PJ4_
variable {g : SG_} {d : Nat} {h : SH_}
theorem P_tell {s l : Int} (j : J_ h) : Pr_ g d mX8_tell mX9_tell [sv_i s, sv_i l] h := by
  obtain ⟨a1, a2, a3, a4⟩ := j.2.2.2.2.2.2
  have o1 := j.1.1.1
  refine x_tell j.1.1 a3 a1 (fun q => ⟨_, rfl, mx_tell j.1 (by rw [a2]; exact a1) (fun _ => ⟨rfl, j⟩) (fun z => absurd z q) (fun z => absurd z q)⟩) (fun q q0 => ⟨_, rfl, mx_tell j.1 (by rw [a2]; exact a1) (fun z => absurd q z) (fun _ _ => ⟨rfl, j⟩) (fun _ z => absurd z q0)⟩) (fun q q0 => ?_)
  have hm := en_mo j.1.1 q.1
  have hlo := j.1.1.2.2.2.1 l q.2.1 q.2.2
  have rS := j.1.1.2.2.2.2 s q.1.1 q.1.2
  have rM := (he_mo (b := nl_ (tf_ h) (en_ h s) l) hlo hm).1
  have hl6 : 0 ≤ l ∧ l < 6 := ⟨q.2.1, by omega⟩
  generalize eb : nl_ (tf_ h) (en_ h s) l = b
  generalize em : hl_ (tf_ h) (en_ h s) l = m
  have rM2 : 0 ≤ m.1 ∧ m.1 ≤ 20 := by rw [← em]; exact rM
  have xk : ∀ a, (a < 46 ∨ 65 < a) → ms_ (ka_ h s) 52 m a = ka_ h s a := fun a ha => ms_n (by omega) (by omega)
  have nk : ∀ a, a ≠ 7 → a ≠ 11 → a ≠ 13 → a ≠ 14 → (a < 46 ∨ 65 < a) → nt_ (ms_ (ka_ h s) 52 m) s l b m.1 a = ka_ h s a := fun a b1 b2 b3 b4 b5 => by
    unfold nt_
    rw [hs_k b2, hs_k b1, hs_k b4, hs_k b3, xk a b5]
  have e68 : nt_ (ms_ (ka_ h s) 52 m) s l b m.1 68 = h 68 := by rw [nk 68 (by decide) (by decide) (by decide) (by decide) (by omega), ka_k (by omega)]
  have e74 : nt_ (ms_ (ka_ h s) 52 m) s l b m.1 74 = h 74 := by rw [nk 74 (by decide) (by decide) (by decide) (by decide) (by omega), ka_k (by omega)]
  refine ⟨_, rfl, mx_tell (cpl_k e74 j.1) (by rw [e68, a2]; exact a1) (fun z => absurd q z) (fun _ z => absurd q0 z) (fun _ _ => ?_)⟩
  rw [eb, em]
  refine ⟨rfl, ?_⟩
  have x7 : ∀ c, ms_ (ka_ h s) 52 m 7 c = h 7 c := fun c => by rw [xk 7 (by omega), ka_k (by omega)]
  have x11 : ms_ (ka_ h s) 52 m 11 = h 11 := by rw [xk 11 (by omega), ka_k (by omega)]
  have x13 : ms_ (ka_ h s) 52 m 13 = h 13 := by rw [xk 13 (by omega), ka_k (by omega)]
  have x14 : ms_ (ka_ h s) 52 m 14 = h 14 := by rw [xk 14 (by omega), ka_k (by omega)]
  have n7 : ∀ c, nt_ (ms_ (ka_ h s) 52 m) s l b m.1 7 c = if c = 1 then sw_32 (h 7 1 + (if b = 0 then -(h 7 0) else h 7 0)) else h 7 c := fun c => by
    unfold nt_
    rw [hs_k (by decide), hs_if, hs_k (by decide), hs_k (by decide), x7, x7, x7]
  have n11 : ∀ c, nt_ (ms_ (ka_ h s) 52 m) s l b m.1 11 c = if c = s then m.1 else h 11 c := fun c => by
    unfold nt_
    rw [hs_if, hs_k (by decide), hs_k (by decide), hs_k (by decide), x11]
  have n13 : ∀ c, nt_ (ms_ (ka_ h s) 52 m) s l b m.1 13 c = if c = s then sb_ior (h 13 s) (sb_ishl 1 l) else h 13 c := fun c => by
    unfold nt_
    rw [hs_k (by decide), hs_k (by decide), hs_k (by decide), hs_if, x13]
  have n14 : ∀ c, nt_ (ms_ (ka_ h s) 52 m) s l b m.1 14 c = if c = s then (if b = 0 then h 14 s else sb_ior (h 14 s) (sb_ishl 1 l)) else h 14 c := fun c => by
    unfold nt_
    rw [hs_k (by decide), hs_k (by decide), hs_if, hs_k (by decide), x14]
  generalize nt_ (ms_ (ka_ h s) 52 m) s l b m.1 = h1 at nk e68 e74 n7 n11 n13 n14 ⊢
  refine J_act2 (h1 := h1) (T := m.1) (D := sb_ior (h 13 s) (sb_ishl 1 l)) (E := if b = 0 then h 14 s else sb_ior (h 14 s) (sb_ishl 1 l)) (P := sw_32 (h 7 1 + (if b = 0 then -(h 7 0) else h 7 0))) j q.1 rM2 (or_r rS.2.2.1 hl6) ?_ nk n7 n11 n13 n14 (fun a b1 b2 b3 => ?_) (fun c c0 => ?_) (fun c => ?_)
  · split
    · exact rS.2.2.2
    · exact or_r rS.2.2.2 hl6
  · unfold mtl_
    rw [hs_k b2, hs_k b2, hs_k b2, hs_k b2, mw_n b1 b3]
  · unfold mtl_
    rw [hs_k (by decide), hs_k (by decide), hs_k (by decide), hs_k (by decide), mw_f (by omega)]
  · unfold mtl_
    rw [hs_if, hs_if, hs_if, hs_if, mw_n (by decide) (by decide), mnt_k (by decide) (by decide), e74]
    by_cases d1 : c = 1
    · rw [if_pos d1, if_pos d1]
    · rw [if_neg d1, if_neg d1]
      by_cases d2 : c = 22 + 4 * s + 3
      · rw [if_pos d2, if_neg (show ¬ c = 22 + 4 * s by omega), if_neg (show ¬ c = 22 + 4 * s + 2 by omega), if_pos d2]
      · rw [if_neg d2]
        by_cases d3 : c = 22 + 4 * s + 2
        · rw [if_pos d3, if_neg (show ¬ c = 22 + 4 * s by omega), if_pos d3]
        · rw [if_neg d3]
          by_cases d4 : c = 22 + 4 * s
          · rw [if_pos d4, if_pos d4]
          · rw [if_neg d4, if_neg d4, if_neg d3, if_neg d2]
theorem P_supper {s : Int} (j : J_ h) : Pr_ g d mX8_supper mX9_supper [sv_i s] h := by
  obtain ⟨a1, a2, a3, a4⟩ := j.2.2.2.2.2.2
  have c := j.1
  have e3 := c.2.1.2.2.2
  refine x_supper j.1.1 a3 a1 (fun q => ⟨_, rfl, mx_supper (cpl_mt c) (by rw [a2]; exact a1) (fun _ => ⟨rfl, j⟩) (fun z => absurd z (by rw [e3]; exact q))⟩) (fun q => ?_)
  have hm := en_mo j.1.1 q
  have rS := j.1.1.2.2.2.2 s q.1 q.2
  have eT : (di_ (en_ h s)).1 = if h 11 s < 18 then h 11 s + 2 else 20 := by
    show (if 20 < h 11 s + 2 then (20 : Int) else h 11 s + 2) = if h 11 s < 18 then h 11 s + 2 else 20
    by_cases q1 : h 11 s < 18
    · rw [if_neg (by omega), if_pos q1]
    · by_cases q2 : 20 < h 11 s + 2
      · rw [if_pos q2, if_neg q1]
      · rw [if_neg q2, if_neg q1]; omega
  have rT : 0 ≤ (di_ (en_ h s)).1 ∧ (di_ (en_ h s)).1 ≤ 20 := (di_mo hm).1
  generalize em : di_ (en_ h s) = m at eT rT
  have xk : ∀ a, (a < 46 ∨ 65 < a) → ms_ (ka_ h s) 52 m a = ka_ h s a := fun a ha => ms_n (by omega) (by omega)
  have nk : ∀ a, a ≠ 7 → a ≠ 11 → a ≠ 13 → a ≠ 14 → (a < 46 ∨ 65 < a) → hs_ (hs_ (ms_ (ka_ h s) 52 m) 7 1 (sw_32 (h 7 1 - 1))) 11 s m.1 a = ka_ h s a := fun a b1 b2 b3 b4 b5 => by rw [hs_k b2, hs_k b1, xk a b5]
  have e68 : hs_ (hs_ (ms_ (ka_ h s) 52 m) 7 1 (sw_32 (h 7 1 - 1))) 11 s m.1 68 = h 68 := by rw [nk 68 (by decide) (by decide) (by decide) (by decide) (by omega), ka_k (by omega)]
  have e74 : hs_ (hs_ (ms_ (ka_ h s) 52 m) 7 1 (sw_32 (h 7 1 - 1))) 11 s m.1 74 = h 74 := by rw [nk 74 (by decide) (by decide) (by decide) (by decide) (by omega), ka_k (by omega)]
  have n7 : ∀ c, hs_ (hs_ (ms_ (ka_ h s) 52 m) 7 1 (sw_32 (h 7 1 - 1))) 11 s m.1 7 c = if c = 1 then sw_32 (h 7 1 - 1) else h 7 c := fun c => by rw [hs_k (by decide), hs_if, xk 7 (by omega), ka_k (by omega)]
  have n11 : ∀ c, hs_ (hs_ (ms_ (ka_ h s) 52 m) 7 1 (sw_32 (h 7 1 - 1))) 11 s m.1 11 c = if c = s then m.1 else h 11 c := fun c => by rw [hs_if, hs_k (by decide), xk 11 (by omega), ka_k (by omega)]
  have n13 : ∀ c, hs_ (hs_ (ms_ (ka_ h s) 52 m) 7 1 (sw_32 (h 7 1 - 1))) 11 s m.1 13 c = if c = s then h 13 s else h 13 c := fun c => by
    rw [hs_k (by decide), hs_k (by decide), xk 13 (by omega), ka_k (by omega)]
    by_cases z : c = s
    · rw [if_pos z, z]
    · rw [if_neg z]
  have n14 : ∀ c, hs_ (hs_ (ms_ (ka_ h s) 52 m) 7 1 (sw_32 (h 7 1 - 1))) 11 s m.1 14 c = if c = s then h 14 s else h 14 c := fun c => by
    rw [hs_k (by decide), hs_k (by decide), xk 14 (by omega), ka_k (by omega)]
    by_cases z : c = s
    · rw [if_pos z, z]
    · rw [if_neg z]
  generalize hs_ (hs_ (ms_ (ka_ h s) 52 m) 7 1 (sw_32 (h 7 1 - 1))) 11 s m.1 = h1 at nk e68 e74 n7 n11 n13 n14 ⊢
  have c2 : cpl_ h h1 := cpl_k e74 c
  have f1 : h1 74 1 = h 7 1 := c2.2.1.2.1
  have f3 : h1 74 3 = h 7 3 := c2.2.1.2.2.2
  have ft : h1 74 (22 + 4 * s) = h 11 s := (c2.2.2.2 s q.1 q.2).1
  refine ⟨_, rfl, mx_supper (cpl_mt c2) (by rw [e68, a2]; exact a1) (fun z => absurd (by rw [f3]; exact q) z) (fun _ => ⟨?_, ?_⟩)⟩
  · rw [ft, eT]
  · rw [ft, f1, ← eT]
    refine J_act2 (h1 := h1) (T := m.1) (D := h 13 s) (E := h 14 s) (P := sw_32 (h 7 1 - 1)) j q rT rS.2.2.1 rS.2.2.2 nk n7 n11 n13 n14 (fun a b1 b2 b3 => ?_) (fun c c0 => ?_) (fun c => ?_)
    · rw [hs_k b2, hs_k b2]
    · rw [hs_k (by decide), hs_k (by decide)]
    · obtain ⟨z1, z2, z3, z4⟩ := j.1.2.2.2 s q.1 q.2
      rw [hs_if, hs_if, mnt_k (by decide) (by decide), e74]
      by_cases d1 : c = 1
      · rw [if_pos d1, if_pos d1]
      · rw [if_neg d1, if_neg d1]
        by_cases d4 : c = 22 + 4 * s
        · rw [if_pos d4, if_pos d4]
        · rw [if_neg d4, if_neg d4]
          by_cases d3 : c = 22 + 4 * s + 2
          · rw [if_pos d3, d3, z3]
          · rw [if_neg d3]
            by_cases d2 : c = 22 + 4 * s + 3
            · rw [if_pos d2, d2, z4]
            · rw [if_neg d2]
theorem P_forget {s l : Int} (j : J_ h) : Pr_ g d mX8_forget mX9_forget [sv_i s, sv_i l] h := by
  obtain ⟨a1, a2, a3, a4⟩ := j.2.2.2.2.2.2
  have c := j.1
  have o1 := j.1.1.1
  have e2 := c.2.1.2.2.1
  have e3 := c.2.1.2.2.2
  refine x_forget j.1.1 a3 a1 (fun q => ⟨_, rfl, mx_forget (cpl_mt c) (by rw [a2]; exact a1) (fun _ => ⟨rfl, j⟩) (fun z => absurd z (by rw [e2, e3]; exact q)) (fun z => absurd z (by rw [e2, e3]; exact q))⟩) (fun q q0 => ⟨_, rfl, mx_forget (cpl_mt c) (by rw [a2]; exact a1) (fun z => absurd (by rw [e2, e3]; exact q) z) (fun _ _ => ⟨rfl, j⟩) (fun _ z => absurd (by rw [(c.2.2.2 s q.1.1 q.1.2).2.2.1]; exact q0) z)⟩) (fun q q0 => ?_)
  have rS := j.1.1.2.2.2.2 s q.1.1 q.1.2
  have hl6 : 0 ≤ l ∧ l < 6 := ⟨q.2.1, by omega⟩
  have nk : ∀ a, a ≠ 7 → a ≠ 11 → a ≠ 13 → a ≠ 14 → (a < 46 ∨ 65 < a) → hs_ (hs_ (ka_ h s) 13 s (dl_ (h 13 s) l)) 14 s (dl_ (h 14 s) l) a = ka_ h s a := fun a b1 b2 b3 b4 b5 => by rw [hs_k b4, hs_k b3]
  have e68 : hs_ (hs_ (ka_ h s) 13 s (dl_ (h 13 s) l)) 14 s (dl_ (h 14 s) l) 68 = h 68 := by rw [nk 68 (by decide) (by decide) (by decide) (by decide) (by omega), ka_k (by omega)]
  have e74 : hs_ (hs_ (ka_ h s) 13 s (dl_ (h 13 s) l)) 14 s (dl_ (h 14 s) l) 74 = h 74 := by rw [nk 74 (by decide) (by decide) (by decide) (by decide) (by omega), ka_k (by omega)]
  have n7 : ∀ c, hs_ (hs_ (ka_ h s) 13 s (dl_ (h 13 s) l)) 14 s (dl_ (h 14 s) l) 7 c = if c = 1 then h 7 1 else h 7 c := fun c => by
    rw [hs_k (by decide), hs_k (by decide), ka_k (by omega)]
    by_cases z : c = 1
    · rw [if_pos z, z]
    · rw [if_neg z]
  have n11 : ∀ c, hs_ (hs_ (ka_ h s) 13 s (dl_ (h 13 s) l)) 14 s (dl_ (h 14 s) l) 11 c = if c = s then h 11 s else h 11 c := fun c => by
    rw [hs_k (by decide), hs_k (by decide), ka_k (by omega)]
    by_cases z : c = s
    · rw [if_pos z, z]
    · rw [if_neg z]
  have n13 : ∀ c, hs_ (hs_ (ka_ h s) 13 s (dl_ (h 13 s) l)) 14 s (dl_ (h 14 s) l) 13 c = if c = s then dl_ (h 13 s) l else h 13 c := fun c => by rw [hs_k (by decide), hs_if, ka_k (by omega)]
  have n14 : ∀ c, hs_ (hs_ (ka_ h s) 13 s (dl_ (h 13 s) l)) 14 s (dl_ (h 14 s) l) 14 c = if c = s then dl_ (h 14 s) l else h 14 c := fun c => by rw [hs_if, hs_k (by decide), ka_k (by omega)]
  generalize hs_ (hs_ (ka_ h s) 13 s (dl_ (h 13 s) l)) 14 s (dl_ (h 14 s) l) = h1 at nk e68 e74 n7 n11 n13 n14 ⊢
  have c2 : cpl_ h h1 := cpl_k e74 c
  have f2 : h1 74 2 = h 7 2 := c2.2.1.2.2.1
  have f3 : h1 74 3 = h 7 3 := c2.2.1.2.2.2
  obtain ⟨g1, g2, g3, g4⟩ := c2.2.2.2 s q.1.1 q.1.2
  refine ⟨_, rfl, mx_forget (cpl_mt c2) (by rw [e68, a2]; exact a1) (fun z => absurd (by rw [f2, f3]; exact q) z) (fun _ z => absurd z (by rw [g3]; exact q0)) (fun _ _ => ⟨?_, ?_⟩)⟩
  · rw [g3]
  · rw [g3, g4]
    refine J_act2 (h1 := h1) (T := h 11 s) (D := dl_ (h 13 s) l) (E := dl_ (h 14 s) l) (P := h 7 1) j q.1 rS.1 (dl_r rS.2.2.1 hl6) (dl_r rS.2.2.2 hl6) nk n7 n11 n13 n14 (fun a b1 b2 b3 => ?_) (fun c c0 => ?_) (fun c => ?_)
    · rw [hs_k b2, hs_k b2]
    · rw [hs_k (by decide), hs_k (by decide)]
    · rw [hs_if, hs_if, mnt_k (by decide) (by decide)]
      by_cases d2 : c = 22 + 4 * s + 3
      · rw [if_pos d2, if_neg (by omega), if_neg (by omega), if_neg (by omega), if_pos d2]
      · rw [if_neg d2]
        by_cases d3 : c = 22 + 4 * s + 2
        · rw [if_pos d3, if_neg (by omega), if_neg (by omega), if_pos d3]
        · rw [if_neg d3]
          by_cases d1 : c = 1
          · rw [if_pos d1, d1]; exact c2.2.1.2.1
          · rw [if_neg d1]
            by_cases d4 : c = 22 + 4 * s
            · rw [if_pos d4, d4]; exact g1
            · rw [if_neg d4, if_neg d3, if_neg d2, e74]
theorem P_undo (j : J_ h) : Pr_ g d mX8_undo mX9_undo [] h := by
  obtain ⟨a1, a2, a3, a4⟩ := id j.2.2.2.2.2.2
  obtain ⟨⟨o1, o2, o3, o4, o5⟩, ⟨c0, c1, c2, c3⟩, cl, cs⟩ := id j.1
  have lk : ¬ h 40 6 = 0 → lnk_ h (ul_n h) (h 7 3) (snp_ h (h 40 6) (h 40 6 - 1)) (snp_ h (h 40 6) (h 40 6)) := fun z => by
    have y := a4 (h 40 6 - 1) (by omega) (by omega)
    have e : asl_ (h 40 5) (h 40 6) (h 40 6 - 1) = ul_n h := by
      unfold asl_ ul_n
      split <;> split <;> omega
    rw [e, show h 40 6 - 1 + 1 = h 40 6 by omega] at y
    exact y
  refine x_undo a3 a1 (fun z => ⟨(lk z).1.1, by have := (lk z).1.2; omega⟩) (fun q => ⟨_, rfl, mx_undo (by rw [a2]; exact a1) (fun _ => ⟨rfl, j⟩) (fun z => absurd (by rw [a2]; exact q) z)⟩) (fun q => ?_)
  obtain ⟨l1, l2, l3, l4, l5, l6, l7, l8, l9⟩ := lk q
  generalize eS : ul_n h = sl at l1 l2 l3 l4 l5 l6 l7 l8 l9
  generalize eR : h 41 sl = s at l1 l5 l6 l7 l9
  have uk : ∀ a, a ≠ 7 → a ≠ 11 → a ≠ 13 → a ≠ 14 → a ≠ 40 → ul_ h a = h a := fun a b1 b2 b3 b4 b5 => by
    unfold ul_
    rw [hs_k b1, hs_k b4, hs_k b3, hs_k b2, hs_k b5, hs_k b5]
  have u7 : ∀ c, ul_ h 7 c = if c = 1 then h 45 sl else h 7 c := fun c => by
    unfold ul_
    rw [hs_if, hs_k (by decide), hs_k (by decide), hs_k (by decide), hs_k (by decide), hs_k (by decide), eS]
  have u11 : ∀ c, ul_ h 11 c = if c = s then h 42 sl else h 11 c := fun c => by
    unfold ul_
    rw [hs_k (by decide), hs_k (by decide), hs_k (by decide), hs_if, hs_k (by decide), hs_k (by decide), eS, eR]
  have u13 : ∀ c, ul_ h 13 c = if c = s then h 43 sl else h 13 c := fun c => by
    unfold ul_
    rw [hs_k (by decide), hs_k (by decide), hs_if, hs_k (by decide), hs_k (by decide), hs_k (by decide), eS, eR]
  have u14 : ∀ c, ul_ h 14 c = if c = s then h 44 sl else h 14 c := fun c => by
    unfold ul_
    rw [hs_k (by decide), hs_if, hs_k (by decide), hs_k (by decide), hs_k (by decide), hs_k (by decide), eS, eR]
  have u5 : ul_ h 40 5 = sl := by
    unfold ul_
    rw [hs_k (by decide), hs_k (by decide), hs_k (by decide), hs_k (by decide), hs_n (by omega), hs_e, eS]
  have u6 : ul_ h 40 6 = h 40 6 - 1 := by
    unfold ul_
    rw [hs_k (by decide), hs_k (by decide), hs_k (by decide), hs_k (by decide), hs_e]
  generalize ul_ h = h1 at uk u7 u11 u13 u14 u5 u6 ⊢
  have e68 : h1 68 = h 68 := uk 68 (by decide) (by decide) (by decide) (by decide) (by decide)
  have e76 : h1 76 = h 76 := uk 76 (by decide) (by decide) (by decide) (by decide) (by decide)
  have eA : h1 68 16 = h 40 6 := by rw [e68, a2]
  have hsl : 0 ≤ sl ∧ sl < 24 := by rw [← eS]; unfold ul_n; split <;> omega
  refine ⟨_, rfl, mx_undo (by rw [eA]; exact a1) (fun z => absurd (by rw [← eA]; exact z) q) (fun _ => ⟨by rw [eA, u6], ?_⟩)⟩
  rw [eA]
  have k74 : ∀ b, 0 ≤ b → b < 38 → hc_ (hs_ h1 68 16 (h 40 6 - 1)) 76 (38 * (h 40 6 - 1)) 74 0 38 74 b = h 76 (38 * (h 40 6 - 1) + b) := fun b b0 b1 => by rw [hc_in (by omega), hs_k (by decide), e76, show 38 * (h 40 6 - 1) + (b - 0) = 38 * (h 40 6 - 1) + b by omega]
  have kk : ∀ a, a ≠ 68 → a ≠ 74 → hc_ (hs_ h1 68 16 (h 40 6 - 1)) 76 (38 * (h 40 6 - 1)) 74 0 38 a = h1 a := fun a b1 b2 => by rw [hc_k b2, hs_k b1]
  have k16 : hc_ (hs_ h1 68 16 (h 40 6 - 1)) 76 (38 * (h 40 6 - 1)) 74 0 38 68 16 = h 40 6 - 1 := by rw [hc_k (by decide), hs_e]
  have k68 : ∀ b, b ≠ 16 → hc_ (hs_ h1 68 16 (h 40 6 - 1)) 76 (38 * (h 40 6 - 1)) 74 0 38 68 b = h 68 b := fun b hb => by rw [hc_k (by decide), hs_n (by omega), e68]
  generalize hc_ (hs_ h1 68 16 (h 40 6 - 1)) 76 (38 * (h 40 6 - 1)) 74 0 38 = hF at k74 kk k16 k68 ⊢
  have s1 : ∀ b, snp_ h (h 40 6) (h 40 6 - 1) b = h 76 (38 * (h 40 6 - 1) + b) := fun b => by unfold snp_; rw [if_neg (by omega)]
  have s2 : ∀ b, snp_ h (h 40 6) (h 40 6) b = h 74 b := fun b => by unfold snp_; rw [if_pos rfl]
  have f7 : ∀ c, hF 7 c = if c = 1 then h 45 sl else h 7 c := fun c => by rw [kk 7 (by decide) (by decide)]; exact u7 c
  have f70 : hF 7 0 = h 7 0 := by rw [f7, if_neg (by decide)]
  have f72 : hF 7 2 = h 7 2 := by rw [f7, if_neg (by decide)]
  have f73 : hF 7 3 = h 7 3 := by rw [f7, if_neg (by decide)]
  have f8 : hF 8 = h 8 := by rw [kk 8 (by decide) (by decide), uk 8 (by decide) (by decide) (by decide) (by decide) (by decide)]
  have f9 : hF 9 = h 9 := by rw [kk 9 (by decide) (by decide), uk 9 (by decide) (by decide) (by decide) (by decide) (by decide)]
  have f10 : hF 10 = h 10 := by rw [kk 10 (by decide) (by decide), uk 10 (by decide) (by decide) (by decide) (by decide) (by decide)]
  have f12 : hF 12 = h 12 := by rw [kk 12 (by decide) (by decide), uk 12 (by decide) (by decide) (by decide) (by decide) (by decide)]
  have f11 : ∀ c, hF 11 c = if c = s then h 42 sl else h 11 c := fun c => by rw [kk 11 (by decide) (by decide)]; exact u11 c
  have f13 : ∀ c, hF 13 c = if c = s then h 43 sl else h 13 c := fun c => by rw [kk 13 (by decide) (by decide)]; exact u13 c
  have f14 : ∀ c, hF 14 c = if c = s then h 44 sl else h 14 c := fun c => by rw [kk 14 (by decide) (by decide)]; exact u14 c
  have past : ∀ b, 0 ≤ b → b < 38 → b ≠ 1 → b ≠ 22 + 4 * s → b ≠ 22 + 4 * s + 2 → b ≠ 22 + 4 * s + 3 → hF 74 b = h 74 b := fun b b0 b1 n1 n2 n3 n4 => by rw [k74 b b0 b1, ← s1, l9 b b0 b1 n1 n2 n3 n4, s2]
  refine J_oth j (fun a b1 b2 b3 b4 b5 b6 b7 b8 b9 => by rw [kk a b6 b7]; exact uk a b1 b2 b3 b4 (by omega)) (fun b b0 b1 => k68 b b1) ?_ ?_
  · refine ⟨⟨by rw [f72]; exact o1, by rw [f73]; exact o2, by rw [f70]; exact o3, fun l l0 l1 => by rw [f72] at l1; rw [f8, f9, f10]; exact o4 l l0 l1, fun t t0 t1 => ?_⟩, ⟨?_, ?_, ?_, ?_⟩, fun l l0 l1 => ?_, fun t t0 t1 => ?_⟩
    · rw [f73] at t1
      have z := o5 t t0 t1
      rw [f11, f13, f14, f12]
      by_cases et : t = s
      · rw [if_pos et, if_pos et, if_pos et]
        exact ⟨l2, z.2.1, l3, l4⟩
      · rw [if_neg et, if_neg et, if_neg et]
        exact z
    · rw [past 0 (by decide) (by decide) (by decide) (by omega) (by omega) (by omega), f70]; exact c0
    · rw [k74 1 (by decide) (by decide), ← s1, l8, f7, if_pos rfl]
    · rw [past 2 (by decide) (by decide) (by decide) (by omega) (by omega) (by omega), f72]; exact c2
    · rw [past 3 (by decide) (by decide) (by decide) (by omega) (by omega) (by omega), f73]; exact c3
    · rw [f72] at l1
      rw [past _ (by omega) (by omega) (by omega) (by omega) (by omega) (by omega), past _ (by omega) (by omega) (by omega) (by omega) (by omega) (by omega), past _ (by omega) (by omega) (by omega) (by omega) (by omega) (by omega), f8, f9, f10]
      exact cl l l0 l1
    · rw [f73] at t1
      have z := cs t t0 t1
      rw [f11, f13, f14, f12]
      by_cases et : t = s
      · rw [et] at z ⊢
        rw [if_pos rfl, if_pos rfl, if_pos rfl, k74 _ (by omega) (by omega), ← s1, l5, past (22 + 4 * s + 1) (by omega) (by omega) (by omega) (by omega) (by omega) (by omega), k74 _ (by omega) (by omega), ← s1, l6, k74 _ (by omega) (by omega), ← s1, l7]
        exact ⟨rfl, z.2.1, rfl, rfl⟩
      · rw [if_neg et, if_neg et, if_neg et, past _ (by omega) (by omega) (by omega) (by omega) (by omega) (by omega), past _ (by omega) (by omega) (by omega) (by omega) (by omega) (by omega), past _ (by omega) (by omega) (by omega) (by omega) (by omega) (by omega), past _ (by omega) (by omega) (by omega) (by omega) (by omega) (by omega)]
        exact z
  · have g5 : hF 40 5 = sl := by rw [kk 40 (by decide) (by decide)]; exact u5
    have g6 : hF 40 6 = h 40 6 - 1 := by rw [kk 40 (by decide) (by decide)]; exact u6
    refine ⟨by rw [g6]; omega, by rw [k16, g6], by rw [g5]; exact hsl, fun i i0 i1 => ?_⟩
    rw [g6] at i1
    rw [g5, g6, f73]
    have esl : asl_ sl (h 40 6 - 1) i = asl_ (h 40 5) (h 40 6) i := by
      rw [← eS]
      unfold asl_ ul_n
      split <;> split <;> split <;> omega
    rw [esl]
    refine lnk_c o2.2 (fun a b0 b1 => ?_) (fun b b0 b1 => ?_) (fun b b0 b1 => ?_) (a4 i i0 (by omega))
    · rw [kk a (by omega) (by omega), uk a (by omega) (by omega) (by omega) (by omega) (by omega)]
    · unfold snp_
      rw [if_neg (by omega), if_neg (by omega), kk 76 (by decide) (by decide), e76]
    · unfold snp_
      by_cases e : i + 1 = h 40 6 - 1
      · rw [if_pos e, if_neg (by omega), e, k74 b b0 b1]
      · rw [if_neg e, if_neg (by omega), kk 76 (by decide) (by decide), e76]
end PJ4_
