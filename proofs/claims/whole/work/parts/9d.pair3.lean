theorem lnk_c {p q : SH_} {sl n : Int} {f1 f2 k1 k2 : Int → Int} (hn : n ≤ 4) (e : ∀ a, 41 ≤ a → a ≤ 45 → q a sl = p a sl) (e1 : ∀ b, 0 ≤ b → b < 38 → k1 b = f1 b) (e2 : ∀ b, 0 ≤ b → b < 38 → k2 b = f2 b) (l : lnk_ p sl n f1 f2) : lnk_ q sl n k1 k2 := by
  unfold lnk_ at l ⊢
  rw [e 41 (by decide) (by decide), e 42 (by decide) (by decide), e 43 (by decide) (by decide), e 44 (by decide) (by decide), e 45 (by decide) (by decide)]
  obtain ⟨l1, l2, l3, l4, l5, l6, l7, l8, l9⟩ := l
  refine ⟨l1, l2, l3, l4, ?_, ?_, ?_, ?_, fun b b0 b1 c1 c2 c3 c4 => ?_⟩
  · rw [e1 _ (by omega) (by omega)]; exact l5
  · rw [e1 _ (by omega) (by omega)]; exact l6
  · rw [e1 _ (by omega) (by omega)]; exact l7
  · rw [e1 _ (by omega) (by omega)]; exact l8
  · rw [e1 _ b0 b1, e2 _ b0 b1]; exact l9 b b0 b1 c1 c2 c3 c4
theorem J_oth {h hF : SH_} (j : J_ h) (kO : ∀ a, a ≠ 7 → a ≠ 11 → a ≠ 13 → a ≠ 14 → (a < 40 ∨ 65 < a) → a ≠ 68 → a ≠ 74 → a ≠ 76 → a ≠ 80 → hF a = h a) (k68 : ∀ b, b ≤ 20 → b ≠ 16 → hF 68 b = h 68 b) (c : cpl_ hF hF) (ac : act_ hF) : J_ hF := by
  obtain ⟨j1, j2, j3, j4, j5, j6, j7⟩ := j
  have k : ∀ a, (a < 7 ∨ (14 < a ∧ a < 40) ∨ (65 < a ∧ a < 68) ∨ (68 < a ∧ a < 74) ∨ a = 75 ∨ (76 < a ∧ a < 80)) → hF a = h a := fun a ha => kO a (by omega) (by omega) (by omega) (by omega) (by omega) (by omega) (by omega) (by omega) (by omega)
  exact ⟨c, rcp_2 (k 2 (by omega)) (k 3 (by omega)) (k 4 (by omega)) (k 69 (by omega)) (k 70 (by omega)) (k 71 (by omega)) j2, trc_k (by rw [k 66 (by omega)]) (k 67 (by omega)) (k 79 (by omega)) (k68 20 (by decide) (by decide)) j3, by rw [k68 4 (by decide) (by decide), k 0 (by omega)]; exact j4, tap_k (k 5 (by omega)) (k 6 (by omega)) (k 73 (by omega)) (k68 6 (by decide) (by decide)) (k68 7 (by decide) (by decide)) j5, img_k (fun a _ _ => k a (by omega)) (k 77 (by omega)) (k 78 (by omega)) j6, ac⟩
/-- an act of stranger s: its trust, sets, and the purse become T, D, E, P -/
theorem J_act {h hF : SH_} {s T D E P : Int} (j : J_ h) (hs : 0 ≤ s ∧ s < h 7 3) (rT : 0 ≤ T ∧ T ≤ 20) (rD : 0 ≤ D ∧ D < 64) (rE : 0 ≤ E ∧ E < 64)
    (kO : ∀ a, a ≠ 7 → a ≠ 11 → a ≠ 13 → a ≠ 14 → (a < 40 ∨ 65 < a) → a ≠ 68 → a ≠ 74 → a ≠ 76 → a ≠ 80 → hF a = h a) (k68 : ∀ b, b ≤ 20 → b ≠ 16 → hF 68 b = h 68 b)
    (k7 : ∀ b, hF 7 b = if b = 1 then P else h 7 b) (k11 : ∀ b, hF 11 b = if b = s then T else h 11 b) (k13 : ∀ b, hF 13 b = if b = s then D else h 13 b) (k14 : ∀ b, hF 14 b = if b = s then E else h 14 b)
    (k41 : ∀ b, hF 41 b = if b = h 40 5 then s else h 41 b) (k42 : ∀ b, hF 42 b = if b = h 40 5 then h 11 s else h 42 b) (k43 : ∀ b, hF 43 b = if b = h 40 5 then h 13 s else h 43 b) (k44 : ∀ b, hF 44 b = if b = h 40 5 then h 14 s else h 44 b) (k45 : ∀ b, hF 45 b = if b = h 40 5 then h 7 1 else h 45 b)
    (k405 : hF 40 5 = if h 40 5 + 1 < 24 then h 40 5 + 1 else 0) (k406 : hF 40 6 = if 24 < h 40 6 + 1 then 24 else h 40 6 + 1) (k16 : hF 68 16 = hF 40 6)
    (k74 : ∀ b, hF 74 b = if b = 1 then P else if b = 22 + 4 * s then T else if b = 22 + 4 * s + 2 then D else if b = 22 + 4 * s + 3 then E else h 74 b)
    (k76 : ∀ i b, 0 ≤ i → i < hF 40 6 → 0 ≤ b → b < 38 → hF 76 (38 * i + b) = if i = hF 40 6 - 1 then h 74 b else if h 40 6 = 24 then h 76 (38 * (i + 1) + b) else h 76 (38 * i + b)) : J_ hF := by
  have j1 := j.1
  obtain ⟨⟨o1, o2, o3, o4, o5⟩, ⟨c0, c1, c2, c3⟩, cl, cs⟩ := id j1
  have e8 : hF 8 = h 8 := kO 8 (by decide) (by decide) (by decide) (by decide) (by decide) (by decide) (by decide) (by decide) (by decide)
  have e9 : hF 9 = h 9 := kO 9 (by decide) (by decide) (by decide) (by decide) (by decide) (by decide) (by decide) (by decide) (by decide)
  have e10 : hF 10 = h 10 := kO 10 (by decide) (by decide) (by decide) (by decide) (by decide) (by decide) (by decide) (by decide) (by decide)
  have e12 : hF 12 = h 12 := kO 12 (by decide) (by decide) (by decide) (by decide) (by decide) (by decide) (by decide) (by decide) (by decide)
  have e70 : hF 7 0 = h 7 0 := by rw [k7, if_neg (by decide)]
  have e71 : hF 7 1 = P := by rw [k7, if_pos rfl]
  have e72 : hF 7 2 = h 7 2 := by rw [k7, if_neg (by decide)]
  have e73 : hF 7 3 = h 7 3 := by rw [k7, if_neg (by decide)]
  refine J_oth j kO k68 ?_ ?_
  · refine ⟨⟨by rw [e72]; exact o1, by rw [e73]; exact o2, by rw [e70]; exact o3, fun l l0 l1 => by rw [e72] at l1; rw [e8, e9, e10]; exact o4 l l0 l1, fun t t0 t1 => ?_⟩, ⟨?_, ?_, ?_, ?_⟩, fun l l0 l1 => ?_, fun t t0 t1 => ?_⟩
    · rw [e73] at t1
      have z := o5 t t0 t1
      rw [k11, k13, k14, e12]
      by_cases et : t = s
      · rw [if_pos et, if_pos et, if_pos et]
        exact ⟨rT, z.2.1, rD, rE⟩
      · rw [if_neg et, if_neg et, if_neg et]
        exact z
    · rw [k74, if_neg (by decide), if_neg (by omega), if_neg (by omega), if_neg (by omega), e70]; exact c0
    · rw [k74, if_pos rfl, e71]
    · rw [k74, if_neg (by decide), if_neg (by omega), if_neg (by omega), if_neg (by omega), e72]; exact c2
    · rw [k74, if_neg (by decide), if_neg (by omega), if_neg (by omega), if_neg (by omega), e73]; exact c3
    · rw [e72] at l1
      rw [k74, k74, k74, if_neg (by omega), if_neg (by omega), if_neg (by omega), if_neg (by omega), if_neg (by omega), if_neg (by omega), if_neg (by omega), if_neg (by omega), if_neg (by omega), if_neg (by omega), if_neg (by omega), if_neg (by omega), e8, e9, e10]
      exact cl l l0 l1
    · rw [e73] at t1
      have z := cs t t0 t1
      rw [k11, k13, k14, e12]
      by_cases et : t = s
      · subst et
        rw [if_pos rfl, if_pos rfl, if_pos rfl, k74 (22 + 4 * t), if_neg (by omega), if_pos rfl, k74 (22 + 4 * t + 1), if_neg (by omega), if_neg (by omega), if_neg (by omega), if_neg (by omega), k74 (22 + 4 * t + 2), if_neg (by omega), if_neg (by omega), if_pos rfl, k74 (22 + 4 * t + 3), if_neg (by omega), if_neg (by omega), if_neg (by omega), if_pos rfl]
        exact ⟨rfl, z.2.1, rfl, rfl⟩
      · rw [if_neg et, if_neg et, if_neg et, k74 (22 + 4 * t), if_neg (by omega), if_neg (by omega), if_neg (by omega), if_neg (by omega), k74 (22 + 4 * t + 1), if_neg (by omega), if_neg (by omega), if_neg (by omega), if_neg (by omega), k74 (22 + 4 * t + 2), if_neg (by omega), if_neg (by omega), if_neg (by omega), if_neg (by omega), k74 (22 + 4 * t + 3), if_neg (by omega), if_neg (by omega), if_neg (by omega), if_neg (by omega)]
        exact z
  · obtain ⟨a1, a2, a3, a4⟩ := j.2.2.2.2.2.2
    have hs4 := o5 s hs.1 hs.2
    have zs := cs s hs.1 hs.2
    refine ⟨?_, k16, ?_, fun i i0 i1 => ?_⟩
    · rw [k406]; split <;> omega
    · rw [k405]; split <;> omega
    · have eA : hF 40 6 = 24 ∧ h 40 6 = 24 ∨ hF 40 6 = h 40 6 + 1 ∧ h 40 6 < 24 := by
        rw [k406]
        by_cases q : 24 < h 40 6 + 1
        · rw [if_pos q]; omega
        · rw [if_neg q]; omega
      have eN : hF 40 5 = h 40 5 + 1 ∧ h 40 5 < 23 ∨ hF 40 5 = 0 ∧ h 40 5 = 23 := by
        rw [k405]
        by_cases q : h 40 5 + 1 < 24
        · rw [if_pos q]; omega
        · rw [if_neg q]; omega
      rw [e73]
      by_cases il : i = hF 40 6 - 1
      · have esl : asl_ (hF 40 5) (hF 40 6) i = h 40 5 := by
          unfold asl_
          split <;> omega
        have s1 : ∀ b, 0 ≤ b → b < 38 → snp_ hF (hF 40 6) i b = h 74 b := fun b b0 b1 => by
          unfold snp_
          rw [if_neg (by omega), k76 i b i0 i1 b0 b1, if_pos il]
        have s2 : ∀ b, snp_ hF (hF 40 6) (i + 1) b = hF 74 b := fun b => by
          unfold snp_
          rw [if_pos (by omega)]
        rw [esl]
        unfold lnk_
        rw [k41, k42, k43, k44, k45, if_pos rfl, if_pos rfl, if_pos rfl, if_pos rfl, if_pos rfl]
        refine ⟨hs, hs4.1, hs4.2.2.1, hs4.2.2.2, ?_, ?_, ?_, ?_, fun b b0 b1 n1 n2 n3 n4 => ?_⟩
        · rw [s1 _ (by omega) (by omega)]; exact zs.1
        · rw [s1 _ (by omega) (by omega)]; exact zs.2.2.1
        · rw [s1 _ (by omega) (by omega)]; exact zs.2.2.2
        · rw [s1 _ (by omega) (by omega)]; exact c1
        · rw [s1 b b0 b1, s2, k74, if_neg n1, if_neg n2, if_neg n3, if_neg n4]
      · rcases eA with ⟨eA, eB⟩ | ⟨eA, eB⟩
        · have esl : asl_ (hF 40 5) (hF 40 6) i = asl_ (h 40 5) (h 40 6) (i + 1) := by
            unfold asl_
            split <;> split <;> omega
          have nsl : asl_ (h 40 5) (h 40 6) (i + 1) ≠ h 40 5 := by
            unfold asl_
            split <;> omega
          rw [esl]
          refine lnk_c o2.2 (fun a b0 b1 => ?_) (fun b b0 b1 => ?_) (fun b b0 b1 => ?_) (a4 (i + 1) (by omega) (by omega))
          · rcases (by omega : a = 41 ∨ a = 42 ∨ a = 43 ∨ a = 44 ∨ a = 45) with rfl | rfl | rfl | rfl | rfl
            · rw [k41, if_neg nsl]
            · rw [k42, if_neg nsl]
            · rw [k43, if_neg nsl]
            · rw [k44, if_neg nsl]
            · rw [k45, if_neg nsl]
          · unfold snp_
            rw [if_neg (by omega), if_neg (by omega), k76 i b i0 i1 b0 b1, if_neg il, if_pos eB]
          · unfold snp_
            rw [if_neg (by omega), k76 (i + 1) b (by omega) (by omega) b0 b1]
            by_cases i2 : i + 1 = hF 40 6 - 1
            · rw [if_pos i2, if_pos (by omega)]
            · rw [if_neg i2, if_pos eB, if_neg (by omega)]
        · have esl : asl_ (hF 40 5) (hF 40 6) i = asl_ (h 40 5) (h 40 6) i := by
            unfold asl_
            split <;> split <;> omega
          have nsl : asl_ (h 40 5) (h 40 6) i ≠ h 40 5 := by
            unfold asl_
            split <;> omega
          rw [esl]
          refine lnk_c o2.2 (fun a b0 b1 => ?_) (fun b b0 b1 => ?_) (fun b b0 b1 => ?_) (a4 i (by omega) (by omega))
          · rcases (by omega : a = 41 ∨ a = 42 ∨ a = 43 ∨ a = 44 ∨ a = 45) with rfl | rfl | rfl | rfl | rfl
            · rw [k41, if_neg nsl]
            · rw [k42, if_neg nsl]
            · rw [k43, if_neg nsl]
            · rw [k44, if_neg nsl]
            · rw [k45, if_neg nsl]
          · unfold snp_
            rw [if_neg (by omega), if_neg (by omega), k76 i b i0 i1 b0 b1, if_neg il, if_neg (by omega)]
          · unfold snp_
            rw [if_neg (by omega), k76 (i + 1) b (by omega) (by omega) b0 b1]
            by_cases i2 : i + 1 = hF 40 6 - 1
            · rw [if_pos i2, if_pos (by omega)]
            · rw [if_neg i2, if_neg (by omega), if_neg (by omega)]
theorem mnt_16 {h : SH_} (ha : 0 ≤ h 68 16 ∧ h 68 16 ≤ 24) : mnt_ h 68 16 = if 24 < h 68 16 + 1 then 24 else h 68 16 + 1 := by
  unfold mnt_
  by_cases c : h 68 16 = 24
  · rw [if_pos c, hs_e, if_pos (by omega)]
  · rw [if_neg c, hs_e, if_neg (by omega)]
theorem mnt_68 {h : SH_} {b : Int} (hb : b ≠ 16) : mnt_ h 68 b = h 68 b := by
  unfold mnt_
  split
  · rw [hs_n (by omega), hc_k (by decide), hs_n (by omega), hc_k (by decide)]
  · rw [hs_n (by omega), hc_k (by decide)]
theorem mnt_76 {h : SH_} {i b : Int} (ha : 0 ≤ h 68 16 ∧ h 68 16 ≤ 24) (i0 : 0 ≤ i) (i1 : i < (if 24 < h 68 16 + 1 then 24 else h 68 16 + 1)) (b0 : 0 ≤ b) (b1 : b < 38) : mnt_ h 76 (38 * i + b) = if i = (if 24 < h 68 16 + 1 then 24 else h 68 16 + 1) - 1 then h 74 b else if h 68 16 = 24 then h 76 (38 * (i + 1) + b) else h 76 (38 * i + b) := by
  unfold mnt_
  by_cases c : h 68 16 = 24
  · rw [if_pos c, if_pos (show 24 < h 68 16 + 1 by omega), if_pos c, hs_k (by decide)]
    rw [if_pos (show 24 < h 68 16 + 1 by omega)] at i1
    by_cases e : i = 24 - 1
    · rw [if_pos e, hc_in (by omega), hs_k (by decide), hc_k (by decide), show 0 + (38 * i + b - 38 * 23) = b by omega]
    · rw [if_neg e, hc_out (by omega), hs_k (by decide), hc_in (by omega), show 38 + (38 * i + b - 0) = 38 * (i + 1) + b by omega]
  · rw [if_neg c, if_neg (show ¬ 24 < h 68 16 + 1 by omega), if_neg c, hs_k (by decide)]
    rw [if_neg (show ¬ 24 < h 68 16 + 1 by omega)] at i1
    by_cases e : i = h 68 16 + 1 - 1
    · rw [if_pos e, hc_in (by omega), show 0 + (38 * i + b - 38 * h 68 16) = b by omega]
    · rw [if_neg e, hc_out (by omega)]
