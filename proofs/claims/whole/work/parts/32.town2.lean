/-- the town at k is that at o, as far as copied; all else is as it was -/
def tc_ (h : SH_) (k o i j : Int) (hc : SH_) : Prop := (∀ a, (a < k ∨ k + 7 < a) → hc a = h a) ∧ (∀ b, 0 ≤ b → b < 4 → hc k b = h o b) ∧
  (∀ b, 0 ≤ b → b < i → hc (k + 1) b = h (o + 1) b ∧ hc (k + 2) b = h (o + 2) b ∧ hc (k + 3) b = h (o + 3) b) ∧
  (∀ b, 0 ≤ b → b < j → hc (k + 4) b = h (o + 4) b ∧ hc (k + 5) b = h (o + 5) b ∧ hc (k + 6) b = h (o + 6) b ∧ hc (k + 7) b = h (o + 7) b)
theorem tc_i {h hc : SH_} {k o i : Int} (hi : tc_ h k o i 0 hc) : tc_ h k o (i + 1) 0 (hs_ (hs_ (hs_ hc (k + 1) i (h (o + 1) i)) (k + 2) i (h (o + 2) i)) (k + 3) i (h (o + 3) i)) := by
  obtain ⟨h1, h2, h3, h4⟩ := hi
  refine ⟨fun a ha => ?_, fun b b0 b1 => ?_, fun b b0 b1 => ?_, fun b b0 b1 => by omega⟩
  · rw [hs_k (by omega), hs_k (by omega), hs_k (by omega)]
    exact h1 a ha
  · rw [hs_k (by omega), hs_k (by omega), hs_k (by omega)]
    exact h2 b b0 b1
  · refine ⟨?_, ?_, ?_⟩
    · rw [hs_k (by omega), hs_k (by omega)]
      by_cases hb : b = i
      · subst hb; rw [hs_e]
      · rw [hs_n (by omega)]; exact (h3 b b0 (by omega)).1
    · rw [hs_k (by omega)]
      by_cases hb : b = i
      · subst hb; rw [hs_e]
      · rw [hs_n (by omega), hs_k (by omega)]; exact (h3 b b0 (by omega)).2.1
    · by_cases hb : b = i
      · subst hb; rw [hs_e]
      · rw [hs_n (by omega), hs_k (by omega), hs_k (by omega)]; exact (h3 b b0 (by omega)).2.2
theorem tc_j {h hc : SH_} {k o j : Int} (hi : tc_ h k o 6 j hc) : tc_ h k o 6 (j + 1) (hs_ (hs_ (hs_ (hs_ hc (k + 4) j (h (o + 4) j)) (k + 5) j (h (o + 5) j)) (k + 6) j (h (o + 6) j)) (k + 7) j (h (o + 7) j)) := by
  obtain ⟨h1, h2, h3, h4⟩ := hi
  refine ⟨fun a ha => ?_, fun b b0 b1 => ?_, fun b b0 b1 => ?_, fun b b0 b1 => ?_⟩
  · rw [hs_k (by omega), hs_k (by omega), hs_k (by omega), hs_k (by omega)]
    exact h1 a ha
  · rw [hs_k (by omega), hs_k (by omega), hs_k (by omega), hs_k (by omega)]
    exact h2 b b0 b1
  · rw [hs_k (by omega), hs_k (by omega), hs_k (by omega), hs_k (by omega), hs_k (by omega), hs_k (by omega), hs_k (by omega), hs_k (by omega), hs_k (by omega), hs_k (by omega), hs_k (by omega), hs_k (by omega)]
    exact h3 b b0 b1
  · refine ⟨?_, ?_, ?_, ?_⟩
    · rw [hs_k (by omega), hs_k (by omega), hs_k (by omega)]
      by_cases hb : b = j
      · subst hb; rw [hs_e]
      · rw [hs_n (by omega)]; exact (h4 b b0 (by omega)).1
    · rw [hs_k (by omega), hs_k (by omega)]
      by_cases hb : b = j
      · subst hb; rw [hs_e]
      · rw [hs_n (by omega), hs_k (by omega)]; exact (h4 b b0 (by omega)).2.1
    · rw [hs_k (by omega)]
      by_cases hb : b = j
      · subst hb; rw [hs_e]
      · rw [hs_n (by omega), hs_k (by omega), hs_k (by omega)]; exact (h4 b b0 (by omega)).2.2.1
    · by_cases hb : b = j
      · subst hb; rw [hs_e]
      · rw [hs_n (by omega), hs_k (by omega), hs_k (by omega), hs_k (by omega)]; exact (h4 b b0 (by omega)).2.2.2
section PT2_
variable {g : SG_} {d : Nat} {h : SH_} {Post : Option SV_ → SH_ → Prop}
theorem l_become2 {k o : Int} (hko : k + 8 ≤ o ∨ o + 8 ≤ k) (kk : ∀ h2, tc_ h k o 6 4 h2 → Post none h2) : ∀ (m i : Nat), (i : Int) + m = 4 → ∀ hc, tc_ h k o 6 i hc → V_ g d mX7_become 84 [some (sv_r 4 6 k), some (sv_r 4 6 o), some (sv_i i)] [] hc Post := by
  intro m
  induction m with
  | zero =>
    intro i hi hc hI
    rw [show (i : Int) = 4 by omega] at hI
    refine vr_iload_n (q := 85) dX7_become_84 rfl rfl ?_
    refine vr_iconst (q := 86) dX7_become_85 rfl ⟨by decide, by decide⟩ ?_
    -- at X7.become 86: .if_icmp .ge 57
    refine vr_ic_ge (t := 143) (q := 89) dX7_become_86 (by decide) rfl (fun _ => ?_) (fun c9 => absurd c9 (by omega))
    refine vr_vret dX7_become_143 rfl ?_
    exact kk hc hI
  | succ m ih =>
    intro i hi hc hI
    have e4 := hI.1 (o + 4) (by omega)
    have e5 := hI.1 (o + 5) (by omega)
    have e6 := hI.1 (o + 6) (by omega)
    have e7 := hI.1 (o + 7) (by omega)
    refine vr_iload_n (q := 85) dX7_become_84 rfl rfl ?_
    refine vr_iconst (q := 86) dX7_become_85 rfl ⟨by decide, by decide⟩ ?_
    -- at X7.become 86: .if_icmp .ge 57
    refine vr_ic_ge (t := 143) (q := 89) dX7_become_86 (by decide) rfl (fun c9 => absurd c9 (by omega)) (fun _ => ?_)
    refine vr_aload_n (q := 90) dX7_become_89 rfl rfl ?_
    refine vr_getR (q := 93) dX7_become_90 rfl fX7_32 rfl y_X7_7 (by first | (simp only [Int.reduceAdd]; rfl) | rfl) ?_
    refine vr_iload_n (q := 94) dX7_become_93 rfl rfl ?_
    refine vr_aload_n (q := 95) dX7_become_94 rfl rfl ?_
    refine vr_getR (q := 98) dX7_become_95 rfl fX7_32 rfl y_X7_7 (by first | (simp only [Int.reduceAdd]; rfl) | rfl) ?_
    refine vr_iload_n (q := 99) dX7_become_98 rfl rfl ?_
    refine vr_ialdV (q := 100) dX7_become_99 rfl ⟨by omega, by omega⟩ (by rw [e4]) ?_
    refine vr_iast (q := 101) dX7_become_100 rfl ⟨by omega, by omega⟩ ?_
    refine vr_aload_n (q := 102) dX7_become_101 rfl rfl ?_
    refine vr_getR (q := 105) dX7_become_102 rfl fX7_35 rfl y_X7_8 (by first | (simp only [Int.reduceAdd]; rfl) | rfl) ?_
    refine vr_iload_n (q := 106) dX7_become_105 rfl rfl ?_
    refine vr_aload_n (q := 107) dX7_become_106 rfl rfl ?_
    refine vr_getR (q := 110) dX7_become_107 rfl fX7_35 rfl y_X7_8 (by first | (simp only [Int.reduceAdd]; rfl) | rfl) ?_
    refine vr_iload_n (q := 111) dX7_become_110 rfl rfl ?_
    refine vr_ialdV (q := 112) dX7_become_111 rfl ⟨by omega, by omega⟩ (by rw [hs_k (by omega), e5]) ?_
    refine vr_iast (q := 113) dX7_become_112 rfl ⟨by omega, by omega⟩ ?_
    refine vr_aload_n (q := 114) dX7_become_113 rfl rfl ?_
    refine vr_getR (q := 117) dX7_become_114 rfl fX7_38 rfl y_X7_9 (by first | (simp only [Int.reduceAdd]; rfl) | rfl) ?_
    refine vr_iload_n (q := 118) dX7_become_117 rfl rfl ?_
    refine vr_aload_n (q := 119) dX7_become_118 rfl rfl ?_
    refine vr_getR (q := 122) dX7_become_119 rfl fX7_38 rfl y_X7_9 (by first | (simp only [Int.reduceAdd]; rfl) | rfl) ?_
    refine vr_iload_n (q := 123) dX7_become_122 rfl rfl ?_
    refine vr_ialdV (q := 124) dX7_become_123 rfl ⟨by omega, by omega⟩ (by rw [hs_k (by omega), hs_k (by omega), e6]) ?_
    refine vr_iast (q := 125) dX7_become_124 rfl ⟨by omega, by omega⟩ ?_
    refine vr_aload_n (q := 126) dX7_become_125 rfl rfl ?_
    refine vr_getR (q := 129) dX7_become_126 rfl fX7_41 rfl y_X7_10 (by first | (simp only [Int.reduceAdd]; rfl) | rfl) ?_
    refine vr_iload_n (q := 130) dX7_become_129 rfl rfl ?_
    refine vr_aload_n (q := 131) dX7_become_130 rfl rfl ?_
    refine vr_getR (q := 134) dX7_become_131 rfl fX7_41 rfl y_X7_10 (by first | (simp only [Int.reduceAdd]; rfl) | rfl) ?_
    refine vr_iload_n (q := 135) dX7_become_134 rfl rfl ?_
    refine vr_ialdV (q := 136) dX7_become_135 rfl ⟨by omega, by omega⟩ (by rw [hs_k (by omega), hs_k (by omega), hs_k (by omega), e7]) ?_
    refine vr_iast (q := 137) dX7_become_136 rfl ⟨by omega, by omega⟩ ?_
    refine vr_iinc (q := 140) dX7_become_137 rfl rfl ⟨by omega, by omega⟩ (Nat.le_of_ble_eq_true rfl) rfl rfl ?_
    refine vr_goto (q := 84) dX7_become_140 (by decide) ?_
    -- at X7.become 84: .iload_n 2
    exact ih (i + 1) (by omega) _ (tc_j hI)
theorem l_become1 {k o : Int} (hko : k + 8 ≤ o ∨ o + 8 ≤ k) (kk : ∀ h2, tc_ h k o 6 4 h2 → Post none h2) : ∀ (m i : Nat), (i : Int) + m = 6 → ∀ hc, tc_ h k o i 0 hc → V_ g d mX7_become 34 [some (sv_r 4 6 k), some (sv_r 4 6 o), some (sv_i i)] [] hc Post := by
  intro m
  induction m with
  | zero =>
    intro i hi hc hI
    rw [show (i : Int) = 6 by omega] at hI
    refine vr_iload_n (q := 35) dX7_become_34 rfl rfl ?_
    refine vr_bipush (q := 37) dX7_become_35 rfl ⟨by decide, by decide⟩ (by decide) ?_
    -- at X7.become 37: .if_icmp .ge 45
    refine vr_ic_ge (t := 82) (q := 40) dX7_become_37 (by decide) rfl (fun _ => ?_) (fun c9 => absurd c9 (by omega))
    refine vr_iconst (q := 83) dX7_become_82 rfl ⟨by decide, by decide⟩ ?_
    refine vr_istore_n (q := 84) dX7_become_83 rfl rfl (Nat.le_of_ble_eq_true rfl) rfl rfl ?_
    -- at X7.become 84: .iload_n 2
    exact l_become2 hko kk 4 0 (by omega) hc hI
  | succ m ih =>
    intro i hi hc hI
    have e1 := hI.1 (o + 1) (by omega)
    have e2 := hI.1 (o + 2) (by omega)
    have e3 := hI.1 (o + 3) (by omega)
    refine vr_iload_n (q := 35) dX7_become_34 rfl rfl ?_
    refine vr_bipush (q := 37) dX7_become_35 rfl ⟨by decide, by decide⟩ (by decide) ?_
    -- at X7.become 37: .if_icmp .ge 45
    refine vr_ic_ge (t := 82) (q := 40) dX7_become_37 (by decide) rfl (fun c9 => absurd c9 (by omega)) (fun _ => ?_)
    refine vr_aload_n (q := 41) dX7_become_40 rfl rfl ?_
    refine vr_getR (q := 44) dX7_become_41 rfl fX7_22 rfl y_X7_4 (by first | (simp only [Int.reduceAdd]; rfl) | rfl) ?_
    refine vr_iload_n (q := 45) dX7_become_44 rfl rfl ?_
    refine vr_aload_n (q := 46) dX7_become_45 rfl rfl ?_
    refine vr_getR (q := 49) dX7_become_46 rfl fX7_22 rfl y_X7_4 (by first | (simp only [Int.reduceAdd]; rfl) | rfl) ?_
    refine vr_iload_n (q := 50) dX7_become_49 rfl rfl ?_
    refine vr_ialdV (q := 51) dX7_become_50 rfl ⟨by omega, by omega⟩ (by rw [e1]) ?_
    refine vr_iast (q := 52) dX7_become_51 rfl ⟨by omega, by omega⟩ ?_
    refine vr_aload_n (q := 53) dX7_become_52 rfl rfl ?_
    refine vr_getR (q := 56) dX7_become_53 rfl fX7_26 rfl y_X7_5 (by first | (simp only [Int.reduceAdd]; rfl) | rfl) ?_
    refine vr_iload_n (q := 57) dX7_become_56 rfl rfl ?_
    refine vr_aload_n (q := 58) dX7_become_57 rfl rfl ?_
    refine vr_getR (q := 61) dX7_become_58 rfl fX7_26 rfl y_X7_5 (by first | (simp only [Int.reduceAdd]; rfl) | rfl) ?_
    refine vr_iload_n (q := 62) dX7_become_61 rfl rfl ?_
    refine vr_ialdV (q := 63) dX7_become_62 rfl ⟨by omega, by omega⟩ (by rw [hs_k (by omega), e2]) ?_
    refine vr_iast (q := 64) dX7_become_63 rfl ⟨by omega, by omega⟩ ?_
    refine vr_aload_n (q := 65) dX7_become_64 rfl rfl ?_
    refine vr_getR (q := 68) dX7_become_65 rfl fX7_29 rfl y_X7_6 (by first | (simp only [Int.reduceAdd]; rfl) | rfl) ?_
    refine vr_iload_n (q := 69) dX7_become_68 rfl rfl ?_
    refine vr_aload_n (q := 70) dX7_become_69 rfl rfl ?_
    refine vr_getR (q := 73) dX7_become_70 rfl fX7_29 rfl y_X7_6 (by first | (simp only [Int.reduceAdd]; rfl) | rfl) ?_
    refine vr_iload_n (q := 74) dX7_become_73 rfl rfl ?_
    refine vr_ialdV (q := 75) dX7_become_74 rfl ⟨by omega, by omega⟩ (by rw [hs_k (by omega), hs_k (by omega), e3]) ?_
    refine vr_iast (q := 76) dX7_become_75 rfl ⟨by omega, by omega⟩ ?_
    refine vr_iinc (q := 79) dX7_become_76 rfl rfl ⟨by omega, by omega⟩ (Nat.le_of_ble_eq_true rfl) rfl rfl ?_
    refine vr_goto (q := 34) dX7_become_79 (by decide) ?_
    -- at X7.become 34: .iload_n 2
    exact ih (i + 1) (by omega) _ (tc_i hI)
theorem c_townBecome {k o : Int} (hko : k + 8 ≤ o ∨ o + 8 ≤ k) (kk : ∀ h2, tc_ h k o 6 4 h2 → Post none h2) : Ctr_ g d mX7_become [sv_r 4 6 k, sv_r 4 6 o] h Post := by
  refine V_mk (by decide +kernel) (Or.inl ⟨rfl, rfl⟩) (Nat.le_of_ble_eq_true rfl) (by simp [sv_c]) ?_
  show V_ _ _ _ 0 [_, _, _] [] _ _
  refine vr_aload_n (q := 1) dX7_become_0 rfl rfl ?_
  refine vr_aload_n (q := 2) dX7_become_1 rfl rfl ?_
  refine vr_getI (ji := 0) (q := 5) dX7_become_2 rfl fX7_7 rfl rfl ?_
  refine vr_put (ji := 0) (q := 8) dX7_become_5 rfl pX7_7 rfl rfl ?_
  refine vr_aload_n (q := 9) dX7_become_8 rfl rfl ?_
  refine vr_aload_n (q := 10) dX7_become_9 rfl rfl ?_
  refine vr_getV (ji := 1) (q := 13) dX7_become_10 rfl fX7_13 rfl rfl (by rw [hs_k (by omega)]) ?_
  refine vr_put (ji := 1) (q := 16) dX7_become_13 rfl pX7_13 rfl rfl ?_
  refine vr_aload_n (q := 17) dX7_become_16 rfl rfl ?_
  refine vr_aload_n (q := 18) dX7_become_17 rfl rfl ?_
  refine vr_getV (ji := 2) (q := 21) dX7_become_18 rfl fX7_16 rfl rfl (by rw [hs_k (by omega), hs_k (by omega)]) ?_
  refine vr_put (ji := 2) (q := 24) dX7_become_21 rfl pX7_16 rfl rfl ?_
  refine vr_aload_n (q := 25) dX7_become_24 rfl rfl ?_
  refine vr_aload_n (q := 26) dX7_become_25 rfl rfl ?_
  refine vr_getV (ji := 3) (q := 29) dX7_become_26 rfl fX7_19 rfl rfl (by rw [hs_k (by omega), hs_k (by omega), hs_k (by omega)]) ?_
  refine vr_put (ji := 3) (q := 32) dX7_become_29 rfl pX7_19 rfl rfl ?_
  refine vr_iconst (q := 33) dX7_become_32 rfl ⟨by decide, by decide⟩ ?_
  refine vr_istore_n (q := 34) dX7_become_33 rfl rfl (Nat.le_of_ble_eq_true rfl) rfl rfl ?_
  -- at X7.become 34: .iload_n 2
  refine l_become1 hko kk 6 0 (by omega) _ ⟨fun a ha => ?_, fun b b0 b1 => ?_, fun b b0 b1 => absurd b1 (by omega), fun b b0 b1 => absurd b1 (by omega)⟩
  · rw [hs_k (by omega), hs_k (by omega), hs_k (by omega), hs_k (by omega)]
  · rcases (by omega : b = 0 ∨ b = 1 ∨ b = 2 ∨ b = 3) with rfl | rfl | rfl | rfl <;> simp [hs_]
end PT2_
