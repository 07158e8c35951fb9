/-- both ends of a reading -/
def pk_ {α : Type} (r : Except (Int × Int) α) (kf : Int → Int → Prop) (ko : α → Prop) : Prop := match r with
  | .error e => kf e.1 e.2
  | .ok a => ko a
theorem rs_at {h hc : SH_} {p k : Int} (q : Int) (hR : rs_ h hc p k) : rs_ h (hs_ hc 5 2 q) q k := by
  obtain ⟨h1, h2, h3, h4⟩ := hR
  exact ⟨fun a a5 ha => by rw [hs_k a5]; exact h1 a a5 ha, by rw [hs_n (by omega)]; exact h2, hs_e _ _ _ _, by rw [hs_n (by omega)]; exact h4⟩
theorem rs_ft {h hc : SH_} {p k : Int} (q : Int) (hR : rs_ h hc p k) : rs_ h (hs_ hc 5 3 q) p q := by
  obtain ⟨h1, h2, h3, h4⟩ := hR
  exact ⟨fun a a5 ha => by rw [hs_k a5]; exact h1 a a5 ha, by rw [hs_n (by omega)]; exact h2, by rw [hs_n (by omega)]; exact h3, hs_e _ _ _ _⟩
theorem td_k {h hc : SH_} {st : Int} {ls : List (Int × Int × Int)} {ss : List (Int × Int)} (hk : ∀ a, 15 ≤ a → h a = hc a) (hT : td_ hc 15 st ls ss) : td_ h 15 st ls ss := by
  obtain ⟨h1, h2, h3, h4, h5, h6⟩ := hT
  refine ⟨?_, ?_, ?_, ?_, fun i x hx => ?_, fun i x hx => ?_⟩
  · rw [hk 15 (by omega)]; exact h1
  · rw [hk 15 (by omega)]; exact h2
  · rw [hk 15 (by omega)]; exact h3
  · rw [hk 15 (by omega)]; exact h4
  · rw [hk (15 + 1) (by omega), hk (15 + 2) (by omega), hk (15 + 3) (by omega)]; exact h5 i x hx
  · rw [hk (15 + 4) (by omega), hk (15 + 5) (by omega), hk (15 + 6) (by omega), hk (15 + 7) (by omega)]; exact h6 i x hx
theorem td_l {hc : SH_} {st a b c : Int} {ls : List (Int × Int × Int)} (hT : td_ hc 15 st ls []) : td_ (hs_ (hs_ (hs_ (hs_ hc 16 (hc 15 2) a) 17 (hc 15 2) b) 18 (hc 15 2) c) 15 2 (hc 15 2 + 1)) 15 st (ls ++ [(a, b, c)]) [] := by
  obtain ⟨h1, h2, h3, h4, h5, h6⟩ := hT
  rw [h3]
  refine ⟨?_, ?_, ?_, ?_, fun i x hx => ?_, fun i x hx => by simp at hx⟩
  · rw [hs_n (by omega), hs_k (by omega), hs_k (by omega), hs_k (by omega)]; exact h1
  · rw [hs_n (by omega), hs_k (by omega), hs_k (by omega), hs_k (by omega)]; exact h2
  · rw [hs_e]; simp
  · rw [hs_n (by omega), hs_k (by omega), hs_k (by omega), hs_k (by omega)]; exact h4
  · show hs_ (hs_ (hs_ (hs_ hc 16 ls.length a) 17 ls.length b) 18 ls.length c) 15 2 (ls.length + 1) 16 i = x.1 ∧ hs_ (hs_ (hs_ (hs_ hc 16 ls.length a) 17 ls.length b) 18 ls.length c) 15 2 (ls.length + 1) 17 i = x.2.1 ∧ hs_ (hs_ (hs_ (hs_ hc 16 ls.length a) 17 ls.length b) 18 ls.length c) 15 2 (ls.length + 1) 18 i = x.2.2
    have e16 : hs_ (hs_ (hs_ (hs_ hc 16 ls.length a) 17 ls.length b) 18 ls.length c) 15 2 (ls.length + 1) 16 = hs_ hc 16 ls.length a 16 := by rw [hs_k (by omega), hs_k (by omega), hs_k (by omega)]
    have e17 : hs_ (hs_ (hs_ (hs_ hc 16 ls.length a) 17 ls.length b) 18 ls.length c) 15 2 (ls.length + 1) 17 = hs_ (hs_ hc 16 ls.length a) 17 ls.length b 17 := by rw [hs_k (by omega), hs_k (by omega)]
    have e18 : hs_ (hs_ (hs_ (hs_ hc 16 ls.length a) 17 ls.length b) 18 ls.length c) 15 2 (ls.length + 1) 18 = hs_ (hs_ (hs_ hc 16 ls.length a) 17 ls.length b) 18 ls.length c 18 := by rw [hs_k (by omega)]
    rw [e16, e17, e18]
    by_cases hi : i < ls.length
    · rw [List.getElem?_append_left hi] at hx
      have h7 := h5 i x hx
      rw [hs_n (by omega), hs_n (by omega), hs_k (by omega), hs_n (by omega), hs_k (by omega), hs_k (by omega)]
      exact h7
    · rw [List.getElem?_append_right (by omega)] at hx
      have hz : i - ls.length < 1 := (List.getElem?_eq_some_iff.mp hx).1
      have e : i = ls.length := by omega
      subst e
      rw [Nat.sub_self] at hx
      cases hx
      rw [hs_e, hs_e, hs_e]
      exact ⟨rfl, rfl, rfl⟩
theorem td_s {hc : SH_} {st a b : Int} {ls : List (Int × Int × Int)} {ss : List (Int × Int)} (hT : td_ hc 15 st ls ss) : td_ (hs_ (hs_ (hs_ (hs_ (hs_ hc 19 (hc 15 3) a) 20 (hc 15 3) b) 21 (hc 15 3) 0) 22 (hc 15 3) 0) 15 3 (hc 15 3 + 1)) 15 st ls (ss ++ [(a, b)]) := by
  obtain ⟨h1, h2, h3, h4, h5, h6⟩ := hT
  rw [h4]
  refine ⟨?_, ?_, ?_, ?_, fun i x hx => ?_, fun i x hx => ?_⟩
  · rw [hs_n (by omega), hs_k (by omega), hs_k (by omega), hs_k (by omega), hs_k (by omega)]; exact h1
  · rw [hs_n (by omega), hs_k (by omega), hs_k (by omega), hs_k (by omega), hs_k (by omega)]; exact h2
  · rw [hs_n (by omega), hs_k (by omega), hs_k (by omega), hs_k (by omega), hs_k (by omega)]; exact h3
  · rw [hs_e]; simp
  · have h7 := h5 i x hx
    have e : ∀ r : Int, 16 ≤ r → r ≤ 18 → hs_ (hs_ (hs_ (hs_ (hs_ hc 19 ss.length a) 20 ss.length b) 21 ss.length 0) 22 ss.length 0) 15 3 (ss.length + 1) r = hc r := fun r r0 r1 => by
      rw [hs_k (by omega), hs_k (by omega), hs_k (by omega), hs_k (by omega), hs_k (by omega)]
    rw [e _ (by omega) (by omega), e _ (by omega) (by omega), e _ (by omega) (by omega)]
    exact h7
  · show hs_ (hs_ (hs_ (hs_ (hs_ hc 19 ss.length a) 20 ss.length b) 21 ss.length 0) 22 ss.length 0) 15 3 (ss.length + 1) 19 i = x.1 ∧ hs_ (hs_ (hs_ (hs_ (hs_ hc 19 ss.length a) 20 ss.length b) 21 ss.length 0) 22 ss.length 0) 15 3 (ss.length + 1) 20 i = x.2 ∧ hs_ (hs_ (hs_ (hs_ (hs_ hc 19 ss.length a) 20 ss.length b) 21 ss.length 0) 22 ss.length 0) 15 3 (ss.length + 1) 21 i = 0 ∧ hs_ (hs_ (hs_ (hs_ (hs_ hc 19 ss.length a) 20 ss.length b) 21 ss.length 0) 22 ss.length 0) 15 3 (ss.length + 1) 22 i = 0
    have e19 : hs_ (hs_ (hs_ (hs_ (hs_ hc 19 ss.length a) 20 ss.length b) 21 ss.length 0) 22 ss.length 0) 15 3 (ss.length + 1) 19 = hs_ hc 19 ss.length a 19 := by rw [hs_k (by omega), hs_k (by omega), hs_k (by omega), hs_k (by omega)]
    have e20 : hs_ (hs_ (hs_ (hs_ (hs_ hc 19 ss.length a) 20 ss.length b) 21 ss.length 0) 22 ss.length 0) 15 3 (ss.length + 1) 20 = hs_ (hs_ hc 19 ss.length a) 20 ss.length b 20 := by rw [hs_k (by omega), hs_k (by omega), hs_k (by omega)]
    have e21 : hs_ (hs_ (hs_ (hs_ (hs_ hc 19 ss.length a) 20 ss.length b) 21 ss.length 0) 22 ss.length 0) 15 3 (ss.length + 1) 21 = hs_ (hs_ (hs_ hc 19 ss.length a) 20 ss.length b) 21 ss.length 0 21 := by rw [hs_k (by omega), hs_k (by omega)]
    have e22 : hs_ (hs_ (hs_ (hs_ (hs_ hc 19 ss.length a) 20 ss.length b) 21 ss.length 0) 22 ss.length 0) 15 3 (ss.length + 1) 22 = hs_ (hs_ (hs_ (hs_ hc 19 ss.length a) 20 ss.length b) 21 ss.length 0) 22 ss.length 0 22 := by rw [hs_k (by omega)]
    rw [e19, e20, e21, e22]
    by_cases hi : i < ss.length
    · rw [List.getElem?_append_left hi] at hx
      have h7 := h6 i x hx
      rw [hs_n (by omega), hs_n (by omega), hs_k (by omega), hs_n (by omega), hs_k (by omega), hs_k (by omega), hs_n (by omega), hs_k (by omega), hs_k (by omega), hs_k (by omega)]
      exact h7
    · rw [List.getElem?_append_right (by omega)] at hx
      have hz : i - ss.length < 1 := (List.getElem?_eq_some_iff.mp hx).1
      have e : i = ss.length := by omega
      subst e
      rw [Nat.sub_self] at hx
      cases hx
      rw [hs_e, hs_e, hs_e, hs_e]
      exact ⟨rfl, rfl, rfl, rfl⟩
theorem rs_d {h hc : SH_} {p k a b v : Int} (ha : 15 ≤ a ∧ a ≤ 22) (hR : rs_ h hc p k) : rs_ h (hs_ hc a b v) p k := by
  obtain ⟨h1, h2, h3, h4⟩ := hR
  exact ⟨fun x x5 hx => by rw [hs_k (by omega)]; exact h1 x x5 hx, by rw [hs_k (by omega)]; exact h2, by rw [hs_k (by omega)]; exact h3, by rw [hs_k (by omega)]; exact h4⟩
section PRE_
variable {g : SG_} {d : Nat} {h hc : SH_} {Post : Option SV_ → SH_ → Prop} {p k0 : Int}
theorem rs_B (hR : rs_ h hc p k0) : bz_ (hc 6) (hc 5 1) = bz_ (h 6) (h 5 1) := by rw [hR.1 6 (by decide) (Or.inl (by decide)), hR.2.1]
theorem cr_here (hn : 0 ≤ h 5 1 ∧ h 5 1 ≤ 120) (hR : rs_ h hc p k0) (kk : Post (some (sv_i (bz_ (h 6) (h 5 1) p))) hc) : Ctr_ g (d + 1) mX5_here [sv_r 4 4 5] hc Post := by
  refine c_here (by rw [hR.2.1]; exact hn) ?_
  rw [rs_B hR, hR.2.2.1]
  exact kk
theorem cr_passed {c : Int} (hn : 0 ≤ h 5 1 ∧ h 5 1 ≤ 120) (hc0 : c ≠ -1) (hR : rs_ h hc p k0) (kt : ∀ h2, bz_ (h 6) (h 5 1) p = c → (0 ≤ p ∧ p < h 5 1) → rs_ h h2 (p + 1) k0 → (∀ a, 15 ≤ a → h2 a = hc a) → Post (some (sv_i 1)) h2) (kf : ∀ h2, ¬ bz_ (h 6) (h 5 1) p = c → rs_ h h2 p 1 → Post (some (sv_i 0)) h2) : Ctr_ g (d + 2) mX5_passed [sv_r 4 4 5, sv_i c] hc Post := by
  refine c_passed (by rw [hR.2.1]; exact hn) hc0 (fun e i => ?_) (fun e => ?_)
  · rw [rs_B hR, hR.2.2.1] at e
    rw [hR.2.2.1, hR.2.1] at i
    rw [hR.2.2.1]
    exact kt _ e i (rs_at _ hR) (fun a ha => hs_k (by omega))
  · rw [rs_B hR, hR.2.2.1] at e
    exact kf _ e (rs_ft _ hR)
theorem cr_number {lo hi : Int} (hn : 0 ≤ h 5 1 ∧ h 5 1 ≤ 120) (hp : 0 ≤ p ∧ p ≤ 121) (hR : rs_ h hc p k0) (ko : ∀ v q h2, rn_ (bz_ (h 6) (h 5 1)) p lo hi = .ok (v, q) → rs_ h h2 q k0 → (∀ a, 15 ≤ a → h2 a = hc a) → Post (some (sv_i v)) h2) (kf : ∀ k h2, rn_ (bz_ (h 6) (h 5 1)) p lo hi = .error (p, k) → rs_ h h2 p k → Post (some (sv_i (-1))) h2) : Ctr_ g (d + 1) mX5_readNumber [sv_r 4 4 5, sv_i lo, sv_i hi] hc Post := by
  refine c_readNumber (by rw [hR.2.1]; exact hn) (by rw [hR.2.2.1]; exact hp) (fun v q e => ?_) (fun k e => ?_)
  · rw [rs_B hR, hR.2.2.1] at e
    exact ko v q _ e (rs_at _ hR) (fun a ha => hs_k (by omega))
  · rw [rs_B hR, hR.2.2.1] at e
    exact kf k _ e (rs_ft _ hR)
end PRE_
