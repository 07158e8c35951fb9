theorem pc_63 : ∀ s : Fin 64, pc_ ((s : Nat) : Int) = 6 → (s : Nat) = 63 := by decide +kernel
theorem chk_i {s : Int} {k : Nat} (hs : 0 ≤ s ∧ s < 64) (hk : (k : Int) ≤ pc_ s) : chk_ s k = true := by
  have h6 := pc_r (x := s)
  by_cases c3 : pc_ s ≤ 3
  · have e := chk_a ⟨s.toNat, by omega⟩
    rw [show (((⟨s.toNat, by omega⟩ : Fin 64) : Nat) : Int) = s from Int.toNat_of_nonneg hs.1] at e
    exact e c3 ⟨k, by omega⟩ hk
  by_cases c4 : pc_ s = 4
  · by_cases c : s < 32
    · have e := chk_b ⟨s.toNat, by omega⟩
      rw [show (((⟨s.toNat, by omega⟩ : Fin 32) : Nat) : Int) = s from Int.toNat_of_nonneg hs.1] at e
      exact e c4 ⟨k, by omega⟩
    · have e := chk_c ⟨(s - 32).toNat, by omega⟩
      rw [show (((⟨(s - 32).toNat, by omega⟩ : Fin 32) : Nat) : Int) + 32 = s by show ((s - 32).toNat : Int) + 32 = s; omega] at e
      exact e c4 ⟨k, by omega⟩
  by_cases c5 : pc_ s = 5
  · by_cases c : s < 48
    · have e := chk_d ⟨s.toNat, by omega⟩
      rw [show (((⟨s.toNat, by omega⟩ : Fin 48) : Nat) : Int) = s from Int.toNat_of_nonneg hs.1] at e
      exact e c5 ⟨k, by omega⟩
    by_cases cc : s < 60
    · have e := chk_e ⟨(s - 48).toNat, by omega⟩
      rw [show (((⟨(s - 48).toNat, by omega⟩ : Fin 12) : Nat) : Int) + 48 = s by show ((s - 48).toNat : Int) + 48 = s; omega] at e
      exact e c5 ⟨k, by omega⟩
    by_cases cd : s < 63
    · have e := chk_f ⟨(s - 60).toNat, by omega⟩
      rw [show (((⟨(s - 60).toNat, by omega⟩ : Fin 3) : Nat) : Int) + 60 = s by show ((s - 60).toNat : Int) + 60 = s; omega] at e
      exact e c5 ⟨k, by omega⟩
    · have e63 : s = 63 := by omega
      subst e63
      exact absurd c5 (by decide)
  · have e := pc_63 ⟨s.toNat, by omega⟩
    rw [show (((⟨s.toNat, by omega⟩ : Fin 64) : Nat) : Int) = s from Int.toNat_of_nonneg hs.1] at e
    have e63 : s.toNat = 63 := e (by omega)
    have e64 : s = 63 := by omega
    subst e64
    by_cases k5 : k < 5
    · exact chk_g ⟨k, k5⟩
    · by_cases k6 : k = 5
      · rw [k6]; exact chk_h
      · rw [show k = 6 by omega]; exact chk_j
