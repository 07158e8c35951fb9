theorem chk_g : ∀ k : Fin 5, chk_ 63 (k : Nat) = true := by decide +kernel
theorem chk_h : chk_ 63 5 = true := by decide +kernel
theorem chk_j : chk_ 63 6 = true := by decide +kernel
