/-! the rows come one behind another: looked through, all 5296 of them (a: sets of four and fewer) -/
theorem chk_a : ∀ s : Fin 64, pc_ ((s : Nat) : Int) ≤ 3 → ∀ k : Fin 4, ((k : Nat) : Int) ≤ pc_ ((s : Nat) : Int) → chk_ ((s : Nat) : Int) (k : Nat) = true := by decide +kernel
theorem chk_b : ∀ s : Fin 32, pc_ ((s : Nat) : Int) = 4 → ∀ k : Fin 5, chk_ ((s : Nat) : Int) (k : Nat) = true := by decide +kernel
theorem chk_c : ∀ s : Fin 32, pc_ (((s : Nat) : Int) + 32) = 4 → ∀ k : Fin 5, chk_ (((s : Nat) : Int) + 32) (k : Nat) = true := by decide +kernel
