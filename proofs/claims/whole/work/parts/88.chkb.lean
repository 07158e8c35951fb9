theorem chk_d : ∀ s : Fin 48, pc_ ((s : Nat) : Int) = 5 → ∀ k : Fin 6, chk_ ((s : Nat) : Int) (k : Nat) = true := by decide +kernel
theorem chk_e : ∀ s : Fin 12, pc_ (((s : Nat) : Int) + 48) = 5 → ∀ k : Fin 6, chk_ (((s : Nat) : Int) + 48) (k : Nat) = true := by decide +kernel
theorem chk_f : ∀ s : Fin 3, pc_ (((s : Nat) : Int) + 60) = 5 → ∀ k : Fin 6, chk_ (((s : Nat) : Int) + 60) (k : Nat) = true := by decide +kernel
