/-! the first world keeps what ties the two; what lies outside -/
theorem ha_J : J_ ha_ := by
  have e72 : ha_ 7 2 = 0 := rfl
  have e73 : ha_ 7 3 = 0 := rfl
  have e51 : ha_ 5 1 = 0 := rfl
  have e66 : ha_ 66 1 = 0 := rfl
  have e40 : ha_ 40 6 = 0 := rfl
  refine ⟨⟨⟨⟨by decide, by decide⟩, ⟨by decide, by decide⟩, ⟨by decide, by decide⟩, fun l l0 l1 => absurd l1 (by omega), fun s s0 s1 => absurd s1 (by omega)⟩, ⟨rfl, rfl, rfl, rfl⟩, fun l l0 l1 => absurd l1 (by omega), fun s s0 s1 => absurd s1 (by omega)⟩, ?_, ⟨⟨by decide, by decide⟩, rfl, fun i i0 i1 => absurd i1 (by omega)⟩, rfl, ⟨⟨by decide, by decide⟩, rfl, rfl, fun i i0 i1 => absurd i1 (by omega)⟩, ?_, ⟨⟨by decide, by decide⟩, rfl, ⟨by decide, by decide⟩, fun i i0 i1 => absurd i1 (by omega)⟩⟩
  · intro r r0 r1
    have e3 : ha_ 3 r = 0 := rfl
    have e70 : ha_ 70 r = 0 := rfl
    exact ⟨⟨by omega, by omega⟩, ⟨by omega, by omega⟩, Or.inl ⟨rfl, rfl⟩⟩
  · intro k k0 k1
    have e2 : ha_ (23 + 8 * k) 0 = 0 := ha_0 (by omega) (by omega)
    exact Or.inl ⟨rfl, by omega⟩
theorem sx_r (i j : Nat) : sr_32 (sx_f i j) := by
  have key : ∀ l : List Int, (∀ x ∈ l, sr_32 x) → sr_32 (l.getD j 0) := fun l hl => by
    rw [List.getD_eq_getElem?_getD]
    cases hj : l[j]? with
    | none => exact sr_320
    | some y => exact hl y (List.mem_of_getElem? hj)
  unfold sx_f
  refine key _ ?_
  split
  · intro x hx
    simp only [List.mem_cons, List.mem_nil_iff, or_false] at hx
    unfold sr_32
    omega
  · split
    · intro x hx
      simp only [List.mem_cons, List.mem_nil_iff, or_false] at hx
      unfold sr_32
      omega
    · intro x hx
      simp only [List.mem_cons, List.mem_nil_iff, or_false] at hx
      unfold sr_32
      omega
section SX_
variable {args : Array Value} {s : State} {A : Nat → Prop}
theorem sx_T0 (hs : ∀ w ∈ flatC (Jvm.Cond.and given_1 narrow_1), w.before args s = true) (hA : ∀ a : Nat, a < s.heap.size → ¬ A a) : ∃ t : Nat, (Term.static "NodBets$Kinds" "ABOVE" "[I").eval args s none [] s = some (.ref t) ∧ va_T .int t 6 (fun j => .int (Int32.ofInt (sx_f 0 j))) A s s.heap := by
  refine va_Tof (by decide) (hs (Cond.arrayOf (.static "NodBets$Kinds" "ABOVE" "[I") .int) (by decide +kernel)) (Cond.eq_int (hs (Cond.eq (.length (.static "NodBets$Kinds" "ABOVE" "[I")) (.int 6)) (by decide +kernel)) rfl) ?_ hA
  exact (st_ (n := 5) (st_ (n := 4) (st_ (n := 3) (st_ (n := 2) (st_ (n := 1) (st_ (n := 0) st_0 (Cond.eq_int (hs (Cond.eq (.elem (.static "NodBets$Kinds" "ABOVE" "[I") (.int 0)) (.int 0)) (by decide +kernel)) rfl)) (Cond.eq_int (hs (Cond.eq (.elem (.static "NodBets$Kinds" "ABOVE" "[I") (.int 1)) (.int 0)) (by decide +kernel)) rfl)) (Cond.eq_int (hs (Cond.eq (.elem (.static "NodBets$Kinds" "ABOVE" "[I") (.int 2)) (.int 1)) (by decide +kernel)) rfl)) (Cond.eq_int (hs (Cond.eq (.elem (.static "NodBets$Kinds" "ABOVE" "[I") (.int 3)) (.int 1)) (by decide +kernel)) rfl)) (Cond.eq_int (hs (Cond.eq (.elem (.static "NodBets$Kinds" "ABOVE" "[I") (.int 4)) (.int 0)) (by decide +kernel)) rfl)) (Cond.eq_int (hs (Cond.eq (.elem (.static "NodBets$Kinds" "ABOVE" "[I") (.int 5)) (.int 4)) (by decide +kernel)) rfl))
theorem sx_T1 (hs : ∀ w ∈ flatC (Jvm.Cond.and given_1 narrow_1), w.before args s = true) (hA : ∀ a : Nat, a < s.heap.size → ¬ A a) : ∃ t : Nat, (Term.static "NodBets$Asks" "SIZE_BODIES" "[I").eval args s none [] s = some (.ref t) ∧ va_T .int t 6 (fun j => .int (Int32.ofInt (sx_f 1 j))) A s s.heap := by
  refine va_Tof (by decide) (hs (Cond.arrayOf (.static "NodBets$Asks" "SIZE_BODIES" "[I") .int) (by decide +kernel)) (Cond.eq_int (hs (Cond.eq (.length (.static "NodBets$Asks" "SIZE_BODIES" "[I")) (.int 6)) (by decide +kernel)) rfl) ?_ hA
  exact (st_ (n := 5) (st_ (n := 4) (st_ (n := 3) (st_ (n := 2) (st_ (n := 1) (st_ (n := 0) st_0 (Cond.eq_int (hs (Cond.eq (.elem (.static "NodBets$Asks" "SIZE_BODIES" "[I") (.int 0)) (.int 10)) (by decide +kernel)) rfl)) (Cond.eq_int (hs (Cond.eq (.elem (.static "NodBets$Asks" "SIZE_BODIES" "[I") (.int 1)) (.int 11)) (by decide +kernel)) rfl)) (Cond.eq_int (hs (Cond.eq (.elem (.static "NodBets$Asks" "SIZE_BODIES" "[I") (.int 2)) (.int 12)) (by decide +kernel)) rfl)) (Cond.eq_int (hs (Cond.eq (.elem (.static "NodBets$Asks" "SIZE_BODIES" "[I") (.int 3)) (.int 0)) (by decide +kernel)) rfl)) (Cond.eq_int (hs (Cond.eq (.elem (.static "NodBets$Asks" "SIZE_BODIES" "[I") (.int 4)) (.int 13)) (by decide +kernel)) rfl)) (Cond.eq_int (hs (Cond.eq (.elem (.static "NodBets$Asks" "SIZE_BODIES" "[I") (.int 5)) (.int 14)) (by decide +kernel)) rfl))
theorem sx_T2 (hs : ∀ w ∈ flatC (Jvm.Cond.and given_1 narrow_1), w.before args s = true) (hA : ∀ a : Nat, a < s.heap.size → ¬ A a) : ∃ t : Nat, (Term.static "NodBets$Asks" "MARK_BODIES" "[I").eval args s none [] s = some (.ref t) ∧ va_T .int t 6 (fun j => .int (Int32.ofInt (sx_f 2 j))) A s s.heap := by
  refine va_Tof (by decide) (hs (Cond.arrayOf (.static "NodBets$Asks" "MARK_BODIES" "[I") .int) (by decide +kernel)) (Cond.eq_int (hs (Cond.eq (.length (.static "NodBets$Asks" "MARK_BODIES" "[I")) (.int 6)) (by decide +kernel)) rfl) ?_ hA
  exact (st_ (n := 5) (st_ (n := 4) (st_ (n := 3) (st_ (n := 2) (st_ (n := 1) (st_ (n := 0) st_0 (Cond.eq_int (hs (Cond.eq (.elem (.static "NodBets$Asks" "MARK_BODIES" "[I") (.int 0)) (.int 20)) (by decide +kernel)) rfl)) (Cond.eq_int (hs (Cond.eq (.elem (.static "NodBets$Asks" "MARK_BODIES" "[I") (.int 1)) (.int 21)) (by decide +kernel)) rfl)) (Cond.eq_int (hs (Cond.eq (.elem (.static "NodBets$Asks" "MARK_BODIES" "[I") (.int 2)) (.int 24)) (by decide +kernel)) rfl)) (Cond.eq_int (hs (Cond.eq (.elem (.static "NodBets$Asks" "MARK_BODIES" "[I") (.int 3)) (.int 22)) (by decide +kernel)) rfl)) (Cond.eq_int (hs (Cond.eq (.elem (.static "NodBets$Asks" "MARK_BODIES" "[I") (.int 4)) (.int 23)) (by decide +kernel)) rfl)) (Cond.eq_int (hs (Cond.eq (.elem (.static "NodBets$Asks" "MARK_BODIES" "[I") (.int 5)) (.int 0)) (by decide +kernel)) rfl))
end SX_
theorem va_XT {b L : Nat} {xs : Nat → Int32} {s : State} {A : Nat → Prop} (h : va_X b L xs s s.heap) (hA : ¬ A b) : va_T .int b L (fun j => .int (Int32.ofInt (xs j).toInt)) A s s.heap := by
  obtain ⟨scr, h1, h2, h3, h4, h5⟩ := h
  refine ⟨scr, h1, h2, h3, Nat.le_of_eq h4.symm, by rw [h4], fun j hj => ?_, hA⟩
  rw [h5 j hj]
  show some (Value.int (xs j)) = some (.int (Int32.ofInt (xs j).toInt))
  rw [Int32.ofInt_toInt]
