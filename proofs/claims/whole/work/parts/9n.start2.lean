/-! the first world, as the logic has it -/
def ha_ : SH_ := fun k _ => if k = 2 then -1 else if k = 69 then -1000000 else 0
theorem ha_0 {k j : Int} (h1 : k ≠ 2) (h2 : k ≠ 69) : ha_ k j = 0 := by simp [ha_, h1, h2]
theorem ha_ok : sh_ok ha_ := fun k j => by
  unfold ha_
  split
  · exact ⟨by decide, by decide⟩
  · split
    · exact ⟨by decide, by decide⟩
    · exact ⟨by decide, by decide⟩
def al_ (a : Nat) (u : Nat → Nat) (a2 : Nat) (u2 : Nat → Nat) : Nat → Nat := fun k => if k = 0 then a else if k < 68 then u k else if k = 68 then a2 else u2 (k - 68)
def wl_ (n : NG_) (a : Nat) (u : Nat → Nat) (a2 : Nat) (u2 : Nat → Nat) : va_W := [] ++ wX8 n a u ++ wX9 n a2 u2
def pq9_ (k : Nat) : Nat := if k < 23 then k else if k < 39 then k + 29 else if k < 68 then k - 16 else k
theorem st_ {P : Nat → Prop} {n : Nat} (h : ∀ k, k < n → P k) (hn : P n) : ∀ k, k < n + 1 → P k := fun k hk => (Nat.lt_or_ge k n).elim (h k) (fun z => by rw [show k = n by omega]; exact hn)
theorem st_0 {P : Nat → Prop} : ∀ k, k < 0 → P k := fun k h => absurd h (by omega)
section AL_
variable {n : NG_} {a : Nat} {u : Nat → Nat} {a2 : Nat} {u2 : Nat → Nat}
theorem al_w : ∀ k, k < 83 → ∃ E, (wl_ n a u a2 u2)[pq9_ k]? = some (al_ a u a2 u2 k, E) := (st_ (n := 82) (st_ (n := 81) (st_ (n := 80) (st_ (n := 79) (st_ (n := 78) (st_ (n := 77) (st_ (n := 76) (st_ (n := 75) (st_ (n := 74) (st_ (n := 73) (st_ (n := 72) (st_ (n := 71) (st_ (n := 70) (st_ (n := 69) (st_ (n := 68) (st_ (n := 67) (st_ (n := 66) (st_ (n := 65) (st_ (n := 64) (st_ (n := 63) (st_ (n := 62) (st_ (n := 61) (st_ (n := 60) (st_ (n := 59) (st_ (n := 58) (st_ (n := 57) (st_ (n := 56) (st_ (n := 55) (st_ (n := 54) (st_ (n := 53) (st_ (n := 52) (st_ (n := 51) (st_ (n := 50) (st_ (n := 49) (st_ (n := 48) (st_ (n := 47) (st_ (n := 46) (st_ (n := 45) (st_ (n := 44) (st_ (n := 43) (st_ (n := 42) (st_ (n := 41) (st_ (n := 40) (st_ (n := 39) (st_ (n := 38) (st_ (n := 37) (st_ (n := 36) (st_ (n := 35) (st_ (n := 34) (st_ (n := 33) (st_ (n := 32) (st_ (n := 31) (st_ (n := 30) (st_ (n := 29) (st_ (n := 28) (st_ (n := 27) (st_ (n := 26) (st_ (n := 25) (st_ (n := 24) (st_ (n := 23) (st_ (n := 22) (st_ (n := 21) (st_ (n := 20) (st_ (n := 19) (st_ (n := 18) (st_ (n := 17) (st_ (n := 16) (st_ (n := 15) (st_ (n := 14) (st_ (n := 13) (st_ (n := 12) (st_ (n := 11) (st_ (n := 10) (st_ (n := 9) (st_ (n := 8) (st_ (n := 7) (st_ (n := 6) (st_ (n := 5) (st_ (n := 4) (st_ (n := 3) (st_ (n := 2) (st_ (n := 1) (st_ (n := 0) st_0 ⟨_, rfl⟩) ⟨_, rfl⟩) ⟨_, rfl⟩) ⟨_, rfl⟩) ⟨_, rfl⟩) ⟨_, rfl⟩) ⟨_, rfl⟩) ⟨_, rfl⟩) ⟨_, rfl⟩) ⟨_, rfl⟩) ⟨_, rfl⟩) ⟨_, rfl⟩) ⟨_, rfl⟩) ⟨_, rfl⟩) ⟨_, rfl⟩) ⟨_, rfl⟩) ⟨_, rfl⟩) ⟨_, rfl⟩) ⟨_, rfl⟩) ⟨_, rfl⟩) ⟨_, rfl⟩) ⟨_, rfl⟩) ⟨_, rfl⟩) ⟨_, rfl⟩) ⟨_, rfl⟩) ⟨_, rfl⟩) ⟨_, rfl⟩) ⟨_, rfl⟩) ⟨_, rfl⟩) ⟨_, rfl⟩) ⟨_, rfl⟩) ⟨_, rfl⟩) ⟨_, rfl⟩) ⟨_, rfl⟩) ⟨_, rfl⟩) ⟨_, rfl⟩) ⟨_, rfl⟩) ⟨_, rfl⟩) ⟨_, rfl⟩) ⟨_, rfl⟩) ⟨_, rfl⟩) ⟨_, rfl⟩) ⟨_, rfl⟩) ⟨_, rfl⟩) ⟨_, rfl⟩) ⟨_, rfl⟩) ⟨_, rfl⟩) ⟨_, rfl⟩) ⟨_, rfl⟩) ⟨_, rfl⟩) ⟨_, rfl⟩) ⟨_, rfl⟩) ⟨_, rfl⟩) ⟨_, rfl⟩) ⟨_, rfl⟩) ⟨_, rfl⟩) ⟨_, rfl⟩) ⟨_, rfl⟩) ⟨_, rfl⟩) ⟨_, rfl⟩) ⟨_, rfl⟩) ⟨_, rfl⟩) ⟨_, rfl⟩) ⟨_, rfl⟩) ⟨_, rfl⟩) ⟨_, rfl⟩) ⟨_, rfl⟩) ⟨_, rfl⟩) ⟨_, rfl⟩) ⟨_, rfl⟩) ⟨_, rfl⟩) ⟨_, rfl⟩) ⟨_, rfl⟩) ⟨_, rfl⟩) ⟨_, rfl⟩) ⟨_, rfl⟩) ⟨_, rfl⟩) ⟨_, rfl⟩) ⟨_, rfl⟩) ⟨_, rfl⟩) ⟨_, rfl⟩) ⟨_, rfl⟩) ⟨_, rfl⟩)
theorem al_j {A : Nat → Prop} (hD : va_D A (wl_ n a u a2 u2)) : (∀ i j, i < 83 → j < 83 → al_ a u a2 u2 i = al_ a u a2 u2 j → i = j) ∧ ∀ i, i < 83 → A (al_ a u a2 u2 i) := by
  refine ⟨fun i j hi hj e => ?_, fun i hi => ?_⟩
  · obtain ⟨E1, e1⟩ := al_w (n := n) (a := a) (u := u) (a2 := a2) (u2 := u2) i hi
    obtain ⟨E2, e2⟩ := al_w (n := n) (a := a) (u := u) (a2 := a2) (u2 := u2) j hj
    have z := hD.1 _ _ _ _ e1 e2 e
    unfold pq9_ at z
    split at z <;> split at z <;> first | omega | skip
    all_goals (repeat' split at z) <;> omega
  · obtain ⟨E1, e1⟩ := al_w (n := n) (a := a) (u := u) (a2 := a2) (u2 := u2) i hi
    exact hD.2 _ _ e1
def gl_ (n : NG_) (a : Nat) (u : Nat → Nat) (a2 : Nat) (u2 : Nat → Nat) (x : Nat → Nat) (X : Nat → Nat × (Nat → Int)) (B : Nat) : SG_ := (ng_l n, ng_D n, al_ a u a2 u2, x, X, (ng_I n, ng_Z n, ng_M n, ng_T n), B)
variable {x : Nat → Nat} {X : Nat → Nat × (Nat → Int)} {B : Nat} {H : Heap}
theorem arrV_c {cA : ClassId} {N : Nat} {f f2 : Nat → Value} (h : ∀ j, j < N → f j = f2 j) : arrV cA N f = arrV cA N f2 := by
  unfold arrV
  congr 2
  funext j
  exact h j.val j.isLt
theorem at_I {g : SG_} {q N : Nat} {c : ClassId} {k : Int} {f : Nat → Int32} (hc : c = sg_I g) (he : ∀ j : Nat, j < N → f j = Int32.ofInt (ha_ k j)) (h : va_at (sg_D g) vwCl (q, .inl (c, N, .inl f)) H) : va_at (sg_D g) vwCl (q, sw_e g (0, N) k ha_) H := by
  subst hc
  show H[q]? = some (arrV (sg_I g) N (fun j => .int (Int32.ofInt (ha_ k j))))
  rw [show H[q]? = some (arrV (sg_I g) N (fun j => .int (f j))) from h, arrV_c (fun j hj => by rw [he j hj])]
theorem at_I0 {g : SG_} {q N : Nat} {c : ClassId} {k : Int} (hc : c = sg_I g) (h2 : k ≠ 2) (h6 : k ≠ 69) (h : va_at (sg_D g) vwCl (q, .inl (c, N, .inl (fun _ => 0))) H) : va_at (sg_D g) vwCl (q, sw_e g (0, N) k ha_) H := at_I hc (fun j _ => by rw [ha_0 h2 h6]; rfl) h
theorem at_Z0 {g : SG_} {q N : Nat} {c : ClassId} {k : Int} (hc : c = sg_Z g) (h2 : k ≠ 2) (h6 : k ≠ 69) (h : va_at (sg_D g) vwCl (q, .inl (c, N, .inl (fun _ => 0))) H) : va_at (sg_D g) vwCl (q, sw_e g (1, N) k ha_) H := by
  subst hc
  show H[q]? = some (arrV (sg_Z g) N (fun j => .int (Int32.ofInt (ha_ k j))))
  rw [show H[q]? = some (arrV (sg_Z g) N (fun j => .int 0)) from h, arrV_c (f2 := fun j : Nat => .int (Int32.ofInt (ha_ k j))) (fun j hj => by show Value.int 0 = .int (Int32.ofInt (ha_ k j)); rw [ha_0 h2 h6]; rfl)]
theorem at_M {g : SG_} {q N : Nat} {c : ClassId} {k : Int} {f : Nat → Option Nat} (hc : c = sg_M g) (he : ∀ j : Nat, j < N → f j = some (sg_a g (52 + 2 * j))) (h : va_at (sg_D g) vwCl (q, .inl (c, N, .inr (.inr (.inr (.inr f))))) H) : va_at (sg_D g) vwCl (q, sw_e g (2, N) k ha_) H := by
  subst hc
  show H[q]? = some (arrV (sg_M g) N (fun j => va_rf (some (sg_a g (52 + 2 * j)))))
  rw [show H[q]? = some (arrV (sg_M g) N (fun j => va_rf (f j))) from h, arrV_c (fun j hj => by rw [he j hj])]
theorem at_T {g : SG_} {q N : Nat} {c : ClassId} {k : Int} {f : Nat → Option Nat} (hc : c = sg_T g) (he : ∀ j : Nat, j < N → f j = some (sg_a g (23 + 8 * j))) (h : va_at (sg_D g) vwCl (q, .inl (c, N, .inr (.inr (.inr (.inr f))))) H) : va_at (sg_D g) vwCl (q, sw_e g (3, N) k ha_) H := by
  subst hc
  show H[q]? = some (arrV (sg_T g) N (fun j => va_rf (some (sg_a g (23 + 8 * j)))))
  rw [show H[q]? = some (arrV (sg_T g) N (fun j => va_rf (f j))) from h, arrV_c (fun j hj => by rw [he j hj])]
theorem ac_0 (P : va_P (ng_D n) vwCl (wl_ n a u a2 u2) H) : va_at (ng_D n) vwCl (al_ a u a2 u2 0, sw_e (gl_ n a u a2 u2 x X B) (4, 7) ((0 : Nat) : Int) ha_) H := P 0 _ rfl
theorem ac_1 (P : va_P (ng_D n) vwCl (wl_ n a u a2 u2) H) : va_at (ng_D n) vwCl (al_ a u a2 u2 1, sw_e (gl_ n a u a2 u2 x X B) (4, 5) ((1 : Nat) : Int) ha_) H := P 1 _ rfl
theorem ac_2 (P : va_P (ng_D n) vwCl (wl_ n a u a2 u2) H) : va_at (ng_D n) vwCl (al_ a u a2 u2 2, sw_e (gl_ n a u a2 u2 x X B) (0, 8) ((2 : Nat) : Int) ha_) H := at_I (g := (gl_ n a u a2 u2 x X B)) rfl (st_ (n := 7) (st_ (n := 6) (st_ (n := 5) (st_ (n := 4) (st_ (n := 3) (st_ (n := 2) (st_ (n := 1) (st_ (n := 0) st_0 rfl) rfl) rfl) rfl) rfl) rfl) rfl) rfl) (P 2 _ rfl)
theorem ac_3 (P : va_P (ng_D n) vwCl (wl_ n a u a2 u2) H) : va_at (ng_D n) vwCl (al_ a u a2 u2 3, sw_e (gl_ n a u a2 u2 x X B) (0, 8) ((3 : Nat) : Int) ha_) H := at_I0 (g := (gl_ n a u a2 u2 x X B)) rfl (by decide) (by decide) (P 3 _ rfl)
theorem ac_4 (P : va_P (ng_D n) vwCl (wl_ n a u a2 u2) H) : va_at (ng_D n) vwCl (al_ a u a2 u2 4, sw_e (gl_ n a u a2 u2 x X B) (0, 320) ((4 : Nat) : Int) ha_) H := at_I0 (g := (gl_ n a u a2 u2 x X B)) rfl (by decide) (by decide) (P 4 _ rfl)
theorem ac_5 (P : va_P (ng_D n) vwCl (wl_ n a u a2 u2) H) : va_at (ng_D n) vwCl (al_ a u a2 u2 5, sw_e (gl_ n a u a2 u2 x X B) (4, 4) ((5 : Nat) : Int) ha_) H := P 5 _ rfl
theorem ac_6 (P : va_P (ng_D n) vwCl (wl_ n a u a2 u2) H) : va_at (ng_D n) vwCl (al_ a u a2 u2 6, sw_e (gl_ n a u a2 u2 x X B) (0, 120) ((6 : Nat) : Int) ha_) H := at_I0 (g := (gl_ n a u a2 u2 x X B)) rfl (by decide) (by decide) (P 6 _ rfl)
theorem ac_7 (P : va_P (ng_D n) vwCl (wl_ n a u a2 u2) H) : va_at (ng_D n) vwCl (al_ a u a2 u2 7, sw_e (gl_ n a u a2 u2 x X B) (4, 6) ((7 : Nat) : Int) ha_) H := P 7 _ rfl
theorem ac_8 (P : va_P (ng_D n) vwCl (wl_ n a u a2 u2) H) : va_at (ng_D n) vwCl (al_ a u a2 u2 8, sw_e (gl_ n a u a2 u2 x X B) (0, 6) ((8 : Nat) : Int) ha_) H := at_I0 (g := (gl_ n a u a2 u2 x X B)) rfl (by decide) (by decide) (P 8 _ rfl)
theorem ac_9 (P : va_P (ng_D n) vwCl (wl_ n a u a2 u2) H) : va_at (ng_D n) vwCl (al_ a u a2 u2 9, sw_e (gl_ n a u a2 u2 x X B) (0, 6) ((9 : Nat) : Int) ha_) H := at_I0 (g := (gl_ n a u a2 u2 x X B)) rfl (by decide) (by decide) (P 9 _ rfl)
theorem ac_10 (P : va_P (ng_D n) vwCl (wl_ n a u a2 u2) H) : va_at (ng_D n) vwCl (al_ a u a2 u2 10, sw_e (gl_ n a u a2 u2 x X B) (0, 6) ((10 : Nat) : Int) ha_) H := at_I0 (g := (gl_ n a u a2 u2 x X B)) rfl (by decide) (by decide) (P 10 _ rfl)
theorem ac_11 (P : va_P (ng_D n) vwCl (wl_ n a u a2 u2) H) : va_at (ng_D n) vwCl (al_ a u a2 u2 11, sw_e (gl_ n a u a2 u2 x X B) (0, 4) ((11 : Nat) : Int) ha_) H := at_I0 (g := (gl_ n a u a2 u2 x X B)) rfl (by decide) (by decide) (P 11 _ rfl)
theorem ac_12 (P : va_P (ng_D n) vwCl (wl_ n a u a2 u2) H) : va_at (ng_D n) vwCl (al_ a u a2 u2 12, sw_e (gl_ n a u a2 u2 x X B) (0, 4) ((12 : Nat) : Int) ha_) H := at_I0 (g := (gl_ n a u a2 u2 x X B)) rfl (by decide) (by decide) (P 12 _ rfl)
theorem ac_13 (P : va_P (ng_D n) vwCl (wl_ n a u a2 u2) H) : va_at (ng_D n) vwCl (al_ a u a2 u2 13, sw_e (gl_ n a u a2 u2 x X B) (0, 4) ((13 : Nat) : Int) ha_) H := at_I0 (g := (gl_ n a u a2 u2 x X B)) rfl (by decide) (by decide) (P 13 _ rfl)
theorem ac_14 (P : va_P (ng_D n) vwCl (wl_ n a u a2 u2) H) : va_at (ng_D n) vwCl (al_ a u a2 u2 14, sw_e (gl_ n a u a2 u2 x X B) (0, 4) ((14 : Nat) : Int) ha_) H := at_I0 (g := (gl_ n a u a2 u2 x X B)) rfl (by decide) (by decide) (P 14 _ rfl)
theorem ac_15 (P : va_P (ng_D n) vwCl (wl_ n a u a2 u2) H) : va_at (ng_D n) vwCl (al_ a u a2 u2 15, sw_e (gl_ n a u a2 u2 x X B) (4, 6) ((15 : Nat) : Int) ha_) H := P 15 _ rfl
theorem ac_16 (P : va_P (ng_D n) vwCl (wl_ n a u a2 u2) H) : va_at (ng_D n) vwCl (al_ a u a2 u2 16, sw_e (gl_ n a u a2 u2 x X B) (0, 6) ((16 : Nat) : Int) ha_) H := at_I0 (g := (gl_ n a u a2 u2 x X B)) rfl (by decide) (by decide) (P 16 _ rfl)
theorem ac_17 (P : va_P (ng_D n) vwCl (wl_ n a u a2 u2) H) : va_at (ng_D n) vwCl (al_ a u a2 u2 17, sw_e (gl_ n a u a2 u2 x X B) (0, 6) ((17 : Nat) : Int) ha_) H := at_I0 (g := (gl_ n a u a2 u2 x X B)) rfl (by decide) (by decide) (P 17 _ rfl)
theorem ac_18 (P : va_P (ng_D n) vwCl (wl_ n a u a2 u2) H) : va_at (ng_D n) vwCl (al_ a u a2 u2 18, sw_e (gl_ n a u a2 u2 x X B) (0, 6) ((18 : Nat) : Int) ha_) H := at_I0 (g := (gl_ n a u a2 u2 x X B)) rfl (by decide) (by decide) (P 18 _ rfl)
theorem ac_19 (P : va_P (ng_D n) vwCl (wl_ n a u a2 u2) H) : va_at (ng_D n) vwCl (al_ a u a2 u2 19, sw_e (gl_ n a u a2 u2 x X B) (0, 4) ((19 : Nat) : Int) ha_) H := at_I0 (g := (gl_ n a u a2 u2 x X B)) rfl (by decide) (by decide) (P 19 _ rfl)
theorem ac_20 (P : va_P (ng_D n) vwCl (wl_ n a u a2 u2) H) : va_at (ng_D n) vwCl (al_ a u a2 u2 20, sw_e (gl_ n a u a2 u2 x X B) (0, 4) ((20 : Nat) : Int) ha_) H := at_I0 (g := (gl_ n a u a2 u2 x X B)) rfl (by decide) (by decide) (P 20 _ rfl)
theorem ac_21 (P : va_P (ng_D n) vwCl (wl_ n a u a2 u2) H) : va_at (ng_D n) vwCl (al_ a u a2 u2 21, sw_e (gl_ n a u a2 u2 x X B) (0, 4) ((21 : Nat) : Int) ha_) H := at_I0 (g := (gl_ n a u a2 u2 x X B)) rfl (by decide) (by decide) (P 21 _ rfl)
theorem ac_22 (P : va_P (ng_D n) vwCl (wl_ n a u a2 u2) H) : va_at (ng_D n) vwCl (al_ a u a2 u2 22, sw_e (gl_ n a u a2 u2 x X B) (0, 4) ((22 : Nat) : Int) ha_) H := at_I0 (g := (gl_ n a u a2 u2 x X B)) rfl (by decide) (by decide) (P 22 _ rfl)
theorem ac_23 (P : va_P (ng_D n) vwCl (wl_ n a u a2 u2) H) : va_at (ng_D n) vwCl (al_ a u a2 u2 23, sw_e (gl_ n a u a2 u2 x X B) (4, 6) ((23 : Nat) : Int) ha_) H := P 52 _ rfl
theorem ac_24 (P : va_P (ng_D n) vwCl (wl_ n a u a2 u2) H) : va_at (ng_D n) vwCl (al_ a u a2 u2 24, sw_e (gl_ n a u a2 u2 x X B) (0, 6) ((24 : Nat) : Int) ha_) H := at_I0 (g := (gl_ n a u a2 u2 x X B)) rfl (by decide) (by decide) (P 53 _ rfl)
theorem ac_25 (P : va_P (ng_D n) vwCl (wl_ n a u a2 u2) H) : va_at (ng_D n) vwCl (al_ a u a2 u2 25, sw_e (gl_ n a u a2 u2 x X B) (0, 6) ((25 : Nat) : Int) ha_) H := at_I0 (g := (gl_ n a u a2 u2 x X B)) rfl (by decide) (by decide) (P 54 _ rfl)
theorem ac_26 (P : va_P (ng_D n) vwCl (wl_ n a u a2 u2) H) : va_at (ng_D n) vwCl (al_ a u a2 u2 26, sw_e (gl_ n a u a2 u2 x X B) (0, 6) ((26 : Nat) : Int) ha_) H := at_I0 (g := (gl_ n a u a2 u2 x X B)) rfl (by decide) (by decide) (P 55 _ rfl)
theorem ac_27 (P : va_P (ng_D n) vwCl (wl_ n a u a2 u2) H) : va_at (ng_D n) vwCl (al_ a u a2 u2 27, sw_e (gl_ n a u a2 u2 x X B) (0, 4) ((27 : Nat) : Int) ha_) H := at_I0 (g := (gl_ n a u a2 u2 x X B)) rfl (by decide) (by decide) (P 56 _ rfl)
theorem ac_28 (P : va_P (ng_D n) vwCl (wl_ n a u a2 u2) H) : va_at (ng_D n) vwCl (al_ a u a2 u2 28, sw_e (gl_ n a u a2 u2 x X B) (0, 4) ((28 : Nat) : Int) ha_) H := at_I0 (g := (gl_ n a u a2 u2 x X B)) rfl (by decide) (by decide) (P 57 _ rfl)
theorem ac_29 (P : va_P (ng_D n) vwCl (wl_ n a u a2 u2) H) : va_at (ng_D n) vwCl (al_ a u a2 u2 29, sw_e (gl_ n a u a2 u2 x X B) (0, 4) ((29 : Nat) : Int) ha_) H := at_I0 (g := (gl_ n a u a2 u2 x X B)) rfl (by decide) (by decide) (P 58 _ rfl)
theorem ac_30 (P : va_P (ng_D n) vwCl (wl_ n a u a2 u2) H) : va_at (ng_D n) vwCl (al_ a u a2 u2 30, sw_e (gl_ n a u a2 u2 x X B) (0, 4) ((30 : Nat) : Int) ha_) H := at_I0 (g := (gl_ n a u a2 u2 x X B)) rfl (by decide) (by decide) (P 59 _ rfl)
theorem ac_31 (P : va_P (ng_D n) vwCl (wl_ n a u a2 u2) H) : va_at (ng_D n) vwCl (al_ a u a2 u2 31, sw_e (gl_ n a u a2 u2 x X B) (4, 6) ((31 : Nat) : Int) ha_) H := P 60 _ rfl
theorem ac_32 (P : va_P (ng_D n) vwCl (wl_ n a u a2 u2) H) : va_at (ng_D n) vwCl (al_ a u a2 u2 32, sw_e (gl_ n a u a2 u2 x X B) (0, 6) ((32 : Nat) : Int) ha_) H := at_I0 (g := (gl_ n a u a2 u2 x X B)) rfl (by decide) (by decide) (P 61 _ rfl)
theorem ac_33 (P : va_P (ng_D n) vwCl (wl_ n a u a2 u2) H) : va_at (ng_D n) vwCl (al_ a u a2 u2 33, sw_e (gl_ n a u a2 u2 x X B) (0, 6) ((33 : Nat) : Int) ha_) H := at_I0 (g := (gl_ n a u a2 u2 x X B)) rfl (by decide) (by decide) (P 62 _ rfl)
theorem ac_34 (P : va_P (ng_D n) vwCl (wl_ n a u a2 u2) H) : va_at (ng_D n) vwCl (al_ a u a2 u2 34, sw_e (gl_ n a u a2 u2 x X B) (0, 6) ((34 : Nat) : Int) ha_) H := at_I0 (g := (gl_ n a u a2 u2 x X B)) rfl (by decide) (by decide) (P 63 _ rfl)
theorem ac_35 (P : va_P (ng_D n) vwCl (wl_ n a u a2 u2) H) : va_at (ng_D n) vwCl (al_ a u a2 u2 35, sw_e (gl_ n a u a2 u2 x X B) (0, 4) ((35 : Nat) : Int) ha_) H := at_I0 (g := (gl_ n a u a2 u2 x X B)) rfl (by decide) (by decide) (P 64 _ rfl)
theorem ac_36 (P : va_P (ng_D n) vwCl (wl_ n a u a2 u2) H) : va_at (ng_D n) vwCl (al_ a u a2 u2 36, sw_e (gl_ n a u a2 u2 x X B) (0, 4) ((36 : Nat) : Int) ha_) H := at_I0 (g := (gl_ n a u a2 u2 x X B)) rfl (by decide) (by decide) (P 65 _ rfl)
theorem ac_37 (P : va_P (ng_D n) vwCl (wl_ n a u a2 u2) H) : va_at (ng_D n) vwCl (al_ a u a2 u2 37, sw_e (gl_ n a u a2 u2 x X B) (0, 4) ((37 : Nat) : Int) ha_) H := at_I0 (g := (gl_ n a u a2 u2 x X B)) rfl (by decide) (by decide) (P 66 _ rfl)
theorem ac_38 (P : va_P (ng_D n) vwCl (wl_ n a u a2 u2) H) : va_at (ng_D n) vwCl (al_ a u a2 u2 38, sw_e (gl_ n a u a2 u2 x X B) (0, 4) ((38 : Nat) : Int) ha_) H := at_I0 (g := (gl_ n a u a2 u2 x X B)) rfl (by decide) (by decide) (P 67 _ rfl)
theorem ac_39 (P : va_P (ng_D n) vwCl (wl_ n a u a2 u2) H) : va_at (ng_D n) vwCl (al_ a u a2 u2 39, sw_e (gl_ n a u a2 u2 x X B) (3, 2) ((39 : Nat) : Int) ha_) H := at_T (g := (gl_ n a u a2 u2 x X B)) rfl (st_ (n := 1) (st_ (n := 0) st_0 rfl) rfl) (P 23 _ rfl)
theorem ac_40 (P : va_P (ng_D n) vwCl (wl_ n a u a2 u2) H) : va_at (ng_D n) vwCl (al_ a u a2 u2 40, sw_e (gl_ n a u a2 u2 x X B) (4, 0) ((40 : Nat) : Int) ha_) H := P 24 _ rfl
theorem ac_41 (P : va_P (ng_D n) vwCl (wl_ n a u a2 u2) H) : va_at (ng_D n) vwCl (al_ a u a2 u2 41, sw_e (gl_ n a u a2 u2 x X B) (0, 24) ((41 : Nat) : Int) ha_) H := at_I0 (g := (gl_ n a u a2 u2 x X B)) rfl (by decide) (by decide) (P 25 _ rfl)
theorem ac_42 (P : va_P (ng_D n) vwCl (wl_ n a u a2 u2) H) : va_at (ng_D n) vwCl (al_ a u a2 u2 42, sw_e (gl_ n a u a2 u2 x X B) (0, 24) ((42 : Nat) : Int) ha_) H := at_I0 (g := (gl_ n a u a2 u2 x X B)) rfl (by decide) (by decide) (P 26 _ rfl)
theorem ac_43 (P : va_P (ng_D n) vwCl (wl_ n a u a2 u2) H) : va_at (ng_D n) vwCl (al_ a u a2 u2 43, sw_e (gl_ n a u a2 u2 x X B) (0, 24) ((43 : Nat) : Int) ha_) H := at_I0 (g := (gl_ n a u a2 u2 x X B)) rfl (by decide) (by decide) (P 27 _ rfl)
theorem ac_44 (P : va_P (ng_D n) vwCl (wl_ n a u a2 u2) H) : va_at (ng_D n) vwCl (al_ a u a2 u2 44, sw_e (gl_ n a u a2 u2 x X B) (0, 24) ((44 : Nat) : Int) ha_) H := at_I0 (g := (gl_ n a u a2 u2 x X B)) rfl (by decide) (by decide) (P 28 _ rfl)
theorem ac_45 (P : va_P (ng_D n) vwCl (wl_ n a u a2 u2) H) : va_at (ng_D n) vwCl (al_ a u a2 u2 45, sw_e (gl_ n a u a2 u2 x X B) (0, 24) ((45 : Nat) : Int) ha_) H := at_I0 (g := (gl_ n a u a2 u2 x X B)) rfl (by decide) (by decide) (P 29 _ rfl)
theorem ac_46 (P : va_P (ng_D n) vwCl (wl_ n a u a2 u2) H) : va_at (ng_D n) vwCl (al_ a u a2 u2 46, sw_e (gl_ n a u a2 u2 x X B) (4, 2) ((46 : Nat) : Int) ha_) H := P 30 _ rfl
theorem ac_47 (P : va_P (ng_D n) vwCl (wl_ n a u a2 u2) H) : va_at (ng_D n) vwCl (al_ a u a2 u2 47, sw_e (gl_ n a u a2 u2 x X B) (2, 7) ((47 : Nat) : Int) ha_) H := at_M (g := (gl_ n a u a2 u2 x X B)) rfl (st_ (n := 6) (st_ (n := 5) (st_ (n := 4) (st_ (n := 3) (st_ (n := 2) (st_ (n := 1) (st_ (n := 0) st_0 rfl) rfl) rfl) rfl) rfl) rfl) rfl) (P 31 _ rfl)
theorem ac_48 (P : va_P (ng_D n) vwCl (wl_ n a u a2 u2) H) : va_at (ng_D n) vwCl (al_ a u a2 u2 48, sw_e (gl_ n a u a2 u2 x X B) (0, 6) ((48 : Nat) : Int) ha_) H := at_I0 (g := (gl_ n a u a2 u2 x X B)) rfl (by decide) (by decide) (P 32 _ rfl)
theorem ac_49 (P : va_P (ng_D n) vwCl (wl_ n a u a2 u2) H) : va_at (ng_D n) vwCl (al_ a u a2 u2 49, sw_e (gl_ n a u a2 u2 x X B) (0, 6) ((49 : Nat) : Int) ha_) H := at_I0 (g := (gl_ n a u a2 u2 x X B)) rfl (by decide) (by decide) (P 33 _ rfl)
theorem ac_50 (P : va_P (ng_D n) vwCl (wl_ n a u a2 u2) H) : va_at (ng_D n) vwCl (al_ a u a2 u2 50, sw_e (gl_ n a u a2 u2 x X B) (0, 6) ((50 : Nat) : Int) ha_) H := at_I0 (g := (gl_ n a u a2 u2 x X B)) rfl (by decide) (by decide) (P 34 _ rfl)
theorem ac_51 (P : va_P (ng_D n) vwCl (wl_ n a u a2 u2) H) : va_at (ng_D n) vwCl (al_ a u a2 u2 51, sw_e (gl_ n a u a2 u2 x X B) (0, 6) ((51 : Nat) : Int) ha_) H := at_I0 (g := (gl_ n a u a2 u2 x X B)) rfl (by decide) (by decide) (P 35 _ rfl)
theorem ac_52 (P : va_P (ng_D n) vwCl (wl_ n a u a2 u2) H) : va_at (ng_D n) vwCl (al_ a u a2 u2 52, sw_e (gl_ n a u a2 u2 x X B) (4, 3) ((52 : Nat) : Int) ha_) H := P 36 _ rfl
theorem ac_53 (P : va_P (ng_D n) vwCl (wl_ n a u a2 u2) H) : va_at (ng_D n) vwCl (al_ a u a2 u2 53, sw_e (gl_ n a u a2 u2 x X B) (0, 4) ((53 : Nat) : Int) ha_) H := at_I0 (g := (gl_ n a u a2 u2 x X B)) rfl (by decide) (by decide) (P 37 _ rfl)
theorem ac_54 (P : va_P (ng_D n) vwCl (wl_ n a u a2 u2) H) : va_at (ng_D n) vwCl (al_ a u a2 u2 54, sw_e (gl_ n a u a2 u2 x X B) (4, 3) ((54 : Nat) : Int) ha_) H := P 38 _ rfl
theorem ac_55 (P : va_P (ng_D n) vwCl (wl_ n a u a2 u2) H) : va_at (ng_D n) vwCl (al_ a u a2 u2 55, sw_e (gl_ n a u a2 u2 x X B) (0, 4) ((55 : Nat) : Int) ha_) H := at_I0 (g := (gl_ n a u a2 u2 x X B)) rfl (by decide) (by decide) (P 39 _ rfl)
theorem ac_56 (P : va_P (ng_D n) vwCl (wl_ n a u a2 u2) H) : va_at (ng_D n) vwCl (al_ a u a2 u2 56, sw_e (gl_ n a u a2 u2 x X B) (4, 3) ((56 : Nat) : Int) ha_) H := P 40 _ rfl
theorem ac_57 (P : va_P (ng_D n) vwCl (wl_ n a u a2 u2) H) : va_at (ng_D n) vwCl (al_ a u a2 u2 57, sw_e (gl_ n a u a2 u2 x X B) (0, 4) ((57 : Nat) : Int) ha_) H := at_I0 (g := (gl_ n a u a2 u2 x X B)) rfl (by decide) (by decide) (P 41 _ rfl)
theorem ac_58 (P : va_P (ng_D n) vwCl (wl_ n a u a2 u2) H) : va_at (ng_D n) vwCl (al_ a u a2 u2 58, sw_e (gl_ n a u a2 u2 x X B) (4, 3) ((58 : Nat) : Int) ha_) H := P 42 _ rfl
theorem ac_59 (P : va_P (ng_D n) vwCl (wl_ n a u a2 u2) H) : va_at (ng_D n) vwCl (al_ a u a2 u2 59, sw_e (gl_ n a u a2 u2 x X B) (0, 4) ((59 : Nat) : Int) ha_) H := at_I0 (g := (gl_ n a u a2 u2 x X B)) rfl (by decide) (by decide) (P 43 _ rfl)
theorem ac_60 (P : va_P (ng_D n) vwCl (wl_ n a u a2 u2) H) : va_at (ng_D n) vwCl (al_ a u a2 u2 60, sw_e (gl_ n a u a2 u2 x X B) (4, 3) ((60 : Nat) : Int) ha_) H := P 44 _ rfl
theorem ac_61 (P : va_P (ng_D n) vwCl (wl_ n a u a2 u2) H) : va_at (ng_D n) vwCl (al_ a u a2 u2 61, sw_e (gl_ n a u a2 u2 x X B) (0, 4) ((61 : Nat) : Int) ha_) H := at_I0 (g := (gl_ n a u a2 u2 x X B)) rfl (by decide) (by decide) (P 45 _ rfl)
theorem ac_62 (P : va_P (ng_D n) vwCl (wl_ n a u a2 u2) H) : va_at (ng_D n) vwCl (al_ a u a2 u2 62, sw_e (gl_ n a u a2 u2 x X B) (4, 3) ((62 : Nat) : Int) ha_) H := P 46 _ rfl
theorem ac_63 (P : va_P (ng_D n) vwCl (wl_ n a u a2 u2) H) : va_at (ng_D n) vwCl (al_ a u a2 u2 63, sw_e (gl_ n a u a2 u2 x X B) (0, 4) ((63 : Nat) : Int) ha_) H := at_I0 (g := (gl_ n a u a2 u2 x X B)) rfl (by decide) (by decide) (P 47 _ rfl)
theorem ac_64 (P : va_P (ng_D n) vwCl (wl_ n a u a2 u2) H) : va_at (ng_D n) vwCl (al_ a u a2 u2 64, sw_e (gl_ n a u a2 u2 x X B) (4, 3) ((64 : Nat) : Int) ha_) H := P 48 _ rfl
theorem ac_65 (P : va_P (ng_D n) vwCl (wl_ n a u a2 u2) H) : va_at (ng_D n) vwCl (al_ a u a2 u2 65, sw_e (gl_ n a u a2 u2 x X B) (0, 4) ((65 : Nat) : Int) ha_) H := at_I0 (g := (gl_ n a u a2 u2 x X B)) rfl (by decide) (by decide) (P 49 _ rfl)
theorem ac_66 (P : va_P (ng_D n) vwCl (wl_ n a u a2 u2) H) : va_at (ng_D n) vwCl (al_ a u a2 u2 66, sw_e (gl_ n a u a2 u2 x X B) (4, 1) ((66 : Nat) : Int) ha_) H := P 50 _ rfl
theorem ac_67 (P : va_P (ng_D n) vwCl (wl_ n a u a2 u2) H) : va_at (ng_D n) vwCl (al_ a u a2 u2 67, sw_e (gl_ n a u a2 u2 x X B) (0, 16) ((67 : Nat) : Int) ha_) H := at_I0 (g := (gl_ n a u a2 u2 x X B)) rfl (by decide) (by decide) (P 51 _ rfl)
theorem ac_68 (P : va_P (ng_D n) vwCl (wl_ n a u a2 u2) H) : va_at (ng_D n) vwCl (al_ a u a2 u2 68, sw_e (gl_ n a u a2 u2 x X B) (4, 8) ((68 : Nat) : Int) ha_) H := P 68 _ rfl
theorem ac_69 (P : va_P (ng_D n) vwCl (wl_ n a u a2 u2) H) : va_at (ng_D n) vwCl (al_ a u a2 u2 69, sw_e (gl_ n a u a2 u2 x X B) (0, 8) ((69 : Nat) : Int) ha_) H := at_I (g := (gl_ n a u a2 u2 x X B)) rfl (st_ (n := 7) (st_ (n := 6) (st_ (n := 5) (st_ (n := 4) (st_ (n := 3) (st_ (n := 2) (st_ (n := 1) (st_ (n := 0) st_0 rfl) rfl) rfl) rfl) rfl) rfl) rfl) rfl) (P 69 _ rfl)
theorem ac_70 (P : va_P (ng_D n) vwCl (wl_ n a u a2 u2) H) : va_at (ng_D n) vwCl (al_ a u a2 u2 70, sw_e (gl_ n a u a2 u2 x X B) (0, 8) ((70 : Nat) : Int) ha_) H := at_I0 (g := (gl_ n a u a2 u2 x X B)) rfl (by decide) (by decide) (P 70 _ rfl)
theorem ac_71 (P : va_P (ng_D n) vwCl (wl_ n a u a2 u2) H) : va_at (ng_D n) vwCl (al_ a u a2 u2 71, sw_e (gl_ n a u a2 u2 x X B) (0, 320) ((71 : Nat) : Int) ha_) H := at_I0 (g := (gl_ n a u a2 u2 x X B)) rfl (by decide) (by decide) (P 71 _ rfl)
theorem ac_72 (P : va_P (ng_D n) vwCl (wl_ n a u a2 u2) H) : va_at (ng_D n) vwCl (al_ a u a2 u2 72, sw_e (gl_ n a u a2 u2 x X B) (0, 40) ((72 : Nat) : Int) ha_) H := at_I0 (g := (gl_ n a u a2 u2 x X B)) rfl (by decide) (by decide) (P 72 _ rfl)
theorem ac_73 (P : va_P (ng_D n) vwCl (wl_ n a u a2 u2) H) : va_at (ng_D n) vwCl (al_ a u a2 u2 73, sw_e (gl_ n a u a2 u2 x X B) (0, 120) ((73 : Nat) : Int) ha_) H := at_I0 (g := (gl_ n a u a2 u2 x X B)) rfl (by decide) (by decide) (P 73 _ rfl)
theorem ac_74 (P : va_P (ng_D n) vwCl (wl_ n a u a2 u2) H) : va_at (ng_D n) vwCl (al_ a u a2 u2 74, sw_e (gl_ n a u a2 u2 x X B) (0, 38) ((74 : Nat) : Int) ha_) H := at_I0 (g := (gl_ n a u a2 u2 x X B)) rfl (by decide) (by decide) (P 74 _ rfl)
theorem ac_75 (P : va_P (ng_D n) vwCl (wl_ n a u a2 u2) H) : va_at (ng_D n) vwCl (al_ a u a2 u2 75, sw_e (gl_ n a u a2 u2 x X B) (0, 38) ((75 : Nat) : Int) ha_) H := at_I0 (g := (gl_ n a u a2 u2 x X B)) rfl (by decide) (by decide) (P 75 _ rfl)
theorem ac_76 (P : va_P (ng_D n) vwCl (wl_ n a u a2 u2) H) : va_at (ng_D n) vwCl (al_ a u a2 u2 76, sw_e (gl_ n a u a2 u2 x X B) (0, 912) ((76 : Nat) : Int) ha_) H := at_I0 (g := (gl_ n a u a2 u2 x X B)) rfl (by decide) (by decide) (P 76 _ rfl)
theorem ac_77 (P : va_P (ng_D n) vwCl (wl_ n a u a2 u2) H) : va_at (ng_D n) vwCl (al_ a u a2 u2 77, sw_e (gl_ n a u a2 u2 x X B) (0, 76) ((77 : Nat) : Int) ha_) H := at_I0 (g := (gl_ n a u a2 u2 x X B)) rfl (by decide) (by decide) (P 77 _ rfl)
theorem ac_78 (P : va_P (ng_D n) vwCl (wl_ n a u a2 u2) H) : va_at (ng_D n) vwCl (al_ a u a2 u2 78, sw_e (gl_ n a u a2 u2 x X B) (1, 2) ((78 : Nat) : Int) ha_) H := at_Z0 (g := (gl_ n a u a2 u2 x X B)) rfl (by decide) (by decide) (P 78 _ rfl)
theorem ac_79 (P : va_P (ng_D n) vwCl (wl_ n a u a2 u2) H) : va_at (ng_D n) vwCl (al_ a u a2 u2 79, sw_e (gl_ n a u a2 u2 x X B) (0, 16) ((79 : Nat) : Int) ha_) H := at_I0 (g := (gl_ n a u a2 u2 x X B)) rfl (by decide) (by decide) (P 79 _ rfl)
theorem ac_80 (P : va_P (ng_D n) vwCl (wl_ n a u a2 u2) H) : va_at (ng_D n) vwCl (al_ a u a2 u2 80, sw_e (gl_ n a u a2 u2 x X B) (0, 4) ((80 : Nat) : Int) ha_) H := at_I0 (g := (gl_ n a u a2 u2 x X B)) rfl (by decide) (by decide) (P 80 _ rfl)
theorem ac_81 (P : va_P (ng_D n) vwCl (wl_ n a u a2 u2) H) : va_at (ng_D n) vwCl (al_ a u a2 u2 81, sw_e (gl_ n a u a2 u2 x X B) (0, 6) ((81 : Nat) : Int) ha_) H := at_I0 (g := (gl_ n a u a2 u2 x X B)) rfl (by decide) (by decide) (P 81 _ rfl)
theorem ac_82 (P : va_P (ng_D n) vwCl (wl_ n a u a2 u2) H) : va_at (ng_D n) vwCl (al_ a u a2 u2 82, sw_e (gl_ n a u a2 u2 x X B) (0, 6) ((82 : Nat) : Int) ha_) H := at_I0 (g := (gl_ n a u a2 u2 x X B)) rfl (by decide) (by decide) (P 82 _ rfl)
theorem ac_all (P : va_P (ng_D n) vwCl (wl_ n a u a2 u2) H) : ∀ k, k < 83 → va_at (ng_D n) vwCl (al_ a u a2 u2 k, sw_e (gl_ n a u a2 u2 x X B) (sl_y.getD k (0, 0)) ((k : Nat) : Int) ha_) H := (st_ (n := 82) (st_ (n := 81) (st_ (n := 80) (st_ (n := 79) (st_ (n := 78) (st_ (n := 77) (st_ (n := 76) (st_ (n := 75) (st_ (n := 74) (st_ (n := 73) (st_ (n := 72) (st_ (n := 71) (st_ (n := 70) (st_ (n := 69) (st_ (n := 68) (st_ (n := 67) (st_ (n := 66) (st_ (n := 65) (st_ (n := 64) (st_ (n := 63) (st_ (n := 62) (st_ (n := 61) (st_ (n := 60) (st_ (n := 59) (st_ (n := 58) (st_ (n := 57) (st_ (n := 56) (st_ (n := 55) (st_ (n := 54) (st_ (n := 53) (st_ (n := 52) (st_ (n := 51) (st_ (n := 50) (st_ (n := 49) (st_ (n := 48) (st_ (n := 47) (st_ (n := 46) (st_ (n := 45) (st_ (n := 44) (st_ (n := 43) (st_ (n := 42) (st_ (n := 41) (st_ (n := 40) (st_ (n := 39) (st_ (n := 38) (st_ (n := 37) (st_ (n := 36) (st_ (n := 35) (st_ (n := 34) (st_ (n := 33) (st_ (n := 32) (st_ (n := 31) (st_ (n := 30) (st_ (n := 29) (st_ (n := 28) (st_ (n := 27) (st_ (n := 26) (st_ (n := 25) (st_ (n := 24) (st_ (n := 23) (st_ (n := 22) (st_ (n := 21) (st_ (n := 20) (st_ (n := 19) (st_ (n := 18) (st_ (n := 17) (st_ (n := 16) (st_ (n := 15) (st_ (n := 14) (st_ (n := 13) (st_ (n := 12) (st_ (n := 11) (st_ (n := 10) (st_ (n := 9) (st_ (n := 8) (st_ (n := 7) (st_ (n := 6) (st_ (n := 5) (st_ (n := 4) (st_ (n := 3) (st_ (n := 2) (st_ (n := 1) (st_ (n := 0) st_0 (ac_0 P)) (ac_1 P)) (ac_2 P)) (ac_3 P)) (ac_4 P)) (ac_5 P)) (ac_6 P)) (ac_7 P)) (ac_8 P)) (ac_9 P)) (ac_10 P)) (ac_11 P)) (ac_12 P)) (ac_13 P)) (ac_14 P)) (ac_15 P)) (ac_16 P)) (ac_17 P)) (ac_18 P)) (ac_19 P)) (ac_20 P)) (ac_21 P)) (ac_22 P)) (ac_23 P)) (ac_24 P)) (ac_25 P)) (ac_26 P)) (ac_27 P)) (ac_28 P)) (ac_29 P)) (ac_30 P)) (ac_31 P)) (ac_32 P)) (ac_33 P)) (ac_34 P)) (ac_35 P)) (ac_36 P)) (ac_37 P)) (ac_38 P)) (ac_39 P)) (ac_40 P)) (ac_41 P)) (ac_42 P)) (ac_43 P)) (ac_44 P)) (ac_45 P)) (ac_46 P)) (ac_47 P)) (ac_48 P)) (ac_49 P)) (ac_50 P)) (ac_51 P)) (ac_52 P)) (ac_53 P)) (ac_54 P)) (ac_55 P)) (ac_56 P)) (ac_57 P)) (ac_58 P)) (ac_59 P)) (ac_60 P)) (ac_61 P)) (ac_62 P)) (ac_63 P)) (ac_64 P)) (ac_65 P)) (ac_66 P)) (ac_67 P)) (ac_68 P)) (ac_69 P)) (ac_70 P)) (ac_71 P)) (ac_72 P)) (ac_73 P)) (ac_74 P)) (ac_75 P)) (ac_76 P)) (ac_77 P)) (ac_78 P)) (ac_79 P)) (ac_80 P)) (ac_81 P)) (ac_82 P))
theorem ac_P (P : va_P (ng_D n) vwCl (wl_ n a u a2 u2) H) : va_P (sg_D (gl_ n a u a2 u2 x X B)) vwCl (sw_l (gl_ n a u a2 u2 x X B) ha_) H := by
  intro k q hk
  unfold sw_l at hk
  rw [List.getElem?_map] at hk
  by_cases hi : k < 83
  · rw [List.getElem?_range hi] at hk
    cases hk
    exact ac_all P k hi
  · rw [List.getElem?_eq_none (by simpa using hi)] at hk
    cases hk
end AL_
