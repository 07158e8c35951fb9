/-! A program logic over W: ints as Int, the heap a function of cell and slot, all references fixed (nothing is made after the constructors). -/
/-- the tables' words that last -/
def lw_g : List Cond := lw_tbl.filter goodWord
theorem lw_gm {w : Cond} (i : Nat) (h : lw_tbl[i]? = some w) (hg : goodWord w = true) : w ∈ lw_g := List.mem_filter.mpr ⟨List.mem_of_getElem? h, hg⟩
theorem lw_gt : ∀ w ∈ lw_g, w ∈ lw_tbl := fun _ h => (List.mem_filter.mp h).1
theorem lw_gg : ∀ w ∈ lw_g, goodWord w = true := fun _ h => (List.mem_filter.mp h).2
abbrev SV_ : Type := Int ⊕ (Int ⊕ ((Nat × Nat) × Int))
abbrev SH_ : Type := Int → Int → Int
abbrev SG_ : Type := Launch × va_G × (Nat → Nat) × (Nat → Nat) × (Nat → Nat × (Nat → Int)) × (ClassId × ClassId × ClassId × ClassId) × Nat
abbrev MD_ : Type := MethodName × ByteArray × Nat × Option FieldType × Nat
abbrev sv_i (x : Int) : SV_ := .inl x
abbrev sv_l (x : Int) : SV_ := .inr (.inl x)
abbrev sv_r (c n : Nat) (k : Int) : SV_ := .inr (.inr ((c, n), k))
def sg_l (g : SG_) : Launch := g.1
def sg_D (g : SG_) : va_G := g.2.1
def sg_a (g : SG_) : Nat → Nat := g.2.2.1
def sg_x (g : SG_) : Nat → Nat := g.2.2.2.1
def sg_X (g : SG_) : Nat → Nat × (Nat → Int) := g.2.2.2.2.1
def sg_I (g : SG_) : ClassId := g.2.2.2.2.2.1.1
def sg_Z (g : SG_) : ClassId := g.2.2.2.2.2.1.2.1
def sg_M (g : SG_) : ClassId := g.2.2.2.2.2.1.2.2.1
def sg_T (g : SG_) : ClassId := g.2.2.2.2.2.1.2.2.2
def sg_B (g : SG_) : Nat := g.2.2.2.2.2.2
def sg_A (g : SG_) : Nat → Prop := fun q => sg_B g ≤ q
def sg_t (g : SG_) : List (ClassId × FieldType) := [(sg_I g, .int), (sg_Z g, .boolean), (sg_M g, .object "NodBets$Mind"), (sg_T g, .object "NodBets$Town")]
def sr_32 (x : Int) : Prop := -2147483648 ≤ x ∧ x < 2147483648
def sr_64 (x : Int) : Prop := -9223372036854775808 ≤ x ∧ x < 9223372036854775808
def sw_32 (x : Int) : Int := (Int32.ofInt x).toInt
def sw_64 (x : Int) : Int := (Int64.ofInt x).toInt
theorem sr_32w (x : Int) : sr_32 (sw_32 x) := by
  have h1 := Int32.le_toInt (Int32.ofInt x)
  have h2 := Int32.toInt_lt (Int32.ofInt x)
  exact ⟨h1, h2⟩
theorem sr_64w (x : Int) : sr_64 (sw_64 x) := by
  have h1 := Int64.le_toInt (Int64.ofInt x)
  have h2 := Int64.toInt_lt (Int64.ofInt x)
  exact ⟨h1, h2⟩
theorem sr_32t (x : Int32) : sr_32 x.toInt := ⟨Int32.le_toInt x, Int32.toInt_lt x⟩
theorem sr_64t (x : Int64) : sr_64 x.toInt := ⟨Int64.le_toInt x, Int64.toInt_lt x⟩
theorem sw_32i {x : Int} (h : sr_32 x) : sw_32 x = x := Int32.toInt_ofInt_of_le h.1 h.2
theorem sw_64i {x : Int} (h : sr_64 x) : sw_64 x = x := Int64.toInt_ofInt_of_le h.1 h.2
theorem sw_32o (x : Int) : Int32.ofInt (sw_32 x) = Int32.ofInt x := Int32.ofInt_toInt _
theorem sw_64o (x : Int) : Int64.ofInt (sw_64 x) = Int64.ofInt x := Int64.ofInt_toInt _
theorem si_t {x : Int} (h : sr_32 x) : (Int32.ofInt x).toInt = x := sw_32i h
theorem si_lt {x y : Int} (hx : sr_32 x) (hy : sr_32 y) : Int32.ofInt x < Int32.ofInt y ↔ x < y := by
  rw [Int32.lt_iff_toInt_lt, si_t hx, si_t hy]
theorem si_le {x y : Int} (hx : sr_32 x) (hy : sr_32 y) : Int32.ofInt x ≤ Int32.ofInt y ↔ x ≤ y := by
  rw [Int32.le_iff_toInt_le, si_t hx, si_t hy]
theorem si_eq {x y : Int} (hx : sr_32 x) (hy : sr_32 y) : Int32.ofInt x = Int32.ofInt y ↔ x = y := by
  rw [← Int32.toInt_inj, si_t hx, si_t hy]
theorem sr_320 : sr_32 0 := ⟨by decide, by decide⟩
theorem si_in {x : Int} {n : Nat} (hx : sr_32 x) (h0 : 0 ≤ x) (hn : x < n) : vp_in (Int32.ofInt x) n := by
  rw [vp_in_iff, si_t hx]
  exact ⟨h0, hn⟩
theorem si_cl {x : Int} (hx : sr_32 x) : (Int32.ofInt x).toNatClampNeg = x.toNat := by
  show (Int32.ofInt x).toInt.toNat = x.toNat
  rw [si_t hx]
/-- the value in the machine -/
def sv_v (g : SG_) : SV_ → Value
  | .inl x => .int (Int32.ofInt x)
  | .inr (.inl x) => .long (Int64.ofInt x)
  | .inr (.inr ((c, n), k)) => .ref (if c = 5 then sg_x g n else sg_a g k.toNat)
/-- the kinds of the cells: (0, n) ints, (1, n) booleans, (2, n) minds, (3, n) towns, (4, c) an object of class c -/
def sl_y : List (Nat × Nat) := [(4, 7), (4, 5), (0, 8), (0, 8), (0, 320), (4, 4), (0, 120),
  (4, 6), (0, 6), (0, 6), (0, 6), (0, 4), (0, 4), (0, 4), (0, 4), (4, 6), (0, 6), (0, 6), (0, 6), (0, 4), (0, 4), (0, 4), (0, 4),
  (4, 6), (0, 6), (0, 6), (0, 6), (0, 4), (0, 4), (0, 4), (0, 4), (4, 6), (0, 6), (0, 6), (0, 6), (0, 4), (0, 4), (0, 4), (0, 4), (3, 2),
  (4, 0), (0, 24), (0, 24), (0, 24), (0, 24), (0, 24), (4, 2), (2, 7), (0, 6), (0, 6), (0, 6), (0, 6),
  (4, 3), (0, 4), (4, 3), (0, 4), (4, 3), (0, 4), (4, 3), (0, 4), (4, 3), (0, 4), (4, 3), (0, 4), (4, 3), (0, 4), (4, 1), (0, 16),
  (4, 8), (0, 8), (0, 8), (0, 320), (0, 40), (0, 120), (0, 38), (0, 38), (0, 912), (0, 76), (1, 2), (0, 16), (0, 4), (0, 6), (0, 6)]
/-- the fields: none an int; else a cell's kind, and where it is (true: so many behind the object; false: there) -/
def sf_t : List (List (Option ((Nat × Nat) × Bool × Int))) := [
  [some ((0, 24), true, 1), some ((0, 24), true, 2), some ((0, 24), true, 3), some ((0, 24), true, 4), some ((0, 24), true, 5), none, none],
  [some ((0, 16), true, 1), none],
  [some ((2, 7), true, 1), some ((0, 6), true, 2), some ((0, 6), true, 3), none, none, some ((0, 6), true, 4), some ((0, 6), true, 5), none],
  [none, none, none, some ((0, 4), true, 1)],
  [some ((0, 120), true, 1), none, none, none],
  [some ((0, 8), true, 1), some ((0, 8), true, 2), some ((0, 320), true, 3)],
  [none, none, none, none, some ((0, 6), true, 1), some ((0, 6), true, 2), some ((0, 6), true, 3), some ((0, 4), true, 4), some ((0, 4), true, 5), some ((0, 4), true, 6), some ((0, 4), true, 7)],
  [some ((4, 5), false, 1), some ((4, 4), false, 5), some ((4, 6), false, 7), some ((4, 6), false, 15), some ((3, 2), false, 39), some ((4, 0), false, 40), some ((4, 2), false, 46), some ((4, 1), false, 66), none],
  [some ((0, 8), true, 1), some ((0, 8), true, 2), some ((0, 320), true, 3), some ((0, 40), true, 4), none, some ((0, 120), true, 5), none, none, none, none, none, none, none, some ((0, 38), true, 6), some ((0, 38), true, 7), some ((0, 912), true, 8), none, some ((0, 76), true, 9), some ((1, 2), true, 10), some ((0, 16), true, 11), none, none, none, none, some ((0, 4), true, 12), some ((0, 6), true, 13), some ((0, 6), true, 14), none]]
def sf_c (c : Nat) : List (Option ((Nat × Nat) × Bool × Int)) := sf_t.getD c []
def sf_v (c : Nat) (k : Int) (j : Nat) (h : SH_) : SV_ := match (sf_c c).getD j none with
  | none => .inl (h k j)
  | some (kd, true, o) => .inr (.inr (kd, k + o))
  | some (kd, false, o) => .inr (.inr (kd, o))
def sw_e (g : SG_) (kd : Nat × Nat) (k : Int) (h : SH_) : va_E := match kd.1 with
  | 0 => .inl (sg_I g, kd.2, .inl (fun j => Int32.ofInt (h k j)))
  | 1 => .inl (sg_Z g, kd.2, .inl (fun j => Int32.ofInt (h k j)))
  | 2 => .inl (sg_M g, kd.2, .inr (.inr (.inr (.inr (fun j => some (sg_a g (52 + 2 * j)))))))
  | 3 => .inl (sg_T g, kd.2, .inr (.inr (.inr (.inr (fun j => some (sg_a g (23 + 8 * j)))))))
  | _ => .inr (kd.2, (List.range (sf_c kd.2).length).map (fun j => sv_v g (sf_v kd.2 k j h)))
def sw_l (g : SG_) (h : SH_) : va_W := (List.range 83).map (fun k => (sg_a g k, sw_e g (sl_y.getD k (0, 0)) k h))
/-- a slot becomes v -/
def hs_ (h : SH_) (k j v : Int) : SH_ := fun a b => if a = k ∧ b = j then v else h a b
theorem hs_e (h : SH_) (k j v : Int) : hs_ h k j v k j = v := by simp [hs_]
theorem hs_n {h : SH_} {k j v a b : Int} (hn : ¬ (a = k ∧ b = j)) : hs_ h k j v a b = h a b := by simp [hs_, hn]
theorem hs_k {h : SH_} {k j v a : Int} (hn : a ≠ k) : hs_ h k j v a = h a := by funext b; simp [hs_, hn]
theorem sw_len : sl_y.length = 83 := by decide
theorem sw_get {g : SG_} {h : SH_} {k : Int} {kd : Nat × Nat} (h0 : 0 ≤ k) (hk : sl_y[k.toNat]? = some kd) : (sw_l g h)[k.toNat]? = some (sg_a g k.toNat, sw_e g kd k h) := by
  have hlt : k.toNat < 83 := by
    have h1 := (List.getElem?_eq_some_iff.mp hk).1
    rw [sw_len] at h1
    exact h1
  have hg : sl_y.getD k.toNat (0, 0) = kd := by rw [List.getD_eq_getElem?_getD, hk]; rfl
  rw [sw_l, List.getElem?_map, List.getElem?_range hlt]
  show some (sg_a g k.toNat, sw_e g (sl_y.getD k.toNat (0, 0)) ((k.toNat : Nat) : Int) h) = _
  rw [hg, Int.toNat_of_nonneg h0]
theorem sw_ec {g : SG_} {kd : Nat × Nat} {k : Int} {h1 h2 : SH_} (e : h1 k = h2 k) : sw_e g kd k h1 = sw_e g kd k h2 := by
  have hf : ∀ c j, sf_v c k j h1 = sf_v c k j h2 := fun c j => by
    unfold sf_v
    rw [e]
  unfold sw_e
  simp only [e, hf]
theorem sw_set {g : SG_} {h h2 : SH_} {k : Int} {kd : Nat × Nat} (h0 : 0 ≤ k) (hk : sl_y[k.toNat]? = some kd) (ho : ∀ a : Int, a ≠ k → h2 a = h a) {E : va_E} (hE : E = sw_e g kd k h2) : (sw_l g h).set k.toNat (sg_a g k.toNat, E) = sw_l g h2 := by
  subst hE
  apply List.ext_getElem?
  intro i
  by_cases hi : k.toNat = i
  · subst hi
    have h1 := sw_get (g := g) (h := h) h0 hk
    rw [List.getElem?_set_self (List.getElem?_eq_some_iff.mp h1).1, sw_get h0 hk]
  · rw [List.getElem?_set_ne hi]
    unfold sw_l
    rw [List.getElem?_map, List.getElem?_map]
    by_cases hl : i < 83
    · rw [List.getElem?_range hl]
      show some (_, _) = some (_, _)
      rw [sw_ec (h1 := h2) (h2 := h) (ho i (fun q => hi (by omega)))]
    · rw [List.getElem?_eq_none (by simpa using hl)]
      rfl
