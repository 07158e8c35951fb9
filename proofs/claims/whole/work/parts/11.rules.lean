/-! the judgement -/
def sv_ok : SV_ → Prop
  | .inl x => sr_32 x
  | .inr (.inl x) => sr_64 x
  | .inr (.inr ((c, n), k)) => (c = 5 ∧ n < 4) ∨ (c ≠ 5 ∧ 0 ≤ k ∧ sl_y[k.toNat]? = some (c, n))
def sv_oks (st : List SV_) : Prop := ∀ v ∈ st, sv_ok v
def sl_ok (ls : List (Option SV_)) : Prop := ∀ v, some v ∈ ls → sv_ok v
def sh_ok (h : SH_) : Prop := ∀ k j, sr_32 (h k j)
def sl_v (g : SG_) : Nat → List (Option SV_) → List (Nat × Value)
  | _, [] => []
  | i, none :: l => sl_v g (i + 1) l
  | i, some v :: l => (i, sv_v g v) :: sl_v g (i + 1) l
theorem sl_mem {g : SG_} {q : Nat × Value} : ∀ {l : List (Option SV_)} {i : Nat}, q ∈ sl_v g i l ↔ ∃ (j : Nat) (v : SV_), l[j]? = some (some v) ∧ q = (i + j, sv_v g v) := by
  intro l
  induction l with
  | nil => intro i; simp [sl_v]
  | cons a l ih =>
    intro i
    have key : (∃ (j : Nat) (v : SV_), l[j]? = some (some v) ∧ q = (i + 1 + j, sv_v g v)) ↔ ∃ (j : Nat) (v : SV_), (a :: l)[j + 1]? = some (some v) ∧ q = (i + (j + 1), sv_v g v) := by
      constructor
      · rintro ⟨j, v, h1, h2⟩; exact ⟨j, v, by simpa using h1, by rw [h2]; congr 1; omega⟩
      · rintro ⟨j, v, h1, h2⟩; exact ⟨j, v, by simpa using h1, by rw [h2]; congr 1; omega⟩
    cases a with
    | none =>
      show q ∈ sl_v g (i + 1) l ↔ _
      rw [ih, key]
      constructor
      · rintro ⟨j, v, h1, h2⟩; exact ⟨j + 1, v, h1, h2⟩
      · rintro ⟨j, v, h1, h2⟩
        cases j with
        | zero => simp at h1
        | succ j => exact ⟨j, v, h1, h2⟩
    | some w =>
      show q ∈ (i, sv_v g w) :: sl_v g (i + 1) l ↔ _
      rw [List.mem_cons, ih, key]
      constructor
      · rintro (h | ⟨j, v, h1, h2⟩)
        · exact ⟨0, w, by simp, by simpa using h⟩
        · exact ⟨j + 1, v, h1, h2⟩
      · rintro ⟨j, v, h1, h2⟩
        cases j with
        | zero =>
          left
          simp at h1
          rw [h2, h1]
          rfl
        | succ j => exact Or.inr ⟨j, v, h1, h2⟩
theorem sl_at {g : SG_} {lsA : Array Slot} {n i : Nat} {ls : List (Option SV_)} {v : SV_} (h : lv_has lsA n (sl_v g 0 ls)) (hv : ls[i]? = some (some v)) : lsA[i]? = some (.val (sv_v g v)) := by
  have h1 := h.2.2 (i, sv_v g v) (sl_mem.mpr ⟨i, v, hv, by simp⟩)
  exact h1
def ss_C (i : Nat) : String := if i = 0 then "NodBets$Kinds" else "NodBets$Asks"
def ss_N (i : Nat) : String := if i = 0 then "ABOVE" else if i = 1 then "SIZE_BODIES" else "MARK_BODIES"
/-- what holds of the machine's tables and of what lies outside the world -/
def sg_K (g : SG_) (U : State) : Prop := va_K (sg_D g) vwCl (sg_t g) U ∧ (∀ i j, i < 83 → j < 83 → sg_a g i = sg_a g j → i = j) ∧ (∀ i, i < 83 → sg_B g ≤ sg_a g i) ∧ sg_B g ≤ U.heap.size ∧
  (∀ i, i < 3 → va_Z (ss_C i) (ss_N i) "[I" (.ref (sg_x g i)) (sg_A g) U U.heap) ∧ (∀ i, i < 4 → va_T .int (sg_x g i) (sg_X g i).1 (fun j => .int (Int32.ofInt ((sg_X g i).2 j))) (sg_A g) U U.heap) ∧ (∀ i, i < 4 → (sg_X g i).1 < 2147483648 ∧ ∀ j, sr_32 ((sg_X g i).2 j))
theorem sg_K.moved {g : SG_} {u U : State} (hvm : u.vm.Alike U.vm) (hz : u.heap.size ≤ U.heap.size) (hh : ∀ q : Nat, q < u.heap.size → ¬ sg_A g q → U.heap[q]? = u.heap[q]?) (h : sg_K g u) : sg_K g U := by
  obtain ⟨h1, h2, h3, h4, h5, h6, h7⟩ := h
  exact ⟨va_K.moved hvm h1, h2, h3, Nat.le_trans h4 hz, fun i hi => ((h5 i hi).moved hvm).kept hh, fun i hi => ((h6 i hi).moved hvm).kept hh, h7⟩
theorem sg_Dw {g : SG_} {U : State} (hK : sg_K g U) (h : SH_) : va_D (sg_A g) (sw_l g h) := by
  have key : ∀ (i : Nat) (p : Nat × va_E), (sw_l g h)[i]? = some p → i < 83 ∧ p.1 = sg_a g i := by
    intro i p hp
    unfold sw_l at hp
    rw [List.getElem?_map] at hp
    by_cases hi : i < 83
    · rw [List.getElem?_range hi] at hp
      cases hp
      exact ⟨hi, rfl⟩
    · rw [List.getElem?_eq_none (by simpa using hi)] at hp
      cases hp
  refine ⟨fun i j p q hp hq e => ?_, fun k q hq => ?_⟩
  · obtain ⟨a1, a2⟩ := key i p hp
    obtain ⟨b1, b2⟩ := key j q hq
    exact hK.2.1 i j a1 b1 (by rw [← a2, ← b2, e])
  · obtain ⟨a1, a2⟩ := key k q hq
    show sg_B g ≤ q.1
    rw [a2]
    exact hK.2.2.1 k a1
/-- a frame's surroundings -/
def sc_x (g : SG_) (d : Nat) (M : MD_) (p : Program) (R : Room) (s : State) (m : MethodId) (args : Array Value) (c : Code) (cells slots : Nat) : Prop :=
  p.tables.exec = Jvm.exec ∧ c.code = M.2.1 ∧ c.maxLocals = M.2.2.1 ∧ s.vm.findClass M.1.cls = some m.cls ∧ (∀ w ∈ lw_g, w.before args s = true) ∧ sg_K g s ∧ d ≤ R.frames ∧ 64 * d ≤ R.locals ∧ cells ≤ R.cells ∧ slots ≤ R.slots
/-- which return instruction stands there: rt 0 none, 1 int, 2 boolean, 3 long, 4 a reference -/
def sc_t (M : MD_) (pc : Nat) : Option SV_ → Prop
  | none => M.2.2.2.2 = 0 ∧ decode M.2.1 pc = .ok (.return_, 1)
  | some (.inl x) => decode M.2.1 pc = .ok (.ireturn, 1) ∧ (M.2.2.2.2 = 1 ∨ (M.2.2.2.2 = 2 ∧ (x = 0 ∨ x = 1)))
  | some (.inr (.inl _)) => M.2.2.2.2 = 3 ∧ decode M.2.1 pc = .ok (.lreturn, 1)
  | some (.inr (.inr _)) => M.2.2.2.2 = 4 ∧ decode M.2.1 pc = .ok (.areturn, 1)
def so_ok (r : Option SV_) : Prop := ∀ v, r = some v → sv_ok v
def sc_r (g : SG_) (M : MD_) (Post : Option SV_ → SH_ → Prop) (p : Program) (e : Env) (R : Room) (s : State) (m : MethodId) (args : Array Value) (below : List Frame) (meth : Method) (c : Code) (cells slots : Nat) (QQ : State → Prop) : Prop :=
  ∀ (pc : Nat) (lsA : Array Slot) (H : Heap) (locs : List Loc) (r : Option SV_) (h : SH_), Post r h → so_ok r → sh_ok h → va_P (sg_D g) vwCl (sw_l g h) H → va_S (sg_A g) s.heap H locs → sc_t M pc r → W p (sg_l g) e R s m args below meth c H locs cells slots QQ (F0 m pc lsA (r.toList.map (sv_v g)))
/-- from this frame the method returns, and Post holds of its answer and of the heap then -/
def V_ (g : SG_) (d : Nat) (M : MD_) (pc : Nat) (ls : List (Option SV_)) (st : List SV_) (h : SH_) (Post : Option SV_ → SH_ → Prop) : Prop :=
  ∀ (p : Program) (e : Env) (R : Room) (s : State) (m : MethodId) (args : Array Value) (below : List Frame) (meth : Method) (c : Code) (cells slots : Nat) (QQ : State → Prop),
    sc_x g d M p R s m args c cells slots → sc_r g M Post p e R s m args below meth c cells slots QQ →
    ∀ (H : Heap) (locs : List Loc) (lsA : Array Slot), sl_ok ls → sv_oks st → sh_ok h → va_P (sg_D g) vwCl (sw_l g h) H → va_S (sg_A g) s.heap H locs → lv_has lsA M.2.2.1 (sl_v g 0 ls) →
      W p (sg_l g) e R s m args below meth c H locs cells slots QQ (F0 m pc lsA (st.map (sv_v g)))
section VR_
variable {g : SG_} {d : Nat} {M : MD_} {pc q : Nat} {ls : List (Option SV_)} {st : List SV_} {h : SH_} {Post : Option SV_ → SH_ → Prop}
/-- what is known of the values that a frame has -/
theorem V_know (k : sl_ok ls → sv_oks st → sh_ok h → V_ g d M pc ls st h Post) : V_ g d M pc ls st h Post := by
  intro p e R s m args below meth c cells slots QQ C hr H locs lsA oL oS oH hP hS hl
  exact k oL oS oH p e R s m args below meth c cells slots QQ C hr H locs lsA oL oS oH hP hS hl
theorem V_pure {st2 : List SV_} (ok : sv_oks st → sv_oks st2)
    (hw : sv_oks st → ∀ (p : Program) (e : Env) (R : Room) (s : State) (m : MethodId) (args : Array Value) (below : List Frame) (meth : Method) (c : Code) (H : Heap) (locs : List Loc) (cells slots : Nat) (QQ : State → Prop) (lsA : Array Slot), p.tables.exec = Jvm.exec → c.code = M.2.1 → W p (sg_l g) e R s m args below meth c H locs cells slots QQ (F0 m q lsA (st2.map (sv_v g))) → W p (sg_l g) e R s m args below meth c H locs cells slots QQ (F0 m pc lsA (st.map (sv_v g))))
    (k : V_ g d M q ls st2 h Post) : V_ g d M pc ls st h Post := by
  intro p e R s m args below meth c cells slots QQ C hr H locs lsA oL oS oH hP hS hl
  exact hw oS p e R s m args below meth c H locs cells slots QQ lsA C.1 C.2.1 (k p e R s m args below meth c cells slots QQ C hr H locs lsA oL (ok oS) oH hP hS hl)
theorem so_1 {v : SV_} (hv : sv_ok v) (hs : sv_oks st) : sv_oks (v :: st) := fun w hw => (List.mem_cons.mp hw).elim (fun e => e ▸ hv) (hs w)
theorem so_t {v : SV_} (hs : sv_oks (v :: st)) : sv_oks st := fun w hw => hs w (List.mem_cons_of_mem _ hw)
theorem so_h {v : SV_} (hs : sv_oks (v :: st)) : sv_ok v := hs v List.mem_cons_self
theorem so_i {n : Int} (hn : sr_32 n) (hs : sv_oks st) : sv_oks (sv_i n :: st) := so_1 (v := sv_i n) hn hs
theorem so_l {n : Int} (hn : sr_64 n) (hs : sv_oks st) : sv_oks (sv_l n :: st) := so_1 (v := sv_l n) hn hs
theorem so_hi {n : Int} (hs : sv_oks (sv_i n :: st)) : sr_32 n := so_h hs
theorem so_hl {n : Int} (hs : sv_oks (sv_l n :: st)) : sr_64 n := so_h hs
/-- a value's words -/
def sv_c : SV_ → Nat
  | .inl _ => 1
  | .inr (.inl _) => 2
  | .inr (.inr _) => 1
theorem sv_ce (v : SV_) : (sv_v g v).category = sv_c v := by
  obtain x | x | ⟨⟨c, n⟩, k⟩ := v <;> rfl
theorem sv_c1 {v : SV_} {n : Nat} (h : sv_c v = n) : (sv_v g v).category = n := by rw [sv_ce, h]
def sb_i2b (x : Int) : Int := (Int32.ofInt x).toInt8.toInt32.toInt
def sb_i2s (x : Int) : Int := (Int32.ofInt x).toInt16.toInt32.toInt
theorem sr_46 {x : Int} (h : sr_32 x) : sr_64 x := ⟨by have := h.1; omega, by have := h.2; omega⟩
theorem sj_t {x : Int} (h : sr_64 x) : (Int64.ofInt x).toInt = x := sw_64i h
theorem si_64 {x : Int} (h : sr_32 x) : (Int32.ofInt x).toInt64 = Int64.ofInt x := by
  rw [← Int64.toInt_inj, sj_t (sr_46 h), Int32.toInt_toInt64, si_t h]
theorem si_46 {x : Int} (h : sr_64 x) (h2 : sr_32 x) : (Int64.ofInt x).toInt32 = Int32.ofInt x := by
  rw [← Int32.toInt_inj, Int64.toInt_toInt32, sj_t h, Int32.toInt_ofInt]
theorem sj_tdr {x y : Int} (hx : sr_64 x) (h : 0 < y) : sr_64 (x.tdiv y) := by
  unfold sr_64 at *
  by_cases h0 : 0 ≤ x
  · rw [Int.tdiv_eq_ediv_of_nonneg h0]
    have h1 := Int.ediv_nonneg h0 (Int.le_of_lt h)
    have h2 := Int.ediv_le_self y h0
    omega
  · have e : x.tdiv y = -((-x) / y) := by
      rw [← Int.tdiv_eq_ediv_of_nonneg (by omega), Int.neg_tdiv, Int.neg_neg]
    rw [e]
    have h1 := Int.ediv_nonneg (a := -x) (by omega) (Int.le_of_lt h)
    have h2 := Int.ediv_le_self (a := -x) y (by omega)
    omega
theorem sj_div {x y : Int} (hx : sr_64 x) (hy : sr_64 y) (h : 0 < y) : Int64.ofInt (x.tdiv y) = Int64.ofInt x / Int64.ofInt y := by
  rw [← Int64.toInt_inj, Int64.toInt_div_of_ne_right _ _ (fun e => by
    have e2 := congrArg Int64.toInt e
    rw [sj_t hy] at e2
    have e3 : (-1 : Int64).toInt = -1 := by decide
    omega), sj_t hx, sj_t hy, sj_t (sj_tdr hx h)]
theorem sj_ne {y : Int} (hy : sr_64 y) (h : 0 < y) : ¬ Int64.ofInt y = 0 := fun e => by
  have e2 := congrArg Int64.toInt e
  rw [sj_t hy] at e2
  have e3 : (0 : Int64).toInt = 0 := by decide
  omega
theorem vr_iconst {n : Int} (hd : decode M.2.1 pc = .ok (.iconst n, 1)) (hq : pc + 1 = q) (hn : sr_32 n) (k : V_ g d M q ls (sv_i n :: st) h Post) : V_ g d M pc ls (st) h Post := by
  subst hq
  exact V_pure (st2 := sv_i n :: st) (fun oS => so_i hn oS) (fun _ p e R s m args below meth c H locs cells slots QQ lsA hx hb w => lv_iconst hx hb hd rfl w) k
theorem vr_bipush {n : Int} (hd : decode M.2.1 pc = .ok (.bipush n, 2)) (hq : pc + 2 = q) (hn : sr_32 n) (hv : (Int8.ofInt n).toInt32 = Int32.ofInt n) (k : V_ g d M q ls (sv_i n :: st) h Post) : V_ g d M pc ls (st) h Post := by
  subst hq
  exact V_pure (st2 := sv_i n :: st) (fun oS => so_i hn oS) (fun _ p e R s m args below meth c H locs cells slots QQ lsA hx hb w => lv_bipush hx hb hd hv w) k
theorem vr_sipush {n : Int} (hd : decode M.2.1 pc = .ok (.sipush n, 3)) (hq : pc + 3 = q) (hn : sr_32 n) (hv : (Int16.ofInt n).toInt32 = Int32.ofInt n) (k : V_ g d M q ls (sv_i n :: st) h Post) : V_ g d M pc ls (st) h Post := by
  subst hq
  exact V_pure (st2 := sv_i n :: st) (fun oS => so_i hn oS) (fun _ p e R s m args below meth c H locs cells slots QQ lsA hx hb w => lv_sipush hx hb hd hv w) k
theorem vr_lconst {n : Fin 2} (hd : decode M.2.1 pc = .ok (.lconst n, 1)) (hq : pc + 1 = q) (k : V_ g d M q ls (sv_l ((n : Nat) : Int) :: st) h Post) : V_ g d M pc ls (st) h Post := by
  subst hq
  exact V_pure (st2 := sv_l ((n : Nat) : Int) :: st) (fun oS => so_l ⟨by have := n.isLt; omega, by have := n.isLt; omega⟩ oS) (fun _ p e R s m args below meth c H locs cells slots QQ lsA hx hb w => lv_lconst hx hb hd Int64.ofInt_eq_ofNat.symm w) k
theorem vr_iadd {x y : Int} (hd : decode M.2.1 pc = .ok (.iadd, 1)) (hq : pc + 1 = q) (k : V_ g d M q ls (sv_i (sw_32 (x + y)) :: st) h Post) : V_ g d M pc ls (sv_i y :: sv_i x :: st) h Post := by
  subst hq
  exact V_pure (st2 := sv_i (sw_32 (x + y)) :: st) (fun oS => so_i (sr_32w _) (so_t (so_t oS))) (fun _ p e R s m args below meth c H locs cells slots QQ lsA hx hb w => lv_iadd hx hb hd (by simpa [sv_v, sw_32o, Int32.ofInt_add] using w)) k
theorem vr_iaddN {x y : Int} (hd : decode M.2.1 pc = .ok (.iadd, 1)) (hq : pc + 1 = q) (hr : sr_32 (x + y)) (k : V_ g d M q ls (sv_i (x + y) :: st) h Post) : V_ g d M pc ls (sv_i y :: sv_i x :: st) h Post := by
  subst hq
  exact V_pure (st2 := sv_i (x + y) :: st) (fun oS => so_i hr (so_t (so_t oS))) (fun _ p e R s m args below meth c H locs cells slots QQ lsA hx hb w => lv_iadd hx hb hd (by simpa [sv_v, Int32.ofInt_add] using w)) k
theorem vr_isub {x y : Int} (hd : decode M.2.1 pc = .ok (.isub, 1)) (hq : pc + 1 = q) (k : V_ g d M q ls (sv_i (sw_32 (x - y)) :: st) h Post) : V_ g d M pc ls (sv_i y :: sv_i x :: st) h Post := by
  subst hq
  exact V_pure (st2 := sv_i (sw_32 (x - y)) :: st) (fun oS => so_i (sr_32w _) (so_t (so_t oS))) (fun _ p e R s m args below meth c H locs cells slots QQ lsA hx hb w => lv_isub hx hb hd (by simpa [sv_v, sw_32o, Int32.ofInt_sub] using w)) k
theorem vr_isubN {x y : Int} (hd : decode M.2.1 pc = .ok (.isub, 1)) (hq : pc + 1 = q) (hr : sr_32 (x - y)) (k : V_ g d M q ls (sv_i (x - y) :: st) h Post) : V_ g d M pc ls (sv_i y :: sv_i x :: st) h Post := by
  subst hq
  exact V_pure (st2 := sv_i (x - y) :: st) (fun oS => so_i hr (so_t (so_t oS))) (fun _ p e R s m args below meth c H locs cells slots QQ lsA hx hb w => lv_isub hx hb hd (by simpa [sv_v, Int32.ofInt_sub] using w)) k
theorem vr_imul {x y : Int} (hd : decode M.2.1 pc = .ok (.imul, 1)) (hq : pc + 1 = q) (k : V_ g d M q ls (sv_i (sw_32 (x * y)) :: st) h Post) : V_ g d M pc ls (sv_i y :: sv_i x :: st) h Post := by
  subst hq
  exact V_pure (st2 := sv_i (sw_32 (x * y)) :: st) (fun oS => so_i (sr_32w _) (so_t (so_t oS))) (fun _ p e R s m args below meth c H locs cells slots QQ lsA hx hb w => lv_imul hx hb hd (by simpa [sv_v, sw_32o, Int32.ofInt_mul] using w)) k
theorem vr_imulN {x y : Int} (hd : decode M.2.1 pc = .ok (.imul, 1)) (hq : pc + 1 = q) (hr : sr_32 (x * y)) (k : V_ g d M q ls (sv_i (x * y) :: st) h Post) : V_ g d M pc ls (sv_i y :: sv_i x :: st) h Post := by
  subst hq
  exact V_pure (st2 := sv_i (x * y) :: st) (fun oS => so_i hr (so_t (so_t oS))) (fun _ p e R s m args below meth c H locs cells slots QQ lsA hx hb w => lv_imul hx hb hd (by simpa [sv_v, Int32.ofInt_mul] using w)) k
theorem vr_ineg {x : Int} (hd : decode M.2.1 pc = .ok (.ineg, 1)) (hq : pc + 1 = q) (hr : sr_32 (-x)) (k : V_ g d M q ls (sv_i (-x) :: st) h Post) : V_ g d M pc ls (sv_i x :: st) h Post := by
  subst hq
  exact V_pure (st2 := sv_i (-x) :: st) (fun oS => so_i hr (so_t oS)) (fun _ p e R s m args below meth c H locs cells slots QQ lsA hx hb w => lv_ineg hx hb hd (by simpa [sv_v, Int32.ofInt_neg] using w)) k
def sb_iand (x y : Int) : Int := (Int32.ofInt x &&& Int32.ofInt y).toInt
theorem vr_iand {x y : Int} (hd : decode M.2.1 pc = .ok (.iand, 1)) (hq : pc + 1 = q) (k : V_ g d M q ls (sv_i (sb_iand x y) :: st) h Post) : V_ g d M pc ls (sv_i y :: sv_i x :: st) h Post := by
  subst hq
  exact V_pure (st2 := sv_i (sb_iand x y) :: st) (fun oS => so_i (sr_32t _) (so_t (so_t oS))) (fun _ p e R s m args below meth c H locs cells slots QQ lsA hx hb w => lv_iand hx hb hd (by simpa [sv_v, sb_iand, Int32.ofInt_toInt] using w)) k
def sb_ior (x y : Int) : Int := (Int32.ofInt x ||| Int32.ofInt y).toInt
theorem vr_ior {x y : Int} (hd : decode M.2.1 pc = .ok (.ior, 1)) (hq : pc + 1 = q) (k : V_ g d M q ls (sv_i (sb_ior x y) :: st) h Post) : V_ g d M pc ls (sv_i y :: sv_i x :: st) h Post := by
  subst hq
  exact V_pure (st2 := sv_i (sb_ior x y) :: st) (fun oS => so_i (sr_32t _) (so_t (so_t oS))) (fun _ p e R s m args below meth c H locs cells slots QQ lsA hx hb w => lv_ior hx hb hd (by simpa [sv_v, sb_ior, Int32.ofInt_toInt] using w)) k
def sb_ixor (x y : Int) : Int := (Int32.ofInt x ^^^ Int32.ofInt y).toInt
theorem vr_ixor {x y : Int} (hd : decode M.2.1 pc = .ok (.ixor, 1)) (hq : pc + 1 = q) (k : V_ g d M q ls (sv_i (sb_ixor x y) :: st) h Post) : V_ g d M pc ls (sv_i y :: sv_i x :: st) h Post := by
  subst hq
  exact V_pure (st2 := sv_i (sb_ixor x y) :: st) (fun oS => so_i (sr_32t _) (so_t (so_t oS))) (fun _ p e R s m args below meth c H locs cells slots QQ lsA hx hb w => lv_ixor hx hb hd (by simpa [sv_v, sb_ixor, Int32.ofInt_toInt] using w)) k
def sb_ishl (x y : Int) : Int := (Int32.ofInt x <<< (Int32.ofInt y &&& 31)).toInt
theorem vr_ishl {x y : Int} (hd : decode M.2.1 pc = .ok (.ishl, 1)) (hq : pc + 1 = q) (k : V_ g d M q ls (sv_i (sb_ishl x y) :: st) h Post) : V_ g d M pc ls (sv_i y :: sv_i x :: st) h Post := by
  subst hq
  exact V_pure (st2 := sv_i (sb_ishl x y) :: st) (fun oS => so_i (sr_32t _) (so_t (so_t oS))) (fun _ p e R s m args below meth c H locs cells slots QQ lsA hx hb w => lv_ishl hx hb hd (by simpa [sv_v, sb_ishl, Int32.ofInt_toInt] using w)) k
def sb_ishr (x y : Int) : Int := (Int32.ofInt x >>> (Int32.ofInt y &&& 31)).toInt
theorem vr_ishr {x y : Int} (hd : decode M.2.1 pc = .ok (.ishr, 1)) (hq : pc + 1 = q) (k : V_ g d M q ls (sv_i (sb_ishr x y) :: st) h Post) : V_ g d M pc ls (sv_i y :: sv_i x :: st) h Post := by
  subst hq
  exact V_pure (st2 := sv_i (sb_ishr x y) :: st) (fun oS => so_i (sr_32t _) (so_t (so_t oS))) (fun _ p e R s m args below meth c H locs cells slots QQ lsA hx hb w => lv_ishr hx hb hd (by simpa [sv_v, sb_ishr, Int32.ofInt_toInt] using w)) k
def sb_iushr (x y : Int) : Int := ((Int32.ofInt x).toUInt32 >>> ((Int32.ofInt y).toUInt32 &&& Int32.toUInt32 31)).toInt32.toInt
theorem vr_iushr {x y : Int} (hd : decode M.2.1 pc = .ok (.iushr, 1)) (hq : pc + 1 = q) (k : V_ g d M q ls (sv_i (sb_iushr x y) :: st) h Post) : V_ g d M pc ls (sv_i y :: sv_i x :: st) h Post := by
  subst hq
  exact V_pure (st2 := sv_i (sb_iushr x y) :: st) (fun oS => so_i (sr_32t _) (so_t (so_t oS))) (fun _ p e R s m args below meth c H locs cells slots QQ lsA hx hb w => lv_iushr hx hb hd (Int32.ofInt_toInt _).symm w) k
theorem si_tdr {x y : Int} (hx : sr_32 x) (h : 0 < y) : sr_32 (x.tdiv y) := by
  unfold sr_32 at *
  by_cases h0 : 0 ≤ x
  · rw [Int.tdiv_eq_ediv_of_nonneg h0]
    have h1 := Int.ediv_nonneg h0 (Int.le_of_lt h)
    have h2 := Int.ediv_le_self y h0
    omega
  · have e : x.tdiv y = -((-x) / y) := by
      rw [← Int.tdiv_eq_ediv_of_nonneg (by omega), Int.neg_tdiv, Int.neg_neg]
    rw [e]
    have h1 := Int.ediv_nonneg (a := -x) (by omega) (Int.le_of_lt h)
    have h2 := Int.ediv_le_self (a := -x) y (by omega)
    omega
theorem si_div {x y : Int} (hx : sr_32 x) (hy : sr_32 y) (h : 0 < y) : Int32.ofInt (x.tdiv y) = Int32.ofInt x / Int32.ofInt y := by
  rw [← Int32.toInt_inj, Int32.toInt_div_of_ne_right _ _ (fun e => by
    have e2 := congrArg Int32.toInt e
    rw [si_t hy] at e2
    have e3 : (-1 : Int32).toInt = -1 := by decide
    omega), si_t hx, si_t hy, si_t (si_tdr hx h)]
theorem si_ne {y : Int} (hy : sr_32 y) (h : 0 < y) : ¬ Int32.ofInt y = 0 := fun e => by
  have e2 := congrArg Int32.toInt e
  rw [si_t hy] at e2
  have e3 : (0 : Int32).toInt = 0 := by decide
  omega
theorem vr_idiv {x y : Int} (hd : decode M.2.1 pc = .ok (.idiv, 1)) (hq : pc + 1 = q) (hy : 0 < y) (k : V_ g d M q ls (sv_i (x.tdiv y) :: st) h Post) : V_ g d M pc ls (sv_i y :: sv_i x :: st) h Post := by
  subst hq
  exact V_pure (st2 := sv_i (x.tdiv y) :: st) (fun oS => so_i (si_tdr (so_hi (so_t oS)) hy) (so_t (so_t oS))) (fun oS p e R s m args below meth c H locs cells slots QQ lsA hx hb w => lv_idiv hx hb hd (si_ne (so_hi oS) hy) (by rw [← si_div (so_hi (so_t oS)) (so_hi oS) hy]; exact w)) k
theorem vr_irem {x y : Int} (hd : decode M.2.1 pc = .ok (.irem, 1)) (hq : pc + 1 = q) (hy : 0 < y) (hr : sr_32 x → sr_32 y → sr_32 (x - x.tdiv y * y)) (k : V_ g d M q ls (sv_i (x - x.tdiv y * y) :: st) h Post) : V_ g d M pc ls (sv_i y :: sv_i x :: st) h Post := by
  subst hq
  exact V_pure (st2 := sv_i (x - x.tdiv y * y) :: st) (fun oS => so_i (hr (so_hi (so_t oS)) (so_hi oS)) (so_t (so_t oS))) (fun oS p e R s m args below meth c H locs cells slots QQ lsA hx hb w => lv_irem hx hb hd (si_ne (so_hi oS) hy) (by rw [← si_div (so_hi (so_t oS)) (so_hi oS) hy, ← Int32.ofInt_mul, ← Int32.ofInt_sub]; exact w)) k
theorem vr_dup {v : SV_} (hd : decode M.2.1 pc = .ok (.dup, 1)) (hq : pc + 1 = q) (hv : sv_c v = 1) (k : V_ g d M q ls (v :: v :: st) h Post) : V_ g d M pc ls (v :: st) h Post := by
  subst hq
  exact V_pure (st2 := v :: v :: st) (fun oS => so_1 (so_h oS) oS) (fun _ p e R s m args below meth c H locs cells slots QQ lsA hx hb w => lv_dup hx hb hd (sv_c1 hv) w) k
theorem vr_pop {v : SV_} (hd : decode M.2.1 pc = .ok (.pop, 1)) (hq : pc + 1 = q) (hv : sv_c v = 1) (k : V_ g d M q ls (st) h Post) : V_ g d M pc ls (v :: st) h Post := by
  subst hq
  exact V_pure (st2 := st) (fun oS => so_t oS) (fun _ p e R s m args below meth c H locs cells slots QQ lsA hx hb w => lv_pop hx hb hd (sv_c1 hv) w) k
theorem vr_dup2 {v u : SV_} (hd : decode M.2.1 pc = .ok (.dup2, 1)) (hq : pc + 1 = q) (hv : sv_c v = 1) (hu : sv_c u = 1) (k : V_ g d M q ls (v :: u :: v :: u :: st) h Post) : V_ g d M pc ls (v :: u :: st) h Post := by
  subst hq
  exact V_pure (st2 := v :: u :: v :: u :: st) (fun oS => so_1 (so_h oS) (so_1 (so_h (so_t oS)) oS)) (fun _ p e R s m args below meth c H locs cells slots QQ lsA hx hb w => lv_dup2_11 hx hb hd (sv_c1 hv) (sv_c1 hu) w) k
theorem vr_i2b {x : Int} (hd : decode M.2.1 pc = .ok (.i2b, 1)) (hq : pc + 1 = q) (k : V_ g d M q ls (sv_i (sb_i2b x) :: st) h Post) : V_ g d M pc ls (sv_i x :: st) h Post := by
  subst hq
  exact V_pure (st2 := sv_i (sb_i2b x) :: st) (fun oS => so_i (sr_32t _) (so_t oS)) (fun _ p e R s m args below meth c H locs cells slots QQ lsA hx hb w => lv_i2b hx hb hd (Int32.ofInt_toInt _).symm w) k
theorem vr_i2s {x : Int} (hd : decode M.2.1 pc = .ok (.i2s, 1)) (hq : pc + 1 = q) (k : V_ g d M q ls (sv_i (sb_i2s x) :: st) h Post) : V_ g d M pc ls (sv_i x :: st) h Post := by
  subst hq
  exact V_pure (st2 := sv_i (sb_i2s x) :: st) (fun oS => so_i (sr_32t _) (so_t oS)) (fun _ p e R s m args below meth c H locs cells slots QQ lsA hx hb w => lv_i2s hx hb hd (Int32.ofInt_toInt _).symm w) k
theorem vr_i2l {x : Int} (hd : decode M.2.1 pc = .ok (.i2l, 1)) (hq : pc + 1 = q) (k : V_ g d M q ls (sv_l x :: st) h Post) : V_ g d M pc ls (sv_i x :: st) h Post := by
  subst hq
  exact V_pure (st2 := sv_l x :: st) (fun oS => so_l (sr_46 (so_hi oS)) (so_t oS)) (fun oS p e R s m args below meth c H locs cells slots QQ lsA hx hb w => lv_i2l hx hb hd (si_64 (so_hi oS)) w) k
theorem vr_l2i {x : Int} (hd : decode M.2.1 pc = .ok (.l2i, 1)) (hq : pc + 1 = q) (hr : sr_32 x) (k : V_ g d M q ls (sv_i x :: st) h Post) : V_ g d M pc ls (sv_l x :: st) h Post := by
  subst hq
  exact V_pure (st2 := sv_i x :: st) (fun oS => so_i hr (so_t oS)) (fun oS p e R s m args below meth c H locs cells slots QQ lsA hx hb w => lv_l2i hx hb hd (si_46 (so_hl oS) hr) w) k
theorem vr_ladd {x y : Int} (hd : decode M.2.1 pc = .ok (.ladd, 1)) (hq : pc + 1 = q) (hr : sr_64 (x + y)) (k : V_ g d M q ls (sv_l (x + y) :: st) h Post) : V_ g d M pc ls (sv_l y :: sv_l x :: st) h Post := by
  subst hq
  exact V_pure (st2 := sv_l (x + y) :: st) (fun oS => so_l hr (so_t (so_t oS))) (fun _ p e R s m args below meth c H locs cells slots QQ lsA hx hb w => lv_ladd hx hb hd (by simpa [sv_v, Int64.ofInt_add] using w)) k
theorem vr_lmul {x y : Int} (hd : decode M.2.1 pc = .ok (.lmul, 1)) (hq : pc + 1 = q) (hr : sr_64 (x * y)) (k : V_ g d M q ls (sv_l (x * y) :: st) h Post) : V_ g d M pc ls (sv_l y :: sv_l x :: st) h Post := by
  subst hq
  exact V_pure (st2 := sv_l (x * y) :: st) (fun oS => so_l hr (so_t (so_t oS))) (fun _ p e R s m args below meth c H locs cells slots QQ lsA hx hb w => lv_lmul hx hb hd (by simpa [sv_v, Int64.ofInt_mul] using w)) k
theorem vr_ldiv {x y : Int} (hd : decode M.2.1 pc = .ok (.ldiv, 1)) (hq : pc + 1 = q) (hy : 0 < y) (k : V_ g d M q ls (sv_l (x.tdiv y) :: st) h Post) : V_ g d M pc ls (sv_l y :: sv_l x :: st) h Post := by
  subst hq
  exact V_pure (st2 := sv_l (x.tdiv y) :: st) (fun oS => so_l (sj_tdr (so_hl (so_t oS)) hy) (so_t (so_t oS))) (fun oS p e R s m args below meth c H locs cells slots QQ lsA hx hb w => lv_ldiv hx hb hd (sj_ne (so_hl oS) hy) (by rw [← sj_div (so_hl (so_t oS)) (so_hl oS) hy]; exact w)) k
theorem vr_lrem {x y : Int} (hd : decode M.2.1 pc = .ok (.lrem, 1)) (hq : pc + 1 = q) (hy : 0 < y) (hr : sr_64 x → sr_64 y → sr_64 (x - x.tdiv y * y)) (k : V_ g d M q ls (sv_l (x - x.tdiv y * y) :: st) h Post) : V_ g d M pc ls (sv_l y :: sv_l x :: st) h Post := by
  subst hq
  exact V_pure (st2 := sv_l (x - x.tdiv y * y) :: st) (fun oS => so_l (hr (so_hl (so_t oS)) (so_hl oS)) (so_t (so_t oS))) (fun oS p e R s m args below meth c H locs cells slots QQ lsA hx hb w => lv_lrem hx hb hd (sj_ne (so_hl oS) hy) (by rw [← sj_div (so_hl (so_t oS)) (so_hl oS) hy, ← Int64.ofInt_mul, ← Int64.ofInt_sub]; exact w)) k
theorem vr_pc {q2 : Nat} (hq : q2 = pc) (k : V_ g d M q2 ls st h Post) : V_ g d M pc ls st h Post := hq ▸ k
end VR_
