/-! a judgement for constructors: the world grows -/
abbrev NG_ : Type := Launch × va_G × (ClassId × ClassId × ClassId × ClassId)
def ng_l (n : NG_) : Launch := n.1
def ng_D (n : NG_) : va_G := n.2.1
def ng_I (n : NG_) : ClassId := n.2.2.1
def ng_Z (n : NG_) : ClassId := n.2.2.2.1
def ng_M (n : NG_) : ClassId := n.2.2.2.2.1
def ng_T (n : NG_) : ClassId := n.2.2.2.2.2
def ng_t (n : NG_) : List (ClassId × FieldType) := [(ng_I n, .int), (ng_Z n, .boolean), (ng_M n, .object "NodBets$Mind"), (ng_T n, .object "NodBets$Town")]
def kn_R : Cond := .methodLinkNest RX8 18 yX5_init RX8
def kn_T : Cond := .methodLinkNest RX8 25 yX7_init RX8
def kn_A : Cond := .methodLinkNest RX8 39 yX0_init RX8
def kn_M : Cond := .methodLinkNest RX2 40 yX4_init RX8
def kn_S : Cond := .methodLinkNest RX8 53 yX1_init RX8
def ke_ (n : NG_) (U : State) : Prop := va_K (ng_D n) vwCl (ng_t n) U ∧ va_AO "NodBets$Mind" U ∧ va_AO "NodBets$Town" U ∧ va_Nw kn_R U ∧ va_Nw kn_T U ∧ va_Nw kn_A U ∧ va_Nw kn_M U ∧ va_Nw kn_S U
theorem ke_w {n : NG_} {s U : State} (hW : s.WarmedH U.vm) (h : ke_ n s) : ke_ n U := ⟨va_K.moved hW.alike h.1, va_AO.moved hW.alike h.2.1, va_AO.moved hW.alike h.2.2.1, va_Nw.warmM hW h.2.2.2.1, va_Nw.warmM hW h.2.2.2.2.1, va_Nw.warmM hW h.2.2.2.2.2.1, va_Nw.warmM hW h.2.2.2.2.2.2.1, va_Nw.warmM hW h.2.2.2.2.2.2.2⟩
theorem ke_s {n : NG_} {s U : State} (e : s.vm = U.vm) (h : ke_ n s) : ke_ n U := ⟨va_K.moved (by rw [← e]; exact Vm.Alike.refl _) h.1, va_AO.moved (by rw [← e]; exact Vm.Alike.refl _) h.2.1, va_AO.moved (by rw [← e]; exact Vm.Alike.refl _) h.2.2.1, va_Nw.same rfl e h.2.2.2.1, va_Nw.same rfl e h.2.2.2.2.1, va_Nw.same rfl e h.2.2.2.2.2.1, va_Nw.same rfl e h.2.2.2.2.2.2.1, va_Nw.same rfl e h.2.2.2.2.2.2.2⟩
def nx_ (n : NG_) (Y : MD_) (A : Nat → Prop) (p : Program) (s : State) (m : MethodId) (args : Array Value) (meth : Method) (c : Code) : Prop :=
  p.tables.exec = Jvm.exec ∧ c.code = Y.2.1 ∧ c.maxLocals = Y.2.2.1 ∧ s.vm.findClass Y.1.cls = some m.cls ∧ (∀ w ∈ lw_g, w.before args s = true) ∧ ke_ n s ∧ (∀ q, s.heap.size ≤ q → A q) ∧ (Y.1.name = "<init>" → meth.name = "<init>")
abbrev NE_ : Type := Nat → List (Nat × Value) → List Value → va_W → Nat → Nat → Prop
def VN_ (n : NG_) (Y : MD_) (R : Room) (cells slots pc : Nat) (lv : List (Nat × Value)) (st : List Value) (ws : va_W) (E : NE_) : Prop :=
  ∀ (p : Program) (e : Env) (s : State) (m : MethodId) (args : Array Value) (below : List Frame) (meth : Method) (c : Code) (QQ : State → Prop) (A : Nat → Prop),
    nx_ n Y A p s m args meth c →
    (∀ pc2 lv2 st2 ws2 c2 s2, E pc2 lv2 st2 ws2 c2 s2 → ∀ (H : Heap) (locs : List Loc) (ls : Array Slot), va_P (ng_D n) vwCl ws2 H → va_D A ws2 → va_S A s.heap H locs → lv_has ls Y.2.2.1 lv2 → W p (ng_l n) e R s m args below meth c H locs c2 s2 QQ (F0 m pc2 ls st2)) →
    ∀ (H : Heap) (locs : List Loc) (ls : Array Slot), va_P (ng_D n) vwCl ws H → va_D A ws → va_S A s.heap H locs → lv_has ls Y.2.2.1 lv → W p (ng_l n) e R s m args below meth c H locs cells slots QQ (F0 m pc ls st)
theorem la_P {D : va_G} {W0 : va_W} {x : Nat × va_E} {H : Heap} (h : va_P D vwCl (W0 ++ [x]) H) : va_P D vwCl W0 H ∧ va_P D vwCl [x] H := by
  refine ⟨fun k q hk => ?_, fun k q hk => ?_⟩
  · exact h k q (by rw [List.getElem?_append_left (List.getElem?_eq_some_iff.mp hk).1]; exact hk)
  · have hz : k < 1 := (List.getElem?_eq_some_iff.mp hk).1
    rw [show k = 0 by omega] at hk
    exact h W0.length q (by rw [List.getElem?_append_right (Nat.le_refl _), Nat.sub_self]; exact hk)
theorem la_D {A : Nat → Prop} {W0 : va_W} {x : Nat × va_E} (h : va_D A (W0 ++ [x])) : va_D A W0 ∧ va_D A [x] ∧ ∀ (k : Nat) (q : Nat × va_E), W0[k]? = some q → q.1 ≠ x.1 := by
  have hx : (W0 ++ [x])[W0.length]? = some x := by rw [List.getElem?_append_right (Nat.le_refl _), Nat.sub_self]; rfl
  have hl : ∀ (k : Nat) (q : Nat × va_E), W0[k]? = some q → (W0 ++ [x])[k]? = some q ∧ k < W0.length := fun k q hk => ⟨by rw [List.getElem?_append_left (List.getElem?_eq_some_iff.mp hk).1]; exact hk, (List.getElem?_eq_some_iff.mp hk).1⟩
  refine ⟨⟨fun i j p q hp hq e => h.1 i j p q (hl i p hp).1 (hl j q hq).1 e, fun k q hk => h.2 k q (hl k q hk).1⟩, ⟨fun i j p q hp hq e => ?_, fun k q hk => ?_⟩, fun k q hk e => ?_⟩
  · have h1 : i < 1 := (List.getElem?_eq_some_iff.mp hp).1
    have h2 : j < 1 := (List.getElem?_eq_some_iff.mp hq).1
    omega
  · have hz : k < 1 := (List.getElem?_eq_some_iff.mp hk).1
    rw [show k = 0 by omega] at hk
    cases hk
    exact h.2 _ _ hx
  · have := h.1 k W0.length q x (hl k q hk).1 hx e
    have := (hl k q hk).2
    omega
theorem la_j {A : Nat → Prop} {D : va_G} {W0 w1 : va_W} {x : Nat × va_E} {H H1 : Heap} (hP : va_P D vwCl (W0 ++ [x]) H) (hD : va_D A (W0 ++ [x])) (hk : ∀ q : Nat, q < H.size → ¬ va_A [x] H.size q → H1[q]? = H[q]?) (hF : ∀ q, va_A [x] H.size q → A q) (hP1 : va_P D vwCl w1 H1) (hD1 : va_D (va_A [x] H.size) w1) : va_P D vwCl (W0 ++ w1) H1 ∧ va_D A (W0 ++ w1) := by
  have p1 := la_P hP
  have d1 := la_D hD
  have lt : ∀ (k : Nat) (q : Nat × va_E), W0[k]? = some q → q.1 < H.size := fun k q hq => (p1.1 k q hq).lt
  have nA : ∀ (k : Nat) (q : Nat × va_E), W0[k]? = some q → ¬ va_A [x] H.size q.1 := fun k q hq z => by
    rcases z with ⟨i, e, hi⟩ | z
    · have hz : i < 1 := (List.getElem?_eq_some_iff.mp hi).1
      rw [show i = 0 by omega] at hi
      cases hi
      exact d1.2.2 k q hq rfl
    · have := lt k q hq
      omega
  refine ⟨(p1.1.kept (fun k q hq => hk q.1 (lt k q hq) (nA k q hq))).app hP1, d1.1.app (hD1.weaken (fun k q hq z => hF q.1 z)) (fun i j a b ha hb e => ?_)⟩
  have z := hD1.2 j b hb
  rw [← e] at z
  exact nA i a ha z
section VN_S
variable {n : NG_} {Y : MD_} {R : Room} {cells slots pc q : Nat} {lv : List (Nat × Value)} {st : List Value} {ws : va_W} {E : NE_}
theorem vn_end (h : E pc lv st ws cells slots) : VN_ n Y R cells slots pc lv st ws E := fun p e s m args below meth c QQ A C hE H locs ls hP hD hS hl => hE _ _ _ _ _ _ h H locs ls hP hD hS hl
theorem vn_w {ws2 : va_W} (e : ws = ws2) (kk : VN_ n Y R cells slots pc lv st ws2 E) : VN_ n Y R cells slots pc lv st ws E := e ▸ kk
theorem vn_aload {k : Fin 4} {i j x : Nat} (hd : decode Y.2.1 pc = .ok (.aload_n k, 1)) (hq : pc + 1 = q) (hi : (k : Nat) = i) (hv : lv[j]? = some (i, .ref x)) (kk : VN_ n Y R cells slots q lv (.ref x :: st) ws E) : VN_ n Y R cells slots pc lv st ws E := by
  subst hq
  intro p e s m args below meth c QQ A C hE H locs ls hP hD hS hl
  exact lv_aload_n C.1 C.2.1 hd hi (lv_at hl j hv) (kk p e s m args below meth c QQ A C hE H locs ls hP hD hS hl)
theorem vn_iload {k : Fin 4} {i j : Nat} {x : Int32} (hd : decode Y.2.1 pc = .ok (.iload_n k, 1)) (hq : pc + 1 = q) (hi : (k : Nat) = i) (hv : lv[j]? = some (i, .int x)) (kk : VN_ n Y R cells slots q lv (.int x :: st) ws E) : VN_ n Y R cells slots pc lv st ws E := by
  subst hq
  intro p e s m args below meth c QQ A C hE H locs ls hP hD hS hl
  exact lv_iload_n C.1 C.2.1 hd hi (lv_at hl j hv) (kk p e s m args below meth c QQ A C hE H locs ls hP hD hS hl)
theorem vn_iconst {z : Int} {v : Int32} (hd : decode Y.2.1 pc = .ok (.iconst z, 1)) (hq : pc + 1 = q) (hv : Int32.ofInt z = v) (kk : VN_ n Y R cells slots q lv (.int v :: st) ws E) : VN_ n Y R cells slots pc lv st ws E := by
  subst hq
  intro p e s m args below meth c QQ A C hE H locs ls hP hD hS hl
  exact lv_iconst C.1 C.2.1 hd hv (kk p e s m args below meth c QQ A C hE H locs ls hP hD hS hl)
theorem vn_bipush {z : Int} {v : Int32} (hd : decode Y.2.1 pc = .ok (.bipush z, 2)) (hq : pc + 2 = q) (hv : (Int8.ofInt z).toInt32 = v) (kk : VN_ n Y R cells slots q lv (.int v :: st) ws E) : VN_ n Y R cells slots pc lv st ws E := by
  subst hq
  intro p e s m args below meth c QQ A C hE H locs ls hP hD hS hl
  exact lv_bipush C.1 C.2.1 hd hv (kk p e s m args below meth c QQ A C hE H locs ls hP hD hS hl)
theorem vn_sipush {z : Int} {v : Int32} (hd : decode Y.2.1 pc = .ok (.sipush z, 3)) (hq : pc + 3 = q) (hv : (Int16.ofInt z).toInt32 = v) (kk : VN_ n Y R cells slots q lv (.int v :: st) ws E) : VN_ n Y R cells slots pc lv st ws E := by
  subst hq
  intro p e s m args below meth c QQ A C hE H locs ls hP hD hS hl
  exact lv_sipush C.1 C.2.1 hd hv (kk p e s m args below meth c QQ A C hE H locs ls hP hD hS hl)
theorem vn_ldc {idx : Nat} {v : Int32} (hd : decode Y.2.1 pc = .ok (.ldc idx, 2)) (hq : pc + 2 = q) (hw : Cond.constant Y.1.cls idx v ∈ lw_g) (kk : VN_ n Y R cells slots q lv (.int v :: st) ws E) : VN_ n Y R cells slots pc lv st ws E := by
  subst hq
  intro p e s m args below meth c QQ A C hE H locs ls hP hD hS hl
  exact lv_ldc C.1 C.2.1 C.2.2.2.1 (C.2.2.2.2.1 _ hw) hd (kk p e s m args below meth c QQ A C hE H locs ls hP hD hS hl)
theorem vn_istore {k : Fin 4} {i : Nat} {x : Int32} {lv2 : List (Nat × Value)} (hd : decode Y.2.1 pc = .ok (.istore_n k, 1)) (hq : pc + 1 = q) (hi : (k : Nat) = i) (hn : i < Y.2.2.1) (h2 : (i, Value.int x) :: lv.filter (fun q => !(q.1 == i) && !(q.1 + 1 == i && q.2.category == 2)) = lv2) (kk : VN_ n Y R cells slots q lv2 st ws E) : VN_ n Y R cells slots pc lv (.int x :: st) ws E := by
  subst hq
  intro p e s m args below meth c QQ A C hE H locs ls hP hD hS hl
  exact lv_istore_n C.1 C.2.1 hd hi hl hn h2 (fun ls2 hl2 => kk p e s m args below meth c QQ A C hE H locs ls2 hP hD hS hl2)
theorem vn_astore {k : Fin 4} {i x : Nat} {lv2 : List (Nat × Value)} (hd : decode Y.2.1 pc = .ok (.astore_n k, 1)) (hq : pc + 1 = q) (hi : (k : Nat) = i) (hn : i < Y.2.2.1) (h2 : (i, Value.ref x) :: lv.filter (fun q => !(q.1 == i) && !(q.1 + 1 == i && q.2.category == 2)) = lv2) (kk : VN_ n Y R cells slots q lv2 st ws E) : VN_ n Y R cells slots pc lv (.ref x :: st) ws E := by
  subst hq
  intro p e s m args below meth c QQ A C hE H locs ls hP hD hS hl
  exact lv_astore_n C.1 C.2.1 hd hi hl hn h2 (fun ls2 hl2 => kk p e s m args below meth c QQ A C hE H locs ls2 hP hD hS hl2)
theorem vn_iinc {i j : Nat} {z : Int} {x v : Int32} {lv2 : List (Nat × Value)} (hd : decode Y.2.1 pc = .ok (.iinc i z, 3)) (hq : pc + 3 = q) (hj : lv[j]? = some (i, .int x)) (hv : x + Int32.ofInt z = v) (hn : i < Y.2.2.1) (h2 : (i, Value.int v) :: lv.filter (fun q => !(q.1 == i) && !(q.1 + 1 == i && q.2.category == 2)) = lv2) (kk : VN_ n Y R cells slots q lv2 st ws E) : VN_ n Y R cells slots pc lv st ws E := by
  subst hq
  intro p e s m args below meth c QQ A C hE H locs ls hP hD hS hl
  exact lv_iinc C.1 C.2.1 hd hl hj hv hn h2 (fun ls2 hl2 => kk p e s m args below meth c QQ A C hE H locs ls2 hP hD hS hl2)
theorem vn_geT {x y : Int32} {off : Int} {t : Nat} (hd : decode Y.2.1 pc = .ok (.if_icmp .ge off, 3)) (ht : (pc : Int) + off = (t : Int)) (hc : y ≤ x) (kk : VN_ n Y R cells slots t lv st ws E) : VN_ n Y R cells slots pc lv (.int y :: .int x :: st) ws E := by
  intro p e s m args below meth c QQ A C hE H locs ls hP hD hS hl
  exact lv_icmp_ge C.1 C.2.1 hd ht (fun _ => kk p e s m args below meth c QQ A C hE H locs ls hP hD hS hl) (fun z => absurd hc z)
theorem vn_geF {x y : Int32} {off : Int} {t : Nat} (hd : decode Y.2.1 pc = .ok (.if_icmp .ge off, 3)) (ht : (pc : Int) + off = (t : Int)) (hq : pc + 3 = q) (hc : ¬ y ≤ x) (kk : VN_ n Y R cells slots q lv st ws E) : VN_ n Y R cells slots pc lv (.int y :: .int x :: st) ws E := by
  subst hq
  intro p e s m args below meth c QQ A C hE H locs ls hP hD hS hl
  exact lv_icmp_ge C.1 C.2.1 hd ht (fun z => absurd z hc) (fun _ => kk p e s m args below meth c QQ A C hE H locs ls hP hD hS hl)
theorem vn_gtT {x y : Int32} {off : Int} {t : Nat} (hd : decode Y.2.1 pc = .ok (.if_icmp .gt off, 3)) (ht : (pc : Int) + off = (t : Int)) (hc : y < x) (kk : VN_ n Y R cells slots t lv st ws E) : VN_ n Y R cells slots pc lv (.int y :: .int x :: st) ws E := by
  intro p e s m args below meth c QQ A C hE H locs ls hP hD hS hl
  exact lv_icmp_gt C.1 C.2.1 hd ht (fun _ => kk p e s m args below meth c QQ A C hE H locs ls hP hD hS hl) (fun z => absurd hc z)
theorem vn_gtF {x y : Int32} {off : Int} {t : Nat} (hd : decode Y.2.1 pc = .ok (.if_icmp .gt off, 3)) (ht : (pc : Int) + off = (t : Int)) (hq : pc + 3 = q) (hc : ¬ y < x) (kk : VN_ n Y R cells slots q lv st ws E) : VN_ n Y R cells slots pc lv (.int y :: .int x :: st) ws E := by
  subst hq
  intro p e s m args below meth c QQ A C hE H locs ls hP hD hS hl
  exact lv_icmp_gt C.1 C.2.1 hd ht (fun z => absurd z hc) (fun _ => kk p e s m args below meth c QQ A C hE H locs ls hP hD hS hl)
theorem vn_goto {off : Int} {t : Nat} (hd : decode Y.2.1 pc = .ok (.goto off, 3)) (ht : (pc : Int) + off = (t : Int)) (kk : VN_ n Y R cells slots t lv st ws E) : VN_ n Y R cells slots pc lv st ws E := by
  intro p e s m args below meth c QQ A C hE H locs ls hP hD hS hl
  exact lv_goto C.1 C.2.1 hd ht (kk p e s m args below meth c QQ A C hE H locs ls hP hD hS hl)
theorem vn_dup {x : Nat} (hd : decode Y.2.1 pc = .ok (.dup, 1)) (hq : pc + 1 = q) (kk : VN_ n Y R cells slots q lv (.ref x :: .ref x :: st) ws E) : VN_ n Y R cells slots pc lv (.ref x :: st) ws E := by
  subst hq
  intro p e s m args below meth c QQ A C hE H locs ls hP hD hS hl
  exact lv_dup C.1 C.2.1 hd rfl (kk p e s m args below meth c QQ A C hE H locs ls hP hD hS hl)
theorem vn_obj {idx a : Nat} (hd : decode Y.2.1 pc = .ok (.invokespecial idx, 3)) (hq : pc + 3 = q) (hw : Cond.methodLink Y.1.cls idx Lib.objectInit ∈ lw_g) (hi : Cond.instanceMethod Lib.objectInit ∈ lw_g) (hc : Cond.code Lib.objectInit ⟨#[0xb1]⟩ 1 none ∈ lw_g) (hf : 1 ≤ R.frames) (hlo : 12 ≤ R.locals) (kk : VN_ n Y R cells slots q lv [] ws E) : VN_ n Y R cells slots pc lv [.ref a] ws E := by
  subst hq
  intro p e s m args below meth c QQ A C hE H locs ls hP hD hS hl
  refine W.objInit C.1 C.2.1 C.2.2.2.1 (C.2.2.2.2.1 _ hw) (C.2.2.2.2.1 _ hi) (C.2.2.2.2.1 _ hc) rfl (by rw [C.2.2.1]; exact hl.1) rfl hd hf hlo ?_
  exact kk p e s m args below meth c QQ A C hE H locs ls hP hD hS hl
theorem nk_I {s : State} {cA : ClassId} (h : ke_ n s) (h2 : va_RA s cA .int) : cA = ng_I n := by
  have h1 : va_RA s (ng_I n) .int := (h.1.2 0 (ng_I n, .int) rfl).2
  exact Option.some.inj (h2.symm.trans h1)
theorem nk_Z {s : State} {cA : ClassId} (h : ke_ n s) (h2 : va_RA s cA .boolean) : cA = ng_Z n := by
  have h1 : va_RA s (ng_Z n) .boolean := (h.1.2 1 (ng_Z n, .boolean) rfl).2
  exact Option.some.inj (h2.symm.trans h1)
theorem nk_M {s : State} {cA : ClassId} (h : ke_ n s) (h2 : va_RA s cA (.object "NodBets$Mind")) : cA = ng_M n := by
  have h1 : va_RA s (ng_M n) (.object "NodBets$Mind") := (h.1.2 2 (ng_M n, .object "NodBets$Mind") rfl).2
  obtain ⟨-, -, -, -, -, e1⟩ := h1
  obtain ⟨-, -, -, -, -, e2⟩ := h2
  exact Option.some.inj (e2.symm.trans e1)
theorem nk_T {s : State} {cA : ClassId} (h : ke_ n s) (h2 : va_RA s cA (.object "NodBets$Town")) : cA = ng_T n := by
  have h1 : va_RA s (ng_T n) (.object "NodBets$Town") := (h.1.2 3 (ng_T n, .object "NodBets$Town") rfl).2
  obtain ⟨-, -, -, -, -, e1⟩ := h1
  obtain ⟨-, -, -, -, -, e2⟩ := h2
  exact Option.some.inj (e2.symm.trans e1)
theorem vn_newI {v : Int32} {N : Nat} (hd : decode Y.2.1 pc = .ok (.newarray .int, 2)) (hq : pc + 2 = q) (h0 : ¬ v < 0) (hN : v.toNatClampNeg = N) (hb : N * 4 ≤ 536870912) (hc : cells + 1 ≤ R.cells) (hs : slots + N ≤ R.slots) (hw : Cond.arrayClass .int ∈ lw_g) (kk : ∀ a, VN_ n Y R (cells + 1) (slots + N) q lv (.ref a :: st) (ws ++ [(a, .inl (ng_I n, N, .inl (fun _ => 0)))]) E) : VN_ n Y R cells slots pc lv (.int v :: st) ws E := by
  subst hq
  intro p e s m args below meth c QQ A C hE H locs ls hP hD hS hl
  refine va_newa (a0 := (N, .inl (fun _ => 0))) C.1 C.2.1 (atype := .int) (C.2.2.2.2.1 _ hw) (ty := .int) rfl C.2.2.2.2.2.1.1 hP hD hS C.2.2.2.2.2.2.1 (fun cA => rfl) h0 hN hb hc hs hd (fun a cA H1 hK1 hP1 hD1 hS1 => ?_)
  have e1 : cA = ng_I n := nk_I C.2.2.2.2.2.1 (hK1.2 4 (cA, .int) rfl).2
  subst e1
  exact kk a p e s m args below meth c QQ A C hE H1 locs ls hP1 hD1 hS1 hl
theorem vn_newZ {v : Int32} {N : Nat} (hd : decode Y.2.1 pc = .ok (.newarray .boolean, 2)) (hq : pc + 2 = q) (h0 : ¬ v < 0) (hN : v.toNatClampNeg = N) (hb : N * 1 ≤ 536870912) (hc : cells + 1 ≤ R.cells) (hs : slots + N ≤ R.slots) (hw : Cond.arrayClass .boolean ∈ lw_g) (kk : ∀ a, VN_ n Y R (cells + 1) (slots + N) q lv (.ref a :: st) (ws ++ [(a, .inl (ng_Z n, N, .inl (fun _ => 0)))]) E) : VN_ n Y R cells slots pc lv (.int v :: st) ws E := by
  subst hq
  intro p e s m args below meth c QQ A C hE H locs ls hP hD hS hl
  refine va_newa (a0 := (N, .inl (fun _ => 0))) C.1 C.2.1 (atype := .boolean) (C.2.2.2.2.1 _ hw) (ty := .boolean) rfl C.2.2.2.2.2.1.1 hP hD hS C.2.2.2.2.2.2.1 (fun cA => rfl) h0 hN hb hc hs hd (fun a cA H1 hK1 hP1 hD1 hS1 => ?_)
  have e1 : cA = ng_Z n := nk_Z C.2.2.2.2.2.1 (hK1.2 4 (cA, .boolean) rfl).2
  subst e1
  exact kk a p e s m args below meth c QQ A C hE H1 locs ls hP1 hD1 hS1 hl
theorem vn_newM {v : Int32} {N idx : Nat} (hd : decode Y.2.1 pc = .ok (.anewarray idx, 3)) (hq : pc + 3 = q) (h0 : ¬ v < 0) (hN : v.toNatClampNeg = N) (hb : N * 4 ≤ 536870912) (hc : cells + 1 ≤ R.cells) (hs : slots + N ≤ R.slots) (hw : Cond.classLink Y.1.cls idx "NodBets$Mind" ∈ lw_g) (kk : ∀ a, VN_ n Y R (cells + 1) (slots + N) q lv (.ref a :: st) (ws ++ [(a, .inl (ng_M n, N, .inr (.inr (.inr (.inr (fun _ => none))))))]) E) : VN_ n Y R cells slots pc lv (.int v :: st) ws E := by
  subst hq
  intro p e s m args below meth c QQ A C hE H locs ls hP hD hS hl
  refine va_newq C.1 C.2.1 C.2.2.2.1 (C.2.2.2.2.1 _ hw) C.2.2.2.2.2.1.2.1 C.2.2.2.2.2.1.1 hP hD hS C.2.2.2.2.2.2.1 h0 hN hb hc hs hd (fun a cA H1 hK1 hP1 hD1 hS1 => ?_)
  have e1 : cA = ng_M n := nk_M C.2.2.2.2.2.1 (hK1.2 4 (cA, .object "NodBets$Mind") rfl).2
  subst e1
  exact kk a p e s m args below meth c QQ A C hE H1 locs ls hP1 hD1 hS1 hl
theorem vn_newT {v : Int32} {N idx : Nat} (hd : decode Y.2.1 pc = .ok (.anewarray idx, 3)) (hq : pc + 3 = q) (h0 : ¬ v < 0) (hN : v.toNatClampNeg = N) (hb : N * 4 ≤ 536870912) (hc : cells + 1 ≤ R.cells) (hs : slots + N ≤ R.slots) (hw : Cond.classLink Y.1.cls idx "NodBets$Town" ∈ lw_g) (kk : ∀ a, VN_ n Y R (cells + 1) (slots + N) q lv (.ref a :: st) (ws ++ [(a, .inl (ng_T n, N, .inr (.inr (.inr (.inr (fun _ => none))))))]) E) : VN_ n Y R cells slots pc lv (.int v :: st) ws E := by
  subst hq
  intro p e s m args below meth c QQ A C hE H locs ls hP hD hS hl
  refine va_newq C.1 C.2.1 C.2.2.2.1 (C.2.2.2.2.1 _ hw) C.2.2.2.2.2.1.2.2.1 C.2.2.2.2.2.1.1 hP hD hS C.2.2.2.2.2.2.1 h0 hN hb hc hs hd (fun a cA H1 hK1 hP1 hD1 hS1 => ?_)
  have e1 : cA = ng_T n := nk_T C.2.2.2.2.2.1 (hK1.2 4 (cA, .object "NodBets$Town") rfl).2
  subst e1
  exact kk a p e s m args below meth c QQ A C hE H1 locs ls hP1 hD1 hS1 hl
theorem vn_new {idx ci N : Nat} {Cn : String} {T : u_T} {fs : List Value} (ty : Nat → FieldType) (hd : decode Y.2.1 pc = .ok (.new idx, 3)) (hq : pc + 3 = q) (hin : ∀ w ∈ u_ws Cn T N, w ∈ lw_g) (hty : ∀ k, k < N → parseFieldDescriptor (T k).2.2.1 = some (ty k)) (hw : Cond.classLink Y.1.cls idx Cn ∈ lw_g) (hw2 : Cond.instantiable Cn N ∈ lw_g) (hw3 : Cond.initialized Cn ∈ lw_g) (hci : vwCl[ci]? = some (Cn, T, N)) (hfs : ∀ j, j < N → defaultValue (ty j) = vp_V fs j) (hc : cells + 1 ≤ R.cells) (hs : slots + N ≤ R.slots) (kk : ∀ a, VN_ n Y R (cells + 1) (slots + N) q lv (.ref a :: st) (ws ++ [(a, .inr (ci, fs))]) E) : VN_ n Y R cells slots pc lv st ws E := by
  subst hq
  intro p e s m args below meth c QQ A C hE H locs ls hP hD hS hl
  refine va_new (ci := ci) (fs := fs) C.1 C.2.1 C.2.2.2.2.1 hin ty hty C.2.2.2.1 (C.2.2.2.2.1 _ hw) (C.2.2.2.2.1 _ hw2) (C.2.2.2.2.1 _ hw3) C.2.2.2.2.2.1.1 hP hD hS C.2.2.2.2.2.2.1 hci hfs hc hs hd (fun a H1 hP1 hD1 hS1 => ?_)
  exact kk a p e s m args below meth c QQ A C hE H1 locs ls hP1 hD1 hS1 hl
theorem vn_put {idx ci N k q0 a : Nat} {Cn : String} {T : u_T} {fs : List Value} {ty0 : Nat → FieldType} {v : Value} {ty : FieldType} {ws2 : va_W} (hd : decode Y.2.1 pc = .ok (.putfield idx, 3)) (hq : pc + 3 = q) (hin : ∀ w ∈ u_ws Cn T N, w ∈ lw_g) (hty : ∀ k, k < N → parseFieldDescriptor (T k).2.2.1 = some (ty0 k)) (hnm : ∀ a, a < N → ∀ b, b < N → a ≠ b → (T a).2.1 ≠ (T b).2.1) (he : ws[q0]? = some (a, .inr (ci, fs))) (hci : vwCl[ci]? = some (Cn, T, N)) (hk : k < N) (hw : Cond.fieldLink Y.1.cls idx (T k).1 (T k).2.1 (T k).2.2.1 ∈ lw_g) (hfin : (T k).2.2.2 = false) (hp : parseFieldDescriptor (T k).2.2.1 = some ty) (hn : narrow ty v = v) (hfit : fits ty v = true) (hlen : k < fs.length) (h2 : ws.set q0 (a, .inr (ci, fs.set k v)) = ws2) (kk : VN_ n Y R cells slots q lv st ws2 E) : VN_ n Y R cells slots pc lv (v :: .ref a :: st) ws E := by
  subst hq
  subst h2
  intro p e s m args below meth c QQ A C hE H locs ls hP hD hS hl
  refine va_put (D := ng_D n) (ci := ci) (v := v) (ty := ty) (C := Cn) (T := T) (N := N) C.1 C.2.1 C.2.2.2.2.1 hin ty0 hty hnm C.2.2.2.1 C.2.2.2.2.2.1.1 hP hD hS q0 he hci k hk (C.2.2.2.2.1 _ hw) (fun _ z => z) hfin hp hn hfit hlen hd (fun H1 locs1 hP1 hD1 hS1 => ?_)
  exact kk p e s m args below meth c QQ A C hE H1 locs1 ls hP1 hD1 hS1 hl
theorem vn_putF {idx ci N k q0 a : Nat} {Cn : String} {T : u_T} {fs : List Value} {ty0 : Nat → FieldType} {v : Value} {ty : FieldType} {ws2 : va_W} (hd : decode Y.2.1 pc = .ok (.putfield idx, 3)) (hq : pc + 3 = q) (hin : ∀ w ∈ u_ws Cn T N, w ∈ lw_g) (hty : ∀ k, k < N → parseFieldDescriptor (T k).2.2.1 = some (ty0 k)) (hnm : ∀ a, a < N → ∀ b, b < N → a ≠ b → (T a).2.1 ≠ (T b).2.1) (he : ws[q0]? = some (a, .inr (ci, fs))) (hci : vwCl[ci]? = some (Cn, T, N)) (hk : k < N) (hw : Cond.fieldLink Y.1.cls idx (T k).1 (T k).2.1 (T k).2.2.1 ∈ lw_g) (hfin : (T k).2.2.2 = true) (hnm2 : Y.1.name = "<init>") (hdc : (T k).1 = Y.1.cls) (hp : parseFieldDescriptor (T k).2.2.1 = some ty) (hn : narrow ty v = v) (hfit : fits ty v = true) (hlen : k < fs.length) (h2 : ws.set q0 (a, .inr (ci, fs.set k v)) = ws2) (kk : VN_ n Y R cells slots q lv st ws2 E) : VN_ n Y R cells slots pc lv (v :: .ref a :: st) ws E := by
  subst hq
  subst h2
  intro p e s m args below meth c QQ A C hE H locs ls hP hD hS hl
  refine va_putF (D := ng_D n) (ci := ci) (v := v) (ty := ty) (C := Cn) (T := T) (N := N) C.1 C.2.1 C.2.2.2.2.1 hin ty0 hty hnm C.2.2.2.1 C.2.2.2.2.2.1.1 hP hD hS q0 he hci k hk (C.2.2.2.2.1 _ hw) (fun _ z => z) hfin (C.2.2.2.2.2.2.2 hnm2) hdc hp hn hfit hlen hd (fun H1 locs1 hP1 hD1 hS1 => ?_)
  exact kk p e s m args below meth c QQ A C hE H1 locs1 ls hP1 hD1 hS1 hl
theorem vn_get {idx ci N k q0 a : Nat} {Cn : String} {T : u_T} {fs : List Value} {v : Value} (hd : decode Y.2.1 pc = .ok (.getfield idx, 3)) (hq : pc + 3 = q) (hin : ∀ w ∈ u_ws Cn T N, w ∈ lw_g) (he : ws[q0]? = some (a, .inr (ci, fs))) (hci : vwCl[ci]? = some (Cn, T, N)) (hk : k < N) (hw : Cond.fieldLink Y.1.cls idx (T k).1 (T k).2.1 (T k).2.2.1 ∈ lw_g) (hv : fs[k]? = some v) (kk : VN_ n Y R cells slots q lv (v :: st) ws E) : VN_ n Y R cells slots pc lv (.ref a :: st) ws E := by
  subst hq
  intro p e s m args below meth c QQ A C hE H locs ls hP hD hS hl
  exact va_get (D := ng_D n) (ci := ci) (v := v) (C := Cn) (T := T) (N := N) C.1 C.2.1 C.2.2.2.2.1 hin C.2.2.2.1 C.2.2.2.2.2.1.1 hP q0 he hci k hk (C.2.2.2.2.1 _ hw) (fun _ z => z) hv hd (kk p e s m args below meth c QQ A C hE H locs ls hP hD hS hl)
theorem vn_iast {q0 a N : Nat} {f : Nat → Int32} {i x : Int32} {ws2 : va_W} (hd : decode Y.2.1 pc = .ok (.iastore, 1)) (hq : pc + 1 = q) (he : ws[q0]? = some (a, .inl (ng_I n, N, .inl f))) (hi : vp_in i N) (h2 : ws.set q0 (a, .inl (ng_I n, N, .inl (upd f i.toNatClampNeg x))) = ws2) (kk : VN_ n Y R cells slots q lv st ws2 E) : VN_ n Y R cells slots pc lv (.int x :: .int i :: .ref a :: st) ws E := by
  subst hq
  subst h2
  intro p e s m args below meth c QQ A C hE H locs ls hP hD hS hl
  refine va_iast (D := ng_D n) (cl := vwCl) C.1 C.2.1 C.2.2.2.2.2.1.1 hP hD hS q0 0 he rfl hi hd (fun H1 locs1 hP1 hD1 hS1 => ?_)
  exact kk p e s m args below meth c QQ A C hE H1 locs1 ls hP1 hD1 hS1 hl
theorem vn_aaM {q0 qk a N v : Nat} {vs : List Value} {f : Nat → Option Nat} {i : Int32} {ws2 : va_W} (hd : decode Y.2.1 pc = .ok (.aastore, 1)) (hq : pc + 1 = q) (he : ws[q0]? = some (a, .inl (ng_M n, N, .inr (.inr (.inr (.inr f)))))) (hv : ws[qk]? = some (v, .inr (3, vs))) (hi : vp_in i N) (h2 : ws.set q0 (a, .inl (ng_M n, N, .inr (.inr (.inr (.inr (va_up f i.toNatClampNeg (some v))))))) = ws2) (kk : VN_ n Y R cells slots q lv st ws2 E) : VN_ n Y R cells slots pc lv (.ref v :: .int i :: .ref a :: st) ws E := by
  subst hq
  subst h2
  intro p e s m args below meth c QQ A C hE H locs ls hP hD hS hl
  refine va_astq (D := ng_D n) (cl := vwCl) (r := (RX4, TX4, 4)) C.1 C.2.1 C.2.2.2.2.2.1.1 hP hD hS q0 2 qk 3 he rfl hv rfl hi hd (fun H1 locs1 hP1 hD1 hS1 => ?_)
  exact kk p e s m args below meth c QQ A C hE H1 locs1 ls hP1 hD1 hS1 hl
theorem vn_aaT {q0 qk a N v : Nat} {vs : List Value} {f : Nat → Option Nat} {i : Int32} {ws2 : va_W} (hd : decode Y.2.1 pc = .ok (.aastore, 1)) (hq : pc + 1 = q) (he : ws[q0]? = some (a, .inl (ng_T n, N, .inr (.inr (.inr (.inr f)))))) (hv : ws[qk]? = some (v, .inr (6, vs))) (hi : vp_in i N) (h2 : ws.set q0 (a, .inl (ng_T n, N, .inr (.inr (.inr (.inr (va_up f i.toNatClampNeg (some v))))))) = ws2) (kk : VN_ n Y R cells slots q lv st ws2 E) : VN_ n Y R cells slots pc lv (.ref v :: .int i :: .ref a :: st) ws E := by
  subst hq
  subst h2
  intro p e s m args below meth c QQ A C hE H locs ls hP hD hS hl
  refine va_astq (D := ng_D n) (cl := vwCl) (r := (RX7, TX7, 11)) C.1 C.2.1 C.2.2.2.2.2.1.1 hP hD hS q0 3 qk 6 he rfl hv rfl hi hd (fun H1 locs1 hP1 hD1 hS1 => ?_)
  exact kk p e s m args below meth c QQ A C hE H1 locs1 ls hP1 hD1 hS1 hl
/-- a constructor's contract: of an object as it is new, what stands there then -/
def NC_ (n : NG_) (Y : MD_) (R : Room) (pre : va_E) (as : List Value) (post : Nat → (Nat → Nat) → va_W) : Prop := ∀ (a sz : Nat), Met (ng_l n) Y.1 (sm_w Y) R (va_Pc (.ref a :: as) (fun U => U.heap.size = sz ∧ va_P (ng_D n) vwCl [(a, pre)] U.heap ∧ ke_ n U ∧ va_D (fun _ => True) [(a, pre)])) (va_Qv (fun _ : Nat → Nat => True) (fun u t => va_P (ng_D n) vwCl (post a u) t.heap ∧ va_D (va_A [(a, pre)] sz) (post a u)) (va_A [(a, pre)] sz)) R.cells R.slots (va_A [(a, pre)] sz)
theorem nc_mk {pre : va_E} {as : List Value} {post : Nat → (Nat → Nat) → va_W} (hy : plainName Y.1.cls = true) (hnm : Y.1.name = "<init>") (hr : Y.2.2.2.1 = none) (hlen : (lg_sl (.ref 0 :: as)).length ≤ Y.2.2.1) (hlv : ∀ a : Nat, lv_args 0 (.ref a :: as) = lv_args 0 (.ref a :: as)) (k : ∀ a, VN_ n Y R 0 0 0 (lv_args 0 (.ref a :: as)) [] [(a, pre)] (fun pc lv st ws c s => decode Y.2.1 pc = .ok (.return_, 1) ∧ st = [] ∧ c ≤ R.cells ∧ s ≤ R.slots ∧ ∃ u, ws = post a u)) : NC_ n Y R pre as post := by
  intro a sz
  refine Met.ofW (cc := Y.2.1) (maxL := Y.2.2.1) (ret := Y.2.2.2.1) hy rfl ?_
  intro p e s m args below meth c s₁ B hml hv
  obtain ⟨rfl, hsz, hP, hK, hD0⟩ := hv
  have hts := atoms_spec (ws := sm_w Y) B.pre
  have hown : s.vm.findClass Y.1.cls = some m.cls := findClass_of_methodNamed B.named
  have hlocks := B.notSynchronized
  have hin : meth.name = Y.1.name := (name_of_methodNamed B.named B.method).1
  have hret := B.returns
  rw [hr] at hret
  subst hsz
  have hD := hD0.self (sz := s.heap.size)
  have hA : ∀ q : Nat, s.heap.size ≤ q → va_A [(a, pre)] s.heap.size q := fun q h => Or.inr h
  have hl := lv_entry (.ref a :: as) (n := Y.2.2.1) hlen
  rw [lg_entry_eq]
  refine k a p e s m _ below meth c _ _ ⟨B.exec, B.bytes, hml, hown, fun w hw => hts w (List.mem_cons_of_mem _ hw), hK, hA, fun _ => hin.trans hnm⟩ (fun pc2 lv2 st2 ws2 c2 s2 hE H locs ls hP2 hD2 hS2 hl2 => ?_) s.heap [] _ hP hD va_S.rf hl
  obtain ⟨e1, rfl, e3, e4, u, rfl⟩ := hE
  refine W.widen (k := R.cells) (n := R.slots) e3 e4 ?_
  exact W.vret B.exec B.bytes hret (fun t ht hW => ⟨⟨u, rfl, trivial, by rw [ht]; exact hP2, hD2⟩, hS2.F ht⟩) hS2.2.2 e1
theorem vn_call {pre : va_E} {as : List Value} {post : Nat → (Nat → Nat) → va_W} {Y2 : MD_} {R2 : Room} {idx a nn : Nat} (hd : decode Y.2.1 pc = .ok (.invokespecial idx, 3)) (hq : pc + 3 = q) (hN : NC_ n Y2 R2 pre as post) (hc2 : Cond.code Y2.1 Y2.2.1 Y2.2.2.1 none ∈ lw_g) (hr2 : Y2.2.2.2.1 = none) (hi2 : Cond.initialized Y2.1.cls ∈ lw_g) (hl2 : Cond.methodLink Y.1.cls idx Y2.1 ∈ lw_g) (him : Cond.instanceMethod Y2.1 ∈ lw_g) (hnm : Y2.1.name = "<init>") (hds : Y2.1.cls ≠ "java/lang/invoke/MethodHandle" ∧ Y2.1.cls ≠ "java/lang/invoke/VarHandle" ∧ (parseMethodDescriptor Y2.1.desc).map (fun d => d.parameters.length) = some nn) (hnn : as.length = nn) (hrm : R2.frames + 1 ≤ R.frames ∧ 8 + (Y2.2.2.1 + 11) + R2.locals ≤ R.locals) (hW : ((st).map fun v => v.category).sum ≤ 8) (hce : cells + R2.cells ≤ R.cells ∧ slots + R2.slots ≤ R.slots) (kk : ∀ u, VN_ n Y R (cells + R2.cells) (slots + R2.slots) q lv st (ws ++ post a u) E) : VN_ n Y R cells slots pc lv (as.reverse ++ .ref a :: st) (ws ++ [(a, pre)]) E := by
  subst hq
  intro p e s m args below meth c QQ A C hE H locs ls hP hD hS hl
  have pP := la_P hP
  have dD := la_D hD
  have hF : ∀ q, va_A [(a, pre)] H.size q → A q := fun q z => by
    rcases z with ⟨i, e, hi⟩ | z
    · exact dD.2.1.2 i _ hi
    · exact C.2.2.2.2.2.2.1 q (Nat.le_trans hS.1 z)
  have hG : GoodIn lw_g (sm_w Y2) := fun w hw => by
    have hm : w ∈ lw_g := (List.mem_cons.mp hw).elim (fun e => by rw [e, hr2]; exact hc2) id
    exact ⟨hm, tb_g w hm⟩
  have hw0 : sm_w Y2 = Cond.code Y2.1 Y2.2.1 Y2.2.2.1 none :: lw_g := by unfold sm_w; rw [hr2]
  refine va_callv (va_runI (As := as) (rest := st) ⟨C.1, C.2.1, C.2.2.1, C.2.2.2.1, C.2.2.2.2.1⟩ (hN a H.size) (cwI nn C.2.2.2.2.1 hG hw0 rfl rfl (C.2.2.2.2.1 _ hi2) (C.2.2.2.2.1 _ hl2) (C.2.2.2.2.1 _ him) hnm hds hrm) ⟨fun av U g mk q => by obtain ⟨q0, q1, qP, qK, qD⟩ := q; exact ⟨q0, q1, qP, ke_s (s := U) rfl qK, qD⟩, fun U hU hW => ⟨rfl, by rw [hU], by rw [hU]; exact pP.2, ke_w hW C.2.2.2.2.2.1, dD.2.1.weaken (fun _ _ _ _ => trivial)⟩⟩ rfl hnn hl.1 rfl (lv_room hW) hd hce) hS (fun q _ h => hF q h) hF (fun u t H1 locs1 ht hvm hw hB hz1 hk1 hS1 => ?_)
  obtain ⟨hP1, hD1⟩ := hB
  rw [ht] at hP1
  obtain ⟨hP2, hD2⟩ := la_j hP hD hk1 hF hP1 hD1
  exact kk u p e s m args below meth c QQ A C hE H1 locs1 ls hP2 hD2 hS1 hl
theorem vn_callN {pre : va_E} {as : List Value} {post : Nat → (Nat → Nat) → va_W} {Y2 : MD_} {R2 : Room} {idx a nn : Nat} (hd : decode Y.2.1 pc = .ok (.invokespecial idx, 3)) (hq : pc + 3 = q) (hN : NC_ n Y2 R2 pre as post) (hc2 : Cond.code Y2.1 Y2.2.1 Y2.2.2.1 none ∈ lw_g) (hr2 : Y2.2.2.2.1 = none) (hi2 : Cond.initialized Y2.1.cls ∈ lw_g) (hl2 : ∀ s, ke_ n s → va_Nw (.methodLinkNest Y.1.cls idx Y2.1 RX8) s) (him : Cond.instanceMethod Y2.1 ∈ lw_g) (hnm : Y2.1.name = "<init>") (hds : Y2.1.cls ≠ "java/lang/invoke/MethodHandle" ∧ Y2.1.cls ≠ "java/lang/invoke/VarHandle" ∧ (parseMethodDescriptor Y2.1.desc).map (fun d => d.parameters.length) = some nn) (hnn : as.length = nn) (hrm : R2.frames + 1 ≤ R.frames ∧ 8 + (Y2.2.2.1 + 11) + R2.locals ≤ R.locals) (hW : ((st).map fun v => v.category).sum ≤ 8) (hce : cells + R2.cells ≤ R.cells ∧ slots + R2.slots ≤ R.slots) (kk : ∀ u, VN_ n Y R (cells + R2.cells) (slots + R2.slots) q lv st (ws ++ post a u) E) : VN_ n Y R cells slots pc lv (as.reverse ++ .ref a :: st) (ws ++ [(a, pre)]) E := by
  subst hq
  intro p e s m args below meth c QQ A C hE H locs ls hP hD hS hl
  have pP := la_P hP
  have dD := la_D hD
  have hF : ∀ q, va_A [(a, pre)] H.size q → A q := fun q z => by
    rcases z with ⟨i, e, hi⟩ | z
    · exact dD.2.1.2 i _ hi
    · exact C.2.2.2.2.2.2.1 q (Nat.le_trans hS.1 z)
  have hG : GoodIn lw_g (sm_w Y2) := fun w hw => by
    have hm : w ∈ lw_g := (List.mem_cons.mp hw).elim (fun e => by rw [e, hr2]; exact hc2) id
    exact ⟨hm, tb_g w hm⟩
  have hw0 : sm_w Y2 = Cond.code Y2.1 Y2.2.1 Y2.2.2.1 none :: lw_g := by unfold sm_w; rw [hr2]
  refine va_callv (va_runIN (host := RX8) (As := as) (rest := st) ⟨C.1, C.2.1, C.2.2.1, C.2.2.2.1, C.2.2.2.2.1⟩ (hN a H.size) ⟨va_cnB nn C.2.2.2.2.1 hG hw0 rfl rfl (hl2 s C.2.2.2.2.2.1) (C.2.2.2.2.1 _ hi2) hds hrm, hnm, C.2.2.2.2.1 _ him⟩ ⟨fun av U g mk q => by obtain ⟨q0, q1, qP, qK, qD⟩ := q; exact ⟨q0, q1, qP, ke_s (s := U) rfl qK, qD⟩, fun U hU hW => ⟨rfl, by rw [hU], by rw [hU]; exact pP.2, ke_w hW C.2.2.2.2.2.1, dD.2.1.weaken (fun _ _ _ _ => trivial)⟩⟩ rfl hnn hl.1 rfl (lv_room hW) hd hce) hS (fun q _ h => hF q h) hF (fun u t H1 locs1 ht hvm hw hB hz1 hk1 hS1 => ?_)
  obtain ⟨hP1, hD1⟩ := hB
  rw [ht] at hP1
  obtain ⟨hP2, hD2⟩ := la_j hP hD hk1 hF hP1 hD1
  exact kk u p e s m args below meth c QQ A C hE H1 locs1 ls hP2 hD2 hS1 hl
end VN_S
