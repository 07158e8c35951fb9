/-! THE CLAIM OUT OF ONE WALK OF THE LAW'S BODY. Your part is whole_start (and what it stands on); all else here is the same for every law, but numbers. -/
def R_law : String := "NodBetsLaw"
def lw_P (b : Addr) (xs : List Int32) (args : Array Value) (s : State) : Prop := args = #[.ref b] ∧ s.IntsAt b xs ∧ xs.length ≤ 512 ∧ (Jvm.Cond.and given_1 narrow_1).before args s = true
def lw_Q (_ : Array Value) (s : State) (o : Outcome) (t : State) : Prop := o = .returned (some (.int 1)) ∧ Framed s o t [] 600000 7302250
def lw_Z (below : List Frame) (a : Array Value) (s : State) : State → Prop := fun t => ∃ o, t.status = .running ∧ Ended t below o ∧ lw_Q a s o t
/-- the law's own end, with 1 on the stack, nothing written that was there before, its room as the claim has it -/
theorem lw_ret {p : Program} {l : Launch} {e : Env} {s : State} {m : MethodId} {below : List Frame} {meth : Method} {c : Code} {b : Nat} (hx : p.tables.exec = Jvm.exec) (hb : c.code = code) (hr : meth.sig.returnType = ret) (hlocks : meth.locks = false) {pc : Nat} {H : Heap} {ls : Array Slot} (hdg : decode code pc = .ok (.ireturn, 1)) : W p l e room_1 s m #[Value.ref b] below meth c H [] 600000 7302250 (lw_Z below #[Value.ref b] s) (F0 m pc ls [.int 1]) := by
  intro T hT X
  obtain ⟨fs, hret, hrun, hended, hW, hframe⟩ := X.leave (v := some (.int 1)) (hlocks := hlocks) (fun h => by rw [hr] at h; cases h)
  have hmeth' : T.vm.method? m = some meth := X.method'
  refine ⟨T.setFrames fs, ?_, .returned (some (.int 1)), hrun, hended, rfl, ⟨_, rfl⟩, hW, hframe⟩
  jvm_step X.here [X.here.top, hx, hb, hdg, hmeth', hr, ret, narrow_b1]
  (try refine ⟨rfl, ?_⟩); (try refine ⟨rfl, ?_⟩)
  first | (intro acts; rw [hret _ acts rfl rfl rfl]) | rw [hret _ _ rfl rfl rfl]
  exact Steps.refl _
/-- what holds at the law's entry: the machine, the code, the tables' words (any of lw_tbl by 'hts w (by decide +kernel)'), the script of L ints xs at the cell b, what the Statement gives of the start (any of its parts by flat_of_before) -/
def lw_At (p : Program) (s : State) (m : MethodId) (meth : Method) (c : Code) (b L : Nat) (xs : Nat → Int32) : Prop :=
  p.tables.exec = Jvm.exec ∧ c.code = code ∧ meth.sig.returnType = ret ∧ c.maxLocals = 4 ∧ s.vm.findClass R_law = some m.cls ∧ (∀ w ∈ lw_tbl, w.before #[Value.ref b] s = true) ∧ va_X b L xs s s.heap ∧ b < s.heap.size ∧ meth.locks = false ∧ (Jvm.Cond.and given_1 narrow_1).before #[Value.ref b] s = true
theorem ls_ke {args : Array Value} {s : State} (l : Launch) (hts : ∀ w ∈ lw_tbl, w.before args s = true) : ∃ (D : va_G) (cI cZ cM cT : ClassId), ke_ (l, D, cI, cZ, cM, cT) s := by
  have hg : ∀ w ∈ lw_g, w.before args s = true := fun w hw => hts w (lw_gt w hw)
  obtain ⟨c0, i0, k0⟩ := u_known (C := RX0) (T := TX0) (N := 7) (n := 7) hg in_X0 (hg (.instantiable RX0 7) (lw_gm 188 (by decide +kernel) rfl))
  obtain ⟨c1, i1, k1⟩ := u_known (C := RX1) (T := TX1) (N := 2) (n := 2) hg in_X1 (hg (.instantiable RX1 2) (lw_gm 270 (by decide +kernel) rfl))
  obtain ⟨c2, i2, k2⟩ := u_known (C := RX2) (T := TX2) (N := 8) (n := 8) hg in_X2 (hg (.instantiable RX2 8) (lw_gm 216 (by decide +kernel) rfl))
  obtain ⟨c3, i3, k3⟩ := u_known (C := RX4) (T := TX4) (N := 4) (n := 4) hg in_X4 (hg (.instantiable RX4 4) (lw_gm 223 (by decide +kernel) rfl))
  obtain ⟨c4, i4, k4⟩ := u_known (C := RX5) (T := TX5) (N := 4) (n := 4) hg in_X5 (hg (.instantiable RX5 4) (lw_gm 101 (by decide +kernel) rfl))
  obtain ⟨c5, i5, k5⟩ := u_known (C := RX6) (T := TX6) (N := 3) (n := 3) hg in_X6 (hg (.instantiable RX6 3) (lw_gm 84 (by decide +kernel) rfl))
  obtain ⟨c6, i6, k6⟩ := u_known (C := RX7) (T := TX7) (N := 11) (n := 11) hg in_X7 (hg (.instantiable RX7 11) (lw_gm 120 (by decide +kernel) rfl))
  obtain ⟨c7, i7, k7⟩ := u_known (C := RX8) (T := TX8) (N := 9) (n := 9) hg in_X8 (hg (.instantiable RX8 9) (lw_gm 76 (by decide +kernel) rfl))
  obtain ⟨c8, i8, k8⟩ := u_known (C := RX9) (T := TX9) (N := 28) (n := 28) hg in_X9 (hg (.instantiable RX9 28) (lw_gm 829 (by decide +kernel) rfl))
  obtain ⟨cI, kI, pI, f1, f2, f3⟩ := Cond.arrayClass_spec (hg (.arrayClass .int) (lw_gm 99 (by decide +kernel) rfl))
  obtain ⟨cZ, kZ, pZ, z1, z2, z3⟩ := Cond.arrayClass_spec (hg (.arrayClass .boolean) (lw_gm 920 (by decide +kernel) rfl))
  have oM := hts (.arrayOver (.object "NodBets$Mind")) (List.mem_of_getElem? (i := 222) (by decide +kernel))
  have oT := hts (.arrayOver (.object "NodBets$Town")) (List.mem_of_getElem? (i := 186) (by decide +kernel))
  obtain ⟨pM, cM, kM, m1, m2, m3, m4, m5⟩ := Cond.arrayOver_spec oM
  obtain ⟨pT, cT, kT, t1, t2, t3, t4, t5⟩ := Cond.arrayOver_spec oT
  refine ⟨(fun k => ([c0, c1, c2, c3, c4, c5, c6, c7, c8] : List ClassId).getD k c0, fun k => ([i0, i1, i2, i3, i4, i5, i6, i7, i8] : List (Nat → Nat)).getD k i0), cI, cZ, cM, cT, ⟨fun k q hq => ?_, fun k q hq => ?_⟩, va_AO.of oM, va_AO.of oT, va_Nw.of rfl (hts kn_R (List.mem_of_getElem? (i := 102) (by decide +kernel))), va_Nw.of rfl (hts kn_T (List.mem_of_getElem? (i := 121) (by decide +kernel))), va_Nw.of rfl (hts kn_A (List.mem_of_getElem? (i := 189) (by decide +kernel))), va_Nw.of rfl (hts kn_M (List.mem_of_getElem? (i := 224) (by decide +kernel))), va_Nw.of rfl (hts kn_S (List.mem_of_getElem? (i := 271) (by decide +kernel)))⟩
  · match k, hq with
    | 0, hq => cases hq; exact k0
    | 1, hq => cases hq; exact k1
    | 2, hq => cases hq; exact k2
    | 3, hq => cases hq; exact k3
    | 4, hq => cases hq; exact k4
    | 5, hq => cases hq; exact k5
    | 6, hq => cases hq; exact k6
    | 7, hq => cases hq; exact k7
    | 8, hq => cases hq; exact k8
    | k + 9, hq => exact absurd (List.getElem?_eq_some_iff.mp hq).1 (by show ¬ k + 9 < 9; omega)
  · match k, hq with
    | 0, hq => cases hq; exact ⟨fun N z => ⟨(fun k h => by cases h), kI, f2, pI, f3⟩, f1⟩
    | 1, hq => cases hq; exact ⟨fun N z => ⟨(fun k h => by cases h), kZ, z2, pZ, z3⟩, z1⟩
    | 2, hq => cases hq; exact ⟨fun N z => ⟨(fun k h => by cases h), kM, m3, pM, m4⟩, kM, pM, m3, m4, m1, m5⟩
    | 3, hq => cases hq; exact ⟨fun N z => ⟨(fun k h => by cases h), kT, t3, pT, t4⟩, kT, pT, t3, t4, t1, t5⟩
    | k + 4, hq => exact absurd (List.getElem?_eq_some_iff.mp hq).1 (by show ¬ k + 4 < 4; omega)
def lx_ (t0 t1 t2 b : Nat) : Nat → Nat := fun i => if i = 0 then t0 else if i = 1 then t1 else if i = 2 then t2 else b
def lX_ (L : Nat) (xs : Nat → Int32) : Nat → Nat × (Nat → Int) := fun i => if i < 3 then (6, sx_f i) else (L, fun j => (xs j).toInt)
theorem ls_K {s : State} {n : NG_} {a : Nat} {u : Nat → Nat} {a2 : Nat} {u2 : Nat → Nat} {t0 t1 t2 b L : Nat} {xs : Nat → Int32} (hL : L ≤ 512) (hts : ∀ w ∈ lw_tbl, w.before #[Value.ref b] s = true) (hX : va_X b L xs s s.heap) (hbl : b < s.heap.size) (hke : ke_ n s) (hD : va_D (fun q => s.heap.size ≤ q) (wl_ n a u a2 u2))
    (e0 : (Term.static "NodBets$Kinds" "ABOVE" "[I").eval #[Value.ref b] s none [] s = some (.ref t0)) (T0 : va_T .int t0 6 (fun j => .int (Int32.ofInt (sx_f 0 j))) (fun q => s.heap.size ≤ q) s s.heap)
    (e1 : (Term.static "NodBets$Asks" "SIZE_BODIES" "[I").eval #[Value.ref b] s none [] s = some (.ref t1)) (T1 : va_T .int t1 6 (fun j => .int (Int32.ofInt (sx_f 1 j))) (fun q => s.heap.size ≤ q) s s.heap)
    (e2 : (Term.static "NodBets$Asks" "MARK_BODIES" "[I").eval #[Value.ref b] s none [] s = some (.ref t2)) (T2 : va_T .int t2 6 (fun j => .int (Int32.ofInt (sx_f 2 j))) (fun q => s.heap.size ≤ q) s s.heap) : sg_K (gl_ n a u a2 u2 (lx_ t0 t1 t2 b) (lX_ L xs) s.heap.size) s := by
  have hA : ∀ q : Nat, q < s.heap.size → ¬ (fun q => s.heap.size ≤ q) q := fun q h => Nat.not_le.mpr h
  have j := al_j hD
  refine ⟨hke.1, j.1, j.2, Nat.le_refl _, ?_, ?_, ?_⟩
  · exact st_ (n := 2) (st_ (n := 1) (st_ (n := 0) st_0 (va_Zref (hts (.laysStatic "NodBets$Kinds" "ABOVE" "[I") (List.mem_of_getElem? (i := 769) (by decide +kernel))) (hts (.initialized "NodBets$Kinds") (List.mem_of_getElem? (i := 72) (by decide +kernel))) e0 hA)) (va_Zref (hts (.laysStatic "NodBets$Asks" "SIZE_BODIES" "[I") (List.mem_of_getElem? (i := 783) (by decide +kernel))) (hts (.initialized "NodBets$Asks") (List.mem_of_getElem? (i := 69) (by decide +kernel))) e1 hA)) (va_Zref (hts (.laysStatic "NodBets$Asks" "MARK_BODIES" "[I") (List.mem_of_getElem? (i := 801) (by decide +kernel))) (hts (.initialized "NodBets$Asks") (List.mem_of_getElem? (i := 69) (by decide +kernel))) e2 hA)
  · exact st_ (n := 3) (st_ (n := 2) (st_ (n := 1) (st_ (n := 0) st_0 T0) T1) T2) (va_XT hX (hA b hbl))
  · refine st_ (n := 3) (st_ (n := 2) (st_ (n := 1) (st_ (n := 0) st_0 ⟨(show (6 : Nat) < 2147483648 by decide), fun j => sx_r 0 j⟩) ⟨(show (6 : Nat) < 2147483648 by decide), fun j => sx_r 1 j⟩) ⟨(show (6 : Nat) < 2147483648 by decide), fun j => sx_r 2 j⟩) ⟨?_, fun j => sr_32t (xs j)⟩
    show L < 2147483648
    omega
set_option maxRecDepth 100000 in
/-- from the entry, for every script of at most 512 ints, the law comes to its end with true -/
theorem whole_start {p : Program} {e : Env} {s : State} {m : MethodId} {below : List Frame} {meth : Method} {c : Code} (l : Launch) {b L : Nat} {xs : Nat → Int32} (hL : L ≤ 512) (C0 : lw_At p s m meth c b L xs) : W p l e room_1 s m #[Value.ref b] below meth c s.heap [] 0 0 (lw_Z below #[Value.ref b] s) (entryFrame m ([Value.ref b] : List Value).toArray 4) := by
  obtain ⟨hx, hb, hr, hml, hown, hts, hX, hbl, hlocks, hgv⟩ := C0
  have hg : ∀ w ∈ lw_g, w.before #[Value.ref b] s = true := fun w hw => hts w (lw_gt w hw)
  obtain ⟨D, cI, cZ, cM, cT, hke⟩ := ls_ke l hts
  have hl := lv_entry ([.ref b]) (n := 4) (Nat.le_of_ble_eq_true rfl)
  rw [lg_entry_eq]
  refine n_law (l, D, cI, cZ, cM, cT) b p e s m #[Value.ref b] below meth c (lw_Z below #[Value.ref b] s) (fun q => s.heap.size ≤ q) ⟨hx, hb, hml, hown, hg, hke, fun _ h => h, fun h => absurd h (by decide)⟩ (fun pc2 lv2 st2 ws2 k2 s2 hE H locs ls hP hD hS hl2 => ?_) s.heap [] _ (fun k q h => by simp at h) ⟨fun i j p q h => by simp at h, fun k q h => by simp at h⟩ va_S.rf hl
  obtain ⟨rfl, rfl, hc, hsl, a, u, a2, u2, rfl, rfl⟩ := hE
  have hA : ∀ q : Nat, q < s.heap.size → ¬ (fun q => s.heap.size ≤ q) q := fun q h => Nat.not_le.mpr h
  have hs := flat_of_before _ hgv
  obtain ⟨t0, e0, T0⟩ := sx_T0 hs hA
  obtain ⟨t1, e1, T1⟩ := sx_T1 hs hA
  obtain ⟨t2, e2, T2⟩ := sx_T2 hs hA
  have hK := ls_K (u2 := u2) hL hts hX hbl hke hD e0 T0 e1 T1 e2 T2
  have hXs : sx_ (gl_ (l, D, cI, cZ, cM, cT) a u a2 u2 (lx_ t0 t1 t2 b) (lX_ L xs) s.heap.size) := fun i hi => if_pos hi
  have V := l_law (d := 0) (Post := fun r _ => r = some (sv_i 1)) hXs (show ((L : Nat) : Int) ≤ 512 by omega) (fun _ => rfl) (L + 1) 0 ha_ (by decide) (show (((L : Nat) : Int) - 0).toNat < L + 1 by omega) (by decide) ha_J
  refine V p e room_1 s m #[Value.ref b] below meth c k2 s2 (lw_Z below #[Value.ref b] s) ⟨hx, hb, hml, hown, hg, hK, Nat.le_of_ble_eq_true rfl, Nat.le_of_ble_eq_true rfl, hc, hsl⟩ ?_ H locs ls ?_ (fun v hv => absurd hv List.not_mem_nil) ha_ok (ac_P hP) hS (lv_sub hl2 [3, 2, 1, 0] rfl)
  · intro pc lsA H2 locs2 r h hp hso hsh hP2 hS2 hsc
    subst hp
    refine va_forget (fun q hq => hS2.2.2 q hq) ?_
    refine W.widen (k := 600000) (n := 7302250) hc hsl ?_
    exact lw_ret hx hb hr hlocks hsc.1
  · intro v hv
    simp only [List.mem_cons, Option.some.injEq, List.mem_nil_iff, or_false] at hv
    rcases hv with rfl | rfl | rfl | rfl
    · exact Or.inl ⟨rfl, by decide⟩
    · exact Or.inr ⟨by decide, by decide, rfl⟩
    · exact Or.inr ⟨by decide, by decide, rfl⟩
    · exact sr_320
