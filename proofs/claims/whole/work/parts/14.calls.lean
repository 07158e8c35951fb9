def sm_w (Y : MD_) : List Cond := Cond.code Y.1 Y.2.1 Y.2.2.1 Y.2.2.2.1 :: lw_g
def sm_r (d : Nat) : Room := { frames := d, cells := 0, slots := 0, locals := 64 * d }
def sm_P (g : SG_) (as : List SV_) (h : SH_) : Array Value → State → Prop := va_Pc (as.map (sv_v g)) (fun U => va_P (sg_D g) vwCl (sw_l g h) U.heap ∧ sg_K g U)
def sm_Q (g : SG_) (Post : Option SV_ → SH_ → Prop) : Array Value → State → Outcome → State → Prop := fun _ st oc t => (∃ (r : Option SV_) (h : SH_), oc = .returned (r.map (sv_v g)) ∧ Post r h ∧ so_ok r ∧ sh_ok h ∧ va_P (sg_D g) vwCl (sw_l g h) t.heap) ∧ va_F (sg_A g) st t
/-- a method's contract, d frames deep at most -/
def Ctr_ (g : SG_) (d : Nat) (Y : MD_) (as : List SV_) (h : SH_) (Post : Option SV_ → SH_ → Prop) : Prop := sv_oks as → sh_ok h → Met (sg_l g) Y.1 (sm_w Y) (sm_r d) (sm_P g as h) (sm_Q g Post) 0 0 (sg_A g)
def so_p : Option SV_ → List SV_ → List SV_
  | some v, l => v :: l
  | none, l => l
def sm_V (own : String) (idx : Nat) (Y : MD_) (c n : Nat) : Prop := GoodIn lw_g (wsV own idx Y.1.cls Y.1 (sm_w Y)) ∧ Y.1.cls ≠ "java/lang/invoke/MethodHandle" ∧ Y.1.cls ≠ "java/lang/invoke/VarHandle" ∧ (parseMethodDescriptor Y.1.desc).map (fun d => d.parameters.length) = some n ∧ Y.2.2.1 ≤ 45 ∧ ∃ T N, vwCl[c]? = some (Y.1.cls, T, N)
def sm_S (own : String) (idx : Nat) (Y : MD_) (n : Nat) : Prop := GoodIn lw_g (va_wsS own idx Y.1 (sm_w Y)) ∧ Y.1.cls ≠ "java/lang/invoke/MethodHandle" ∧ Y.1.cls ≠ "java/lang/invoke/VarHandle" ∧ (parseMethodDescriptor Y.1.desc).map (fun d => d.parameters.length) = some n ∧ Y.2.2.1 ≤ 45
section VC_
variable {g : SG_} {d : Nat} {M : MD_} {pc q : Nat} {ls : List (Option SV_)} {st : List SV_} {h : SH_} {Post : Option SV_ → SH_ → Prop}
theorem so_pv (r : Option SV_) (l : List SV_) : (so_p r l).map (sv_v g) = (r.map (sv_v g)).toList ++ l.map (sv_v g) := by
  cases r <;> rfl
theorem so_po {r : Option SV_} {l : List SV_} (hr : so_ok r) (hl : sv_oks l) : sv_oks (so_p r l) := by
  cases r with
  | none => exact hl
  | some v => exact so_1 (hr v rfl) hl
theorem sm_blind (as : List SV_) : FrameBlind (sm_P g as h) := fun a U f mk q => ⟨q.1, q.2.1, sg_K.moved (u := U) (U := U.calling f mk a) (Vm.Alike.refl U.vm) (Nat.le_refl _) (fun _ _ _ => rfl) q.2.2⟩
theorem sm_cat (l : List SV_) : ((l.map (sv_v g)).map fun v => v.category).sum = (l.map sv_c).sum := by
  congr 1
  rw [List.map_map]
  apply List.map_congr_left
  intro v _
  exact sv_ce v
/-- behind a call -/
theorem V_back {rest : List SV_} {avs : Array Value} {p : Program} {e : Env} {R : Room} {s : State} {m : MethodId} {args : Array Value} {below : List Frame} {meth : Method} {cd : Code} {cells slots : Nat} {QQ : State → Prop} {H : Heap} {locs : List Loc} {lsA : Array Slot} {st0 : List Value} {d2 : Nat}
    (C : sc_x g d2 M p R s m args cd cells slots) (hr : sc_r g M Post p e R s m args below meth cd cells slots QQ) (oL : sl_ok ls) (oR : sv_oks rest) (hS : va_S (sg_A g) s.heap H locs) (hl : lv_has lsA M.2.2.1 (sl_v g 0 ls))
    (hrun : va_Run p (sg_l g) e R s m args below meth cd H locs cells slots 0 0 (F0 m pc lsA st0) (rest.map (sv_v g)) (sm_Q g (fun r h' => V_ g d2 M (pc + 3) ls (so_p r rest) h' Post) avs) (sg_A g)) : W p (sg_l g) e R s m args below meth cd H locs cells slots QQ (F0 m pc lsA st0) := by
  intro T hT X
  obtain ⟨v, st₀, t, T', L, h0, X', hL, e1, e2, ⟨⟨r, h', hv, hpost, hok, hok2, hP'⟩, hF⟩, stp⟩ := hrun T hT X
  have hv' : v = r.map (sv_v g) := by injection hv
  subst hv'
  unfold va_F at hF
  rw [h0] at hF
  obtain ⟨t2, a1, b1⟩ := hpost p e R s m args below meth cd cells slots QQ C hr T'.heap (locs ++ L) lsA oL (so_po hok oR) hok2 (by rw [e1]; exact hP')
    ⟨Nat.le_trans hS.1 (by rw [e1]; exact hF.1), fun q h1 h2 => by rw [e1, hF.2 q (Nat.lt_of_lt_of_le h1 hS.1) h2]; exact hS.2.1 q h1 h2, fun q hq => by
      rcases List.mem_append.mp hq with z | z
      · exact hS.2.2 q z
      · exact hL q z⟩ hl T' rfl X'
  rw [so_pv] at a1
  exact ⟨t2, stp t2 a1, b1⟩
theorem V_iv {Y : MD_} {idx c n : Nat} {k : Int} {as rest : List SV_} (hd : decode M.2.1 pc = .ok (.invokevirtual idx, 3)) (hq : pc + 3 = q) (hc : sm_V M.1.cls idx Y c n) (hn : as.length = n) (hst : st = as.reverse ++ sv_r 4 c k :: rest) (hW : (rest.map sv_c).sum ≤ 8) (hC : Ctr_ g d Y (sv_r 4 c k :: as) h (fun r h' => V_ g (d + 1) M q ls (so_p r rest) h' Post)) : V_ g (d + 1) M pc ls st h Post := by
  subst hq
  subst hst
  intro p e R s m args below meth cd cells slots QQ C hr H locs lsA oL oS oH hP hS hl
  obtain ⟨hx, hb, hml, hown, hts, hK, hR1, hR2, hR3, hR4⟩ := id C
  obtain ⟨c1, c2, c3, c4, c5, T, N, c6⟩ := hc
  have oR : sv_oks (sv_r 4 c k :: rest) := fun v hv => oS v (List.mem_append_right _ hv)
  have oA : sv_oks as := fun v hv => oS v (List.mem_append_left _ (List.mem_reverse.mpr hv))
  obtain ⟨k0, k1⟩ := so_rk oR (by decide)
  have hM := hC (so_1 (so_h oR) oA) oH
  have hr0 : List.map (sv_v g) (as.reverse ++ sv_r 4 c k :: rest) = (as.map (sv_v g)).reverse ++ .ref (sg_a g k.toNat) :: rest.map (sv_v g) := by rw [List.map_append, List.map_cons, List.map_reverse, sv_vr (by decide)]
  have ha0 : (Value.ref (sg_a g k.toNat) :: as.map (sv_v g)).toArray = ((sv_r 4 c k :: as).map (sv_v g)).toArray := by rw [List.map_cons, sv_vr (by decide)]
  rw [hr0]
  exact V_back C hr oL (so_t oR) hS hl (va_runV (C := Y.1.cls) (As := as.map (sv_v g)) (b := sg_a g k.toNat) ⟨hx, hb, hml, hown, hts⟩ hM (cwV n hts c1 rfl rfl rfl ⟨rfl, c2, c3, c4⟩ ⟨hR1, by show 8 + (Y.2.2.1 + 11) + 64 * d ≤ R.locals; omega⟩)
    ⟨sm_blind _, va_recv hK.1 hP c6 (sw_get k0 k1), fun U hU hW => ⟨ha0, by rw [hU]; exact hP, sg_K.moved hW.alike (by rw [hU]; exact hS.1) (by rw [hU]; exact hS.2.1) hK⟩⟩ rfl (by rw [List.length_map]; exact hn) hl.1 rfl (lv_room (by rw [sm_cat]; exact hW)) hd ⟨hR3, hR4⟩)
theorem V_is {Y : MD_} {idx n : Nat} {as rest : List SV_} (hd : decode M.2.1 pc = .ok (.invokestatic idx, 3)) (hq : pc + 3 = q) (hc : sm_S M.1.cls idx Y n) (hn : as.length = n) (hst : st = as.reverse ++ rest) (hW : (rest.map sv_c).sum ≤ 8) (hC : Ctr_ g d Y as h (fun r h' => V_ g (d + 1) M q ls (so_p r rest) h' Post)) : V_ g (d + 1) M pc ls st h Post := by
  subst hq
  subst hst
  intro p e R s m args below meth cd cells slots QQ C hr H locs lsA oL oS oH hP hS hl
  obtain ⟨hx, hb, hml, hown, hts, hK, hR1, hR2, hR3, hR4⟩ := id C
  obtain ⟨c1, c2, c3, c4, c5⟩ := hc
  have oR : sv_oks rest := fun v hv => oS v (List.mem_append_right _ hv)
  have oA : sv_oks as := fun v hv => oS v (List.mem_append_left _ (List.mem_reverse.mpr hv))
  have hM := hC oA oH
  have hr0 : List.map (sv_v g) (as.reverse ++ rest) = (as.map (sv_v g)).reverse ++ rest.map (sv_v g) := by rw [List.map_append, List.map_reverse]
  rw [hr0]
  exact V_back C hr oL oR hS hl (va_runS (As := as.map (sv_v g)) ⟨hx, hb, hml, hown, hts⟩ hM (va_cwS n hts c1 rfl rfl rfl ⟨c2, c3, c4⟩ ⟨hR1, by show 8 + (Y.2.2.1 + 11) + 64 * d ≤ R.locals; omega⟩)
    ⟨sm_blind _, fun U hU hW => ⟨rfl, by rw [hU]; exact hP, sg_K.moved hW.alike (by rw [hU]; exact hS.1) (by rw [hU]; exact hS.2.1) hK⟩⟩ rfl (by rw [List.length_map]; exact hn) hl.1 rfl (lv_room (by rw [sm_cat]; exact hW)) hd ⟨hR3, hR4⟩)
/-! returns -/
theorem vr_iret {x : Int} (hd : decode M.2.1 pc = .ok (.ireturn, 1)) (ht : M.2.2.2.2 = 1) (hp : Post (some (sv_i x)) h) : V_ g d M pc ls [sv_i x] h Post := by
  intro p e R s m args below meth c cells slots QQ C hr H locs lsA oL oS oH hP hS hl
  exact hr pc lsA H locs (some (sv_i x)) h hp (fun v hv => by cases hv; exact so_h oS) oH hP hS ⟨hd, Or.inl ht⟩
theorem vr_zret {x : Int} (hd : decode M.2.1 pc = .ok (.ireturn, 1)) (ht : M.2.2.2.2 = 2) (hx : x = 0 ∨ x = 1) (hp : Post (some (sv_i x)) h) : V_ g d M pc ls [sv_i x] h Post := by
  intro p e R s m args below meth c cells slots QQ C hr H locs lsA oL oS oH hP hS hl
  exact hr pc lsA H locs (some (sv_i x)) h hp (fun v hv => by cases hv; exact so_h oS) oH hP hS ⟨hd, Or.inr ⟨ht, hx⟩⟩
theorem vr_vret (hd : decode M.2.1 pc = .ok (.return_, 1)) (ht : M.2.2.2.2 = 0) (hp : Post none h) : V_ g d M pc ls [] h Post := by
  intro p e R s m args below meth c cells slots QQ C hr H locs lsA oL oS oH hP hS hl
  exact hr pc lsA H locs none h hp (fun v hv => by cases hv) oH hP hS ⟨ht, hd⟩
theorem vr_lret {x : Int} (hd : decode M.2.1 pc = .ok (.lreturn, 1)) (ht : M.2.2.2.2 = 3) (hp : Post (some (sv_l x)) h) : V_ g d M pc ls [sv_l x] h Post := by
  intro p e R s m args below meth c cells slots QQ C hr H locs lsA oL oS oH hP hS hl
  exact hr pc lsA H locs (some (sv_l x)) h hp (fun v hv => by cases hv; exact so_h oS) oH hP hS ⟨ht, hd⟩
theorem vr_aret {a b : Nat} {x : Int} (hd : decode M.2.1 pc = .ok (.areturn, 1)) (ht : M.2.2.2.2 = 4) (hp : Post (some (sv_r a b x)) h) : V_ g d M pc ls [sv_r a b x] h Post := by
  intro p e R s m args below meth c cells slots QQ C hr H locs lsA oL oS oH hP hS hl
  exact hr pc lsA H locs (some (sv_r a b x)) h hp (fun v hv => by cases hv; exact so_h oS) oH hP hS ⟨ht, hd⟩
/-! a contract out of its body's walk -/
def sm_t (Y : MD_) : Prop := (Y.2.2.2.2 = 0 ∧ Y.2.2.2.1 = none) ∨ (Y.2.2.2.2 = 1 ∧ Y.2.2.2.1 = some .int) ∨ (Y.2.2.2.2 = 2 ∧ Y.2.2.2.1 = some .boolean) ∨ (Y.2.2.2.2 = 3 ∧ Y.2.2.2.1 = some .long) ∨ (Y.2.2.2.2 = 4 ∧ ∃ n, Y.2.2.2.1 = some (.object n))
def sl_e (n : Nat) (as : List SV_) : List (Option SV_) := as.map some ++ List.replicate (n - as.length) none
theorem lg_len1 {as : List SV_} (h1 : ∀ v ∈ as, sv_c v = 1) : (lg_sl (as.map (sv_v g))).length = as.length := by
  induction as with
  | nil => rfl
  | cons v l ih =>
    have e : lg_sl ((v :: l).map (sv_v g)) = .val (sv_v g v) :: lg_sl (l.map (sv_v g)) := by
      simp only [lg_sl, List.map_cons, List.flatMap_cons, sv_ce, h1 v List.mem_cons_self]
      rfl
    rw [e, List.length_cons, ih (fun w hw => h1 w (List.mem_cons_of_mem _ hw)), List.length_cons]
theorem lv_args1 : ∀ {as : List SV_} (i : Nat), (∀ v ∈ as, sv_c v = 1) → lv_args i (as.map (sv_v g)) = sl_v g i (as.map some) := by
  intro as
  induction as with
  | nil => intro i _; rfl
  | cons v l ih =>
    intro i h1
    show (i, sv_v g v) :: lv_args (if (sv_v g v).category = 2 then i + 2 else i + 1) (l.map (sv_v g)) = (i, sv_v g v) :: sl_v g (i + 1) (l.map some)
    rw [sv_ce, h1 v List.mem_cons_self, if_neg (by decide), ih (i + 1) (fun w hw => h1 w (List.mem_cons_of_mem _ hw))]
theorem sl_vapp (l : List (Option SV_)) (n i : Nat) : sl_v g i (l ++ List.replicate n none) = sl_v g i l := by
  induction l generalizing i with
  | nil =>
    rw [List.nil_append]
    induction n generalizing i with
    | zero => rfl
    | succ n ih => exact ih (i + 1)
  | cons a l ih =>
    cases a with
    | none => exact ih (i + 1)
    | some v =>
      show (i, sv_v g v) :: sl_v g (i + 1) (l ++ List.replicate n none) = (i, sv_v g v) :: sl_v g (i + 1) l
      rw [ih (i + 1)]
theorem V_mk {Y : MD_} {as : List SV_} (hy : plainFor Y.1 = true) (hrt : sm_t Y) (hlen : as.length ≤ Y.2.2.1) (h1 : ∀ v ∈ as, sv_c v = 1) (k : V_ g d Y 0 (sl_e Y.2.2.1 as) [] h Post) : Ctr_ g d Y as h Post := by
  intro oA oH
  refine va_MetF (cc := Y.2.1) (maxL := Y.2.2.1) (ret := Y.2.2.2.1) hy rfl ?_
  intro p e s m args below meth c s₁ B hml hv
  obtain ⟨hav, hP, hK⟩ := hv
  have hts := atoms_spec (ws := sm_w Y) B.pre
  have hown : s.vm.findClass Y.1.cls = some m.cls := findClass_of_methodNamed B.named
  have hlocks := B.notSynchronized
  have hret := B.returns
  have hx := B.exec
  have hb := B.bytes
  have C : sc_x g d Y p (headSpec (sm_w Y) (sm_r d)).room s m args c 0 0 := ⟨B.exec, B.bytes, hml, hown, fun w hw => hts w (List.mem_cons_of_mem _ hw), hK, Nat.le_refl _, Nat.le_refl _, Nat.zero_le _, Nat.zero_le _⟩
  have hl := lv_entry (as.map (sv_v g)) (n := Y.2.2.1) (by rw [lg_len1 h1]; exact hlen)
  subst hav
  rw [lg_entry_eq]
  generalize (lg_sl (as.map (sv_v g)) ++ List.replicate (Y.2.2.1 - (lg_sl (as.map (sv_v g))).length) Slot.unset).toArray = lsA at hl ⊢
  rw [lv_args1 0 h1, ← sl_vapp (as.map some) (Y.2.2.1 - as.length) 0] at hl
  refine k p e _ s m _ below meth c 0 0 _ C ?_ s.heap [] lsA ?_ (fun v hv => by cases hv) oH hP va_S.rf hl
  · intro pc lsA H locs r h' hpost hok hok2 hP' hS ht
    have hq : ∀ t : State, t.heap = H → s.WarmedH t.vm → sm_Q g Post (as.map (sv_v g)).toArray s (.returned (r.map (sv_v g))) t := fun t ht hW => ⟨⟨r, h', rfl, hpost, hok, hok2, by rw [ht]; exact hP'⟩, hS.F ht⟩
    match r, ht with
    | none, ht =>
      have hr0 : meth.sig.returnType = none := by
        rcases hrt with z | z | z | z | z
        · rw [hret, z.2]
        all_goals exact absurd (ht.1.symm.trans z.1) (by decide)
      exact W.vret hx hb hr0 hq hS.2.2 ht.2
    | some (.inl x), ht =>
      rcases ht.2 with hh | ⟨hh, hx01⟩
      · have hr0 : meth.sig.returnType = some .int := by
          rcases hrt with z | z | z | z | z
          · exact absurd (hh.symm.trans z.1) (by decide)
          · rw [hret, z.2]
          all_goals exact absurd (hh.symm.trans z.1) (by decide)
        exact W.iret hx hb hr0 hq hS.2.2 ht.1
      · have hr0 : meth.sig.returnType = some .boolean := by
          rcases hrt with z | z | z | z | z
          · exact absurd (hh.symm.trans z.1) (by decide)
          · exact absurd (hh.symm.trans z.1) (by decide)
          · rw [hret, z.2]
          all_goals exact absurd (hh.symm.trans z.1) (by decide)
        exact W.zret hx hb hr0 (by rcases hx01 with rfl | rfl <;> decide) hq hS.2.2 ht.1
    | some (.inr (.inl x)), ht =>
      have hr0 : meth.sig.returnType = some .long := by
        rcases hrt with z | z | z | z | z
        · exact absurd (ht.1.symm.trans z.1) (by decide)
        · exact absurd (ht.1.symm.trans z.1) (by decide)
        · exact absurd (ht.1.symm.trans z.1) (by decide)
        · rw [hret, z.2]
        · exact absurd (ht.1.symm.trans z.1) (by decide)
      exact W.lret hx hb hr0 hq hS.2.2 ht.2
    | some (.inr (.inr ((a, b), x))), ht =>
      have hr0 : ∃ n, meth.sig.returnType = some (.object n) := by
        rcases hrt with z | z | z | z | z
        · exact absurd (ht.1.symm.trans z.1) (by decide)
        · exact absurd (ht.1.symm.trans z.1) (by decide)
        · exact absurd (ht.1.symm.trans z.1) (by decide)
        · exact absurd (ht.1.symm.trans z.1) (by decide)
        · obtain ⟨n, hn⟩ := z.2
          exact ⟨n, by rw [hret, hn]⟩
      obtain ⟨n, hr0⟩ := hr0
      exact W.aret hx hb hr0 (Or.inl ⟨n, rfl⟩) (Or.inr ⟨_, rfl⟩) hq hS.2.2 ht.2
  · intro v hv
    unfold sl_e at hv
    rcases List.mem_append.mp hv with z | z
    · obtain ⟨w2, hw2, e2⟩ := List.mem_map.mp z
      have e3 : w2 = v := Option.some.inj e2
      exact e3 ▸ oA w2 hw2
    · exact absurd (List.eq_of_mem_replicate z) (by simp)
/-- weaker ends -/
theorem Ctr_imp {Y : MD_} {as : List SV_} {Post2 : Option SV_ → SH_ → Prop} (k : Ctr_ g d Y as h Post) (hi : ∀ r h', Post r h' → Post2 r h') : Ctr_ g d Y as h Post2 := by
  intro oA oH p e ha hc hk s m args below hf hap hp hK
  obtain ⟨n, o, h1, h2, h3, ⟨⟨r, h', q1, q2, q3⟩, q4⟩, q5⟩ := k oA oH p e ha hc hk s m args below hf hap hp hK
  exact ⟨n, o, h1, h2, h3, ⟨⟨r, h', q1, hi r h' q2, q3⟩, q4⟩, q5⟩
end VC_
