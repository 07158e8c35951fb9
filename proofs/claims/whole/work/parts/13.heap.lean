section VH_
variable {g : SG_} {d : Nat} {M : MD_} {pc q : Nat} {ls : List (Option SV_)} {st : List SV_} {h : SH_} {Post : Option SV_ → SH_ → Prop}
theorem so_rk {c n : Nat} {k : Int} (hs : sv_oks (sv_r c n k :: st)) (hc : c ≠ 5) : 0 ≤ k ∧ sl_y[k.toNat]? = some (c, n) := by
  rcases (so_h hs : (c = 5 ∧ n < 4) ∨ (c ≠ 5 ∧ 0 ≤ k ∧ sl_y[k.toNat]? = some (c, n))) with h1 | h1
  · exact absurd h1.1 hc
  · exact h1.2
theorem so_rx {n : Nat} {k : Int} (hs : sv_oks (sv_r 5 n k :: st)) : n < 4 := by
  rcases (so_h hs : (5 = 5 ∧ n < 4) ∨ (5 ≠ 5 ∧ 0 ≤ k ∧ sl_y[k.toNat]? = some (5, n))) with h1 | h1
  · exact h1.2
  · exact absurd rfl h1.1
theorem so_rm {c n : Nat} {k : Int} (hc : c ≠ 5) (h0 : 0 ≤ k) (hk : sl_y[k.toNat]? = some (c, n)) : sv_ok (sv_r c n k) := Or.inr ⟨hc, h0, hk⟩
theorem sv_vr {c n : Nat} {k : Int} (hc : c ≠ 5) : sv_v g (sv_r c n k) = .ref (sg_a g k.toNat) := by
  show Value.ref (if c = 5 then sg_x g n else sg_a g k.toNat) = _
  rw [if_neg hc]
/-- a field's link, by the class's number and the field's -/
def sf_ok (own : String) (idx c j : Nat) : Prop := ∃ (C : String) (T : u_T) (N : Nat), vwCl[c]? = some (C, T, N) ∧ (∀ w ∈ u_ws C T N, w ∈ lw_g) ∧ j < N ∧ (sf_c c).length = N ∧ Cond.fieldLink own idx (T j).1 (T j).2.1 (T j).2.2.1 ∈ lw_g
def sf_okp (own : String) (idx c j : Nat) : Prop := ∃ (C : String) (T : u_T) (N : Nat) (ty : Nat → FieldType), vwCl[c]? = some (C, T, N) ∧ (∀ w ∈ u_ws C T N, w ∈ lw_g) ∧ j < N ∧ (sf_c c).length = N ∧ Cond.fieldLink own idx (T j).1 (T j).2.1 (T j).2.2.1 ∈ lw_g ∧ (∀ k, k < N → parseFieldDescriptor (T k).2.2.1 = some (ty k)) ∧ (∀ a, a < N → ∀ b, b < N → a ≠ b → (T a).2.1 ≠ (T b).2.1) ∧ (T j).2.2.2 = false ∧ ty j = .int
theorem V_get {idx c j : Nat} {k : Int} (hd : decode M.2.1 pc = .ok (.getfield idx, 3)) (hq : pc + 3 = q) (hf : sf_ok M.1.cls idx c j) (hv : sh_ok h → 0 ≤ k → sl_y[k.toNat]? = some (4, c) → sv_ok (sf_v c k j h)) (kk : V_ g d M q ls (sf_v c k j h :: st) h Post) : V_ g d M pc ls (sv_r 4 c k :: st) h Post := by
  subst hq
  intro p e R s m args below meth cd cells slots QQ C hr H locs lsA oL oS oH hP hS hl
  obtain ⟨hx, hb, hml, hown, hts, hK, -⟩ := id C
  obtain ⟨k0, k1⟩ := so_rk oS (by decide)
  obtain ⟨Cn, T, N, f1, f2, f3, f4, f5⟩ := hf
  have hg := sw_get (g := g) (h := h) k0 k1
  have hr0 : List.map (sv_v g) (sv_r 4 c k :: st) = .ref (sg_a g k.toNat) :: List.map (sv_v g) st := by rw [List.map_cons, sv_vr (by decide)]
  rw [hr0]
  refine va_get (D := sg_D g) (ci := c) (v := sv_v g (sf_v c k j h)) (C := Cn) (T := T) (N := N) hx hb hts f2 hown hK.1 hP k.toNat hg f1 j f3 (hts _ f5) (fun _ z => z) ?_ hd ?_
  · rw [List.getElem?_map, List.getElem?_range (by rw [f4]; exact f3)]
    rfl
  · exact kk p e R s m args below meth cd cells slots QQ C hr H locs lsA oL (so_1 (hv oH k0 k1) (so_t oS)) oH hP hS hl
theorem vr_getI {idx c j : Nat} {k ji : Int} (hd : decode M.2.1 pc = .ok (.getfield idx, 3)) (hq : pc + 3 = q) (hf : sf_ok M.1.cls idx c j) (ht : (sf_c c).getD j none = none) (hj : (j : Int) = ji) (kk : V_ g d M q ls (sv_i (h k ji) :: st) h Post) : V_ g d M pc ls (sv_r 4 c k :: st) h Post := by
  subst hj
  have e : sf_v c k j h = sv_i (h k (j : Int)) := by unfold sf_v; rw [ht]
  refine V_get hd hq hf (fun oH _ _ => ?_) ?_
  · rw [e]; exact oH k j
  · rw [e]; exact kk
theorem vr_getR {idx c j a b : Nat} {k o k2 : Int} (hd : decode M.2.1 pc = .ok (.getfield idx, 3)) (hq : pc + 3 = q) (hf : sf_ok M.1.cls idx c j) (ht : (sf_c c).getD j none = some ((a, b), true, o)) (hy : ∀ i : Nat, i < 83 → sl_y[i]? = some (4, c) → a ≠ 5 ∧ 0 ≤ (i : Int) + o ∧ sl_y[((i : Int) + o).toNat]? = some (a, b)) (hk : k + o = k2) (kk : V_ g d M q ls (sv_r a b k2 :: st) h Post) : V_ g d M pc ls (sv_r 4 c k :: st) h Post := by
  subst hk
  have e : sf_v c k j h = sv_r a b (k + o) := by unfold sf_v; rw [ht]
  refine V_get hd hq hf (fun oH k0 k1 => ?_) ?_
  · rw [e]
    have h1 := (List.getElem?_eq_some_iff.mp k1).1
    rw [sw_len] at h1
    obtain ⟨y1, y2, y3⟩ := hy k.toNat h1 k1
    rw [Int.toNat_of_nonneg k0] at y2 y3
    exact so_rm y1 y2 y3
  · rw [e]; exact kk
theorem vr_getA {idx c j a b : Nat} {k o : Int} (hd : decode M.2.1 pc = .ok (.getfield idx, 3)) (hq : pc + 3 = q) (hf : sf_ok M.1.cls idx c j) (ht : (sf_c c).getD j none = some ((a, b), false, o)) (hy : a ≠ 5 ∧ 0 ≤ o ∧ sl_y[o.toNat]? = some (a, b)) (kk : V_ g d M q ls (sv_r a b o :: st) h Post) : V_ g d M pc ls (sv_r 4 c k :: st) h Post := by
  have e : sf_v c k j h = sv_r a b o := by unfold sf_v; rw [ht]
  refine V_get hd hq hf (fun oH k0 k1 => ?_) ?_
  · rw [e]; exact so_rm hy.1 hy.2.1 hy.2.2
  · rw [e]; exact kk
theorem sh_oks {k j x : Int} (o : sh_ok h) (hx : sr_32 x) : sh_ok (hs_ h k j x) := fun a b => by
  unfold hs_
  split
  · exact hx
  · exact o a b
theorem vr_put {idx c j : Nat} {k x ji : Int} (hd : decode M.2.1 pc = .ok (.putfield idx, 3)) (hq : pc + 3 = q) (hf : sf_okp M.1.cls idx c j) (ht : (sf_c c).getD j none = none) (hj : (j : Int) = ji) (kk : V_ g d M q ls st (hs_ h k ji x) Post) : V_ g d M pc ls (sv_i x :: sv_r 4 c k :: st) h Post := by
  subst hj
  subst hq
  intro p e R s m args below meth cd cells slots QQ C hr H locs lsA oL oS oH hP hS hl
  obtain ⟨hx, hb, hml, hown, hts, hK, -⟩ := id C
  obtain ⟨k0, k1⟩ := so_rk (so_t oS) (by decide)
  obtain ⟨Cn, T, N, ty, f1, f2, f3, f4, f5, f6, f7, f8, f9⟩ := hf
  have hg := sw_get (g := g) (h := h) k0 k1
  have hr0 : List.map (sv_v g) (sv_i x :: sv_r 4 c k :: st) = .int (Int32.ofInt x) :: .ref (sg_a g k.toNat) :: List.map (sv_v g) st := by rw [List.map_cons, List.map_cons, sv_vr (by decide)]; rfl
  rw [hr0]
  refine va_put (D := sg_D g) (ci := c) (v := .int (Int32.ofInt x)) (ty := .int) (C := Cn) (T := T) (N := N) hx hb hts f2 ty f6 f7 hown hK.1 hP (sg_Dw hK h) hS k.toNat hg f1 j f3 (hts _ f5) (fun _ z => z) f8 (by rw [f6 j f3, f9]) rfl rfl (by rw [List.length_map, List.length_range, f4]; exact f3) hd (fun H1 locs1 hP1 hD1 hS1 => ?_)
  have hE : (.inr (c, ((List.range (sf_c c).length).map (fun j => sv_v g (sf_v c k j h))).set j (.int (Int32.ofInt x))) : va_E) = sw_e g (4, c) k (hs_ h k (j : Int) x) := by
    show _ = Sum.inr (c, (List.range (sf_c c).length).map (fun j2 => sv_v g (sf_v c k j2 (hs_ h k (j : Int) x))))
    congr 2
    apply List.ext_getElem?
    intro i
    by_cases hi : j = i
    · subst hi
      rw [List.getElem?_set_self (by rw [List.length_map, List.length_range, f4]; exact f3), List.getElem?_map, List.getElem?_range (by rw [f4]; exact f3)]
      have e2 : sf_v c k j (hs_ h k (j : Int) x) = sv_i x := by
        unfold sf_v
        rw [ht, hs_e]
      show some _ = some (sv_v g (sf_v c k j (hs_ h k (j : Int) x)))
      rw [e2]
      rfl
    · rw [List.getElem?_set_ne hi, List.getElem?_map, List.getElem?_map]
      by_cases hl2 : i < (sf_c c).length
      · rw [List.getElem?_range hl2]
        have e2 : sf_v c k i (hs_ h k (j : Int) x) = sf_v c k i h := by
          unfold sf_v
          rw [hs_n (fun z => hi (by have := z.2; omega))]
        show some (sv_v g (sf_v c k i h)) = some (sv_v g (sf_v c k i (hs_ h k (j : Int) x)))
        rw [e2]
      · rw [List.getElem?_eq_none (by simpa using hl2)]
        rfl
  rw [sw_set k0 k1 (fun a ha => hs_k ha) hE] at hP1
  exact kk p e R s m args below meth cd cells slots QQ C hr H1 locs1 lsA oL (so_t (so_t oS)) (sh_oks oH (so_hi oS)) hP1 hS1 hl
theorem vr_iald {n : Nat} {k i : Int} (hd : decode M.2.1 pc = .ok (.iaload, 1)) (hq : pc + 1 = q) (hi : 0 ≤ i ∧ i < n) (kk : V_ g d M q ls (sv_i (h k i) :: st) h Post) : V_ g d M pc ls (sv_i i :: sv_r 0 n k :: st) h Post := by
  subst hq
  intro p e R s m args below meth cd cells slots QQ C hr H locs lsA oL oS oH hP hS hl
  obtain ⟨hx, hb, hml, hown, hts, hK, -⟩ := id C
  obtain ⟨k0, k1⟩ := so_rk (so_t oS) (by decide)
  have hr0 : List.map (sv_v g) (sv_i i :: sv_r 0 n k :: st) = .int (Int32.ofInt i) :: .ref (sg_a g k.toNat) :: List.map (sv_v g) st := by rw [List.map_cons, List.map_cons, sv_vr (by decide)]; rfl
  rw [hr0]
  refine va_iald (D := sg_D g) (cl := vwCl) hx hb hK.1 hP k.toNat 0 (sw_get k0 k1) rfl (si_in (so_hi oS) hi.1 hi.2) hd ?_
  rw [si_cl (so_hi oS), Int.toNat_of_nonneg hi.1]
  exact kk p e R s m args below meth cd cells slots QQ C hr H locs lsA oL (so_i (oH k i) (so_t (so_t oS))) oH hP hS hl
theorem vr_bald {n : Nat} {k i : Int} (hd : decode M.2.1 pc = .ok (.baload, 1)) (hq : pc + 1 = q) (hi : 0 ≤ i ∧ i < n) (kk : V_ g d M q ls (sv_i (h k i) :: st) h Post) : V_ g d M pc ls (sv_i i :: sv_r 1 n k :: st) h Post := by
  subst hq
  intro p e R s m args below meth cd cells slots QQ C hr H locs lsA oL oS oH hP hS hl
  obtain ⟨hx, hb, hml, hown, hts, hK, -⟩ := id C
  obtain ⟨k0, k1⟩ := so_rk (so_t oS) (by decide)
  have hr0 : List.map (sv_v g) (sv_i i :: sv_r 1 n k :: st) = .int (Int32.ofInt i) :: .ref (sg_a g k.toNat) :: List.map (sv_v g) st := by rw [List.map_cons, List.map_cons, sv_vr (by decide)]; rfl
  rw [hr0]
  refine va_zald (D := sg_D g) (cl := vwCl) hx hb hK.1 hP k.toNat 1 (sw_get k0 k1) rfl (si_in (so_hi oS) hi.1 hi.2) hd ?_
  rw [si_cl (so_hi oS), Int.toNat_of_nonneg hi.1]
  exact kk p e R s m args below meth cd cells slots QQ C hr H locs lsA oL (so_i (oH k i) (so_t (so_t oS))) oH hP hS hl
theorem sw_up {k i x : Int} {n : Nat} (h0 : 0 ≤ i) : upd (fun j : Nat => Int32.ofInt (h k (j : Int))) i.toNat (Int32.ofInt x) = fun j : Nat => Int32.ofInt (hs_ h k i x k (j : Int)) := by
  funext j
  unfold upd hs_
  by_cases hj : j = i.toNat
  · rw [if_pos hj, if_pos ⟨rfl, by omega⟩]
  · rw [if_neg hj, if_neg (fun z => hj (by omega))]
theorem vr_iast {n : Nat} {k i x : Int} (hd : decode M.2.1 pc = .ok (.iastore, 1)) (hq : pc + 1 = q) (hi : 0 ≤ i ∧ i < n) (kk : V_ g d M q ls st (hs_ h k i x) Post) : V_ g d M pc ls (sv_i x :: sv_i i :: sv_r 0 n k :: st) h Post := by
  subst hq
  intro p e R s m args below meth cd cells slots QQ C hr H locs lsA oL oS oH hP hS hl
  obtain ⟨hx, hb, hml, hown, hts, hK, -⟩ := id C
  obtain ⟨k0, k1⟩ := so_rk (so_t (so_t oS)) (by decide)
  have hr0 : List.map (sv_v g) (sv_i x :: sv_i i :: sv_r 0 n k :: st) = .int (Int32.ofInt x) :: .int (Int32.ofInt i) :: .ref (sg_a g k.toNat) :: List.map (sv_v g) st := by rw [List.map_cons, List.map_cons, List.map_cons, sv_vr (by decide)]; rfl
  rw [hr0]
  refine va_iast (D := sg_D g) (cl := vwCl) hx hb hK.1 hP (sg_Dw hK h) hS k.toNat 0 (sw_get k0 k1) rfl (si_in (so_hi (so_t oS)) hi.1 hi.2) hd (fun H1 locs1 hP1 hD1 hS1 => ?_)
  rw [si_cl (so_hi (so_t oS)), sw_up (n := n) hi.1, sw_set k0 k1 (fun a ha => hs_k ha) (E := .inl (sg_I g, n, .inl (fun j : Nat => Int32.ofInt (hs_ h k i x k (j : Int))))) rfl] at hP1
  exact kk p e R s m args below meth cd cells slots QQ C hr H1 locs1 lsA oL (so_t (so_t (so_t oS))) (sh_oks oH (so_hi oS)) hP1 hS1 hl
theorem si_bool {x : Int} (hx : x = 0 ∨ x = 1) : vp_nar .boolean (Int32.ofInt x) = Int32.ofInt x := by
  rcases hx with rfl | rfl <;> decide
theorem vr_bast {n : Nat} {k i x : Int} (hd : decode M.2.1 pc = .ok (.bastore, 1)) (hq : pc + 1 = q) (hi : 0 ≤ i ∧ i < n) (hx01 : x = 0 ∨ x = 1) (kk : V_ g d M q ls st (hs_ h k i x) Post) : V_ g d M pc ls (sv_i x :: sv_i i :: sv_r 1 n k :: st) h Post := by
  subst hq
  intro p e R s m args below meth cd cells slots QQ C hr H locs lsA oL oS oH hP hS hl
  obtain ⟨hx, hb, hml, hown, hts, hK, -⟩ := id C
  obtain ⟨k0, k1⟩ := so_rk (so_t (so_t oS)) (by decide)
  have hr0 : List.map (sv_v g) (sv_i x :: sv_i i :: sv_r 1 n k :: st) = .int (Int32.ofInt x) :: .int (Int32.ofInt i) :: .ref (sg_a g k.toNat) :: List.map (sv_v g) st := by rw [List.map_cons, List.map_cons, List.map_cons, sv_vr (by decide)]; rfl
  rw [hr0]
  refine va_zast (D := sg_D g) (cl := vwCl) hx hb hK.1 hP (sg_Dw hK h) hS k.toNat 1 (sw_get k0 k1) rfl (si_in (so_hi (so_t oS)) hi.1 hi.2) hd (fun H1 locs1 hP1 hD1 hS1 => ?_)
  rw [si_cl (so_hi (so_t oS)), si_bool hx01, sw_up (n := n) hi.1, sw_set k0 k1 (fun a ha => hs_k ha) (E := .inl (sg_Z g, n, .inl (fun j : Nat => Int32.ofInt (hs_ h k i x k (j : Int))))) rfl] at hP1
  exact kk p e R s m args below meth cd cells slots QQ C hr H1 locs1 lsA oL (so_t (so_t (so_t oS))) (sh_oks oH (so_hi oS)) hP1 hS1 hl
theorem vr_alen {n : Nat} {k : Int} (hd : decode M.2.1 pc = .ok (.arraylength, 1)) (hq : pc + 1 = q) (hn : n < 2147483648) (kk : V_ g d M q ls (sv_i (n : Int) :: st) h Post) : V_ g d M pc ls (sv_r 0 n k :: st) h Post := by
  subst hq
  intro p e R s m args below meth cd cells slots QQ C hr H locs lsA oL oS oH hP hS hl
  obtain ⟨hx, hb, hml, hown, hts, hK, -⟩ := id C
  obtain ⟨k0, k1⟩ := so_rk oS (by decide)
  have hr0 : List.map (sv_v g) (sv_r 0 n k :: st) = .ref (sg_a g k.toNat) :: List.map (sv_v g) st := by rw [List.map_cons, sv_vr (by decide)]
  rw [hr0]
  refine va_alen (D := sg_D g) (cl := vwCl) (v := Int32.ofInt (n : Int)) hx hb hK.1 hP k.toNat 0 (sw_get k0 k1) rfl Int32.ofInt_eq_ofNat.symm hd ?_
  exact kk p e R s m args below meth cd cells slots QQ C hr H locs lsA oL (so_i ⟨by omega, by omega⟩ (so_t oS)) oH hP hS hl
theorem vr_xald {n : Nat} {k i : Int} (hd : decode M.2.1 pc = .ok (.iaload, 1)) (hq : pc + 1 = q) (hi : 0 ≤ i ∧ i < (sg_X g n).1) (kk : V_ g d M q ls (sv_i ((sg_X g n).2 i.toNat) :: st) h Post) : V_ g d M pc ls (sv_i i :: sv_r 5 n k :: st) h Post := by
  subst hq
  intro p e R s m args below meth cd cells slots QQ C hr H locs lsA oL oS oH hP hS hl
  obtain ⟨hx, hb, hml, hown, hts, hK, -⟩ := id C
  have hn := so_rx (so_t oS)
  refine va_ti (t := sg_x g n) hx hb (hK.2.2.2.2.2.1 n hn) hS (si_in (so_hi oS) hi.1 hi.2) (v := .int (Int32.ofInt ((sg_X g n).2 i.toNat))) (by rw [si_cl (so_hi oS)]) hd ?_
  exact kk p e R s m args below meth cd cells slots QQ C hr H locs lsA oL (so_i ((hK.2.2.2.2.2.2 n hn).2 _) (so_t (so_t oS))) oH hP hS hl
theorem vr_xlen {n : Nat} {k : Int} (hd : decode M.2.1 pc = .ok (.arraylength, 1)) (hq : pc + 1 = q) (kk : V_ g d M q ls (sv_i ((sg_X g n).1 : Int) :: st) h Post) : V_ g d M pc ls (sv_r 5 n k :: st) h Post := by
  subst hq
  intro p e R s m args below meth cd cells slots QQ C hr H locs lsA oL oS oH hP hS hl
  obtain ⟨hx, hb, hml, hown, hts, hK, -⟩ := id C
  have hn := so_rx oS
  have hb2 := (hK.2.2.2.2.2.2 n hn).1
  refine va_tlen (t := sg_x g n) hx hb (hK.2.2.2.2.2.1 n hn) hS (v := Int32.ofInt ((sg_X g n).1 : Int)) Int32.ofInt_eq_ofNat.symm hd ?_
  exact kk p e R s m args below meth cd cells slots QQ C hr H locs lsA oL (so_i ⟨by omega, by omega⟩ (so_t oS)) oH hP hS hl
theorem vr_aaM {k i : Int} (hd : decode M.2.1 pc = .ok (.aaload, 1)) (hq : pc + 1 = q) (hi : 0 ≤ i ∧ i < 7) (kk : V_ g d M q ls (sv_r 4 3 (52 + 2 * i) :: st) h Post) : V_ g d M pc ls (sv_i i :: sv_r 2 7 k :: st) h Post := by
  subst hq
  intro p e R s m args below meth cd cells slots QQ C hr H locs lsA oL oS oH hP hS hl
  obtain ⟨hx, hb, hml, hown, hts, hK, -⟩ := id C
  obtain ⟨k0, k1⟩ := so_rk (so_t oS) (by decide)
  have hr0 : List.map (sv_v g) (sv_i i :: sv_r 2 7 k :: st) = .int (Int32.ofInt i) :: .ref (sg_a g k.toNat) :: List.map (sv_v g) st := by rw [List.map_cons, List.map_cons, sv_vr (by decide)]; rfl
  rw [hr0]
  refine va_aldq (D := sg_D g) (cl := vwCl) hx hb hK.1 hP k.toNat 2 (sw_get k0 k1) rfl (si_in (so_hi oS) hi.1 hi.2) hd ?_
  have e1 : (va_rf (some (sg_a g (52 + 2 * (Int32.ofInt i).toNatClampNeg)))) = sv_v g (sv_r 4 3 (52 + 2 * i)) := by
    rw [si_cl (so_hi oS), sv_vr (by decide)]
    show Value.ref _ = Value.ref _
    congr 2
    omega
  have hok : sv_ok (sv_r 4 3 (52 + 2 * i)) := by
    refine so_rm (by decide) (by omega) ?_
    rcases (by omega : i = 0 ∨ i = 1 ∨ i = 2 ∨ i = 3 ∨ i = 4 ∨ i = 5 ∨ i = 6) with rfl | rfl | rfl | rfl | rfl | rfl | rfl <;> rfl
  have kk2 := kk p e R s m args below meth cd cells slots QQ C hr H locs lsA oL (so_1 hok (so_t (so_t oS))) oH hP hS hl
  rw [List.map_cons, ← e1] at kk2
  exact kk2
theorem vr_aaT {k i : Int} (hd : decode M.2.1 pc = .ok (.aaload, 1)) (hq : pc + 1 = q) (hi : 0 ≤ i ∧ i < 2) (kk : V_ g d M q ls (sv_r 4 6 (23 + 8 * i) :: st) h Post) : V_ g d M pc ls (sv_i i :: sv_r 3 2 k :: st) h Post := by
  subst hq
  intro p e R s m args below meth cd cells slots QQ C hr H locs lsA oL oS oH hP hS hl
  obtain ⟨hx, hb, hml, hown, hts, hK, -⟩ := id C
  obtain ⟨k0, k1⟩ := so_rk (so_t oS) (by decide)
  have hr0 : List.map (sv_v g) (sv_i i :: sv_r 3 2 k :: st) = .int (Int32.ofInt i) :: .ref (sg_a g k.toNat) :: List.map (sv_v g) st := by rw [List.map_cons, List.map_cons, sv_vr (by decide)]; rfl
  rw [hr0]
  refine va_aldq (D := sg_D g) (cl := vwCl) hx hb hK.1 hP k.toNat 3 (sw_get k0 k1) rfl (si_in (so_hi oS) hi.1 hi.2) hd ?_
  have e1 : (va_rf (some (sg_a g (23 + 8 * (Int32.ofInt i).toNatClampNeg)))) = sv_v g (sv_r 4 6 (23 + 8 * i)) := by
    rw [si_cl (so_hi oS), sv_vr (by decide)]
    show Value.ref _ = Value.ref _
    congr 2
    omega
  have hok : sv_ok (sv_r 4 6 (23 + 8 * i)) := by
    refine so_rm (by decide) (by omega) ?_
    rcases (by omega : i = 0 ∨ i = 1) with rfl | rfl <;> rfl
  have kk2 := kk p e R s m args below meth cd cells slots QQ C hr H locs lsA oL (so_1 hok (so_t (so_t oS))) oH hP hS hl
  rw [List.map_cons, ← e1] at kk2
  exact kk2
theorem vr_gets {idx i : Nat} (hd : decode M.2.1 pc = .ok (.getstatic idx, 3)) (hq : pc + 3 = q) (hi : i < 3) (hw : Cond.fieldLink M.1.cls idx (ss_C i) (ss_N i) "[I" ∈ lw_g) (kk : V_ g d M q ls (sv_r 5 i 0 :: st) h Post) : V_ g d M pc ls st h Post := by
  subst hq
  intro p e R s m args below meth cd cells slots QQ C hr H locs lsA oL oS oH hP hS hl
  obtain ⟨hx, hb, hml, hown, hts, hK, -⟩ := id C
  refine va_gets hx hb (hK.2.2.2.2.1 i hi) hS hown (hts _ hw) (fun _ z => z) hd ?_
  exact kk p e R s m args below meth cd cells slots QQ C hr H locs lsA oL (so_1 (Or.inl ⟨rfl, by omega⟩) oS) oH hP hS hl
theorem vr_ldc {idx : Nat} {x : Int} (hd : decode M.2.1 pc = .ok (.ldc idx, 2)) (hq : pc + 2 = q) (hx0 : sr_32 x) (hw : Cond.constant M.1.cls idx (Int32.ofInt x) ∈ lw_g) (kk : V_ g d M q ls (sv_i x :: st) h Post) : V_ g d M pc ls st h Post := by
  subst hq
  intro p e R s m args below meth cd cells slots QQ C hr H locs lsA oL oS oH hP hS hl
  obtain ⟨hx, hb, hml, hown, hts, hK, -⟩ := id C
  exact lv_ldc hx hb hown (hts _ hw) hd (kk p e R s m args below meth cd cells slots QQ C hr H locs lsA oL (so_i hx0 oS) oH hP hS hl)
theorem vr_ldcw {idx : Nat} {x : Int} (hd : decode M.2.1 pc = .ok (.ldc_w idx, 3)) (hq : pc + 3 = q) (hx0 : sr_32 x) (hw : Cond.constant M.1.cls idx (Int32.ofInt x) ∈ lw_g) (kk : V_ g d M q ls (sv_i x :: st) h Post) : V_ g d M pc ls st h Post := by
  subst hq
  intro p e R s m args below meth cd cells slots QQ C hr H locs lsA oL oS oH hP hS hl
  obtain ⟨hx, hb, hml, hown, hts, hK, -⟩ := id C
  exact lv_ldcw hx hb hown (hts _ hw) hd (kk p e R s m args below meth cd cells slots QQ C hr H locs lsA oL (so_i hx0 oS) oH hP hS hl)
theorem vr_ldc2 {idx : Nat} {x : Int} (hd : decode M.2.1 pc = .ok (.ldc2_w idx, 3)) (hq : pc + 3 = q) (hx0 : sr_64 x) (hw : Cond.constantLong M.1.cls idx (Int64.ofInt x) ∈ lw_g) (kk : V_ g d M q ls (sv_l x :: st) h Post) : V_ g d M pc ls st h Post := by
  subst hq
  intro p e R s m args below meth cd cells slots QQ C hr H locs lsA oL oS oH hP hS hl
  obtain ⟨hx, hb, hml, hown, hts, hK, -⟩ := id C
  exact lv_ldc2 hx hb hown (hts _ hw) hd (kk p e R s m args below meth cd cells slots QQ C hr H locs lsA oL (so_l hx0 oS) oH hP hS hl)
end VH_
