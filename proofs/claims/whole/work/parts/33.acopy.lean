/-- n items of k0 from sp on come to k1 from dp on -/
def hc_ (h : SH_) (k0 sp k1 dp n : Int) : SH_ := fun a b => if a = k1 ∧ dp ≤ b ∧ b < dp + n then h k0 (sp + (b - dp)) else h a b
theorem ac_w0 : Cond.native arraycopyName ∈ lw_g ∧ Cond.static arraycopyName ∈ lw_g ∧ Cond.initialized "java/lang/System" ∈ lw_g := by decide +kernel
section VAC_
variable {g : SG_} {d : Nat} {M : MD_} {pc q : Nat} {ls : List (Option SV_)} {rest : List SV_} {h : SH_} {Post : Option SV_ → SH_ → Prop}
theorem si_nn {x : Int} (hx : sr_32 x) (h0 : 0 ≤ x) : ¬ Int32.ofInt x < 0 := fun z => by
  rw [si_0, si_lt hx sr_320] at z
  omega
theorem vr_acopy {idx n0 n1 : Nat} {k0 k1 sp dp n : Int} (hd : decode M.2.1 pc = .ok (.invokestatic idx, 3)) (hq : pc + 3 = q) (hw : Cond.methodLink M.1.cls idx arraycopyName ∈ lw_g) (hW : (rest.map sv_c).sum ≤ 8) (hi : 0 ≤ sp ∧ 0 ≤ dp ∧ 0 ≤ n ∧ sp + n ≤ n0 ∧ dp + n ≤ n1) (kk : V_ g (d + 1) M q ls rest (hc_ h k0 sp k1 dp n) Post) : V_ g (d + 1) M pc ls (sv_i n :: sv_i dp :: sv_r 0 n1 k1 :: sv_i sp :: sv_r 0 n0 k0 :: rest) h Post := by
  subst hq
  intro p e R s m args below meth cd cells slots QQ C hr H locs lsA oL oS oH hP hS hl
  obtain ⟨hx, hb, hml, hown, hts, hK, hR1, hR2, hR3, hR4⟩ := id C
  have on := so_hi oS
  have od := so_hi (so_t oS)
  have os := so_hi (so_t (so_t (so_t oS)))
  obtain ⟨a0, a1⟩ := so_rk (so_t (so_t oS)) (by decide)
  obtain ⟨b0, b1⟩ := so_rk (so_t (so_t (so_t (so_t oS)))) (by decide)
  have oR : sv_oks rest := so_t (so_t (so_t (so_t (so_t oS))))
  have hr0 : List.map (sv_v g) (sv_i n :: sv_i dp :: sv_r 0 n1 k1 :: sv_i sp :: sv_r 0 n0 k0 :: rest) = .int (Int32.ofInt n) :: .int (Int32.ofInt dp) :: .ref (sg_a g k1.toNat) :: .int (Int32.ofInt sp) :: .ref (sg_a g k0.toNat) :: List.map (sv_v g) rest := by
    rw [List.map_cons, List.map_cons, List.map_cons, List.map_cons, List.map_cons, sv_vr (by decide), sv_vr (by decide)]
    rfl
  rw [hr0]
  have hnw : nativeFrameWords "java/lang/System" "arraycopy" 5 ≤ 40 := by decide
  refine va_copyi (D := sg_D g) (cl := vwCl) (ty := .int) hx hb (hml.trans hl.1.symm) hown (hts _ hw) (hts _ ac_w0.1) (hts _ ac_w0.2.1) (hts _ ac_w0.2.2) hK.1 hP (sg_Dw hK h) hS k0.toNat k1.toNat 0 0 (sw_get b0 b1) (sw_get a0 a1) rfl rfl rfl (si_nn os hi.1) (si_nn od hi.2.1) (si_nn on hi.2.2.1) (by rw [si_cl os, si_cl on]; omega) (by rw [si_cl od, si_cl on]; omega) (fun _ _ => rfl) (by omega) (by rw [sm_cat]; omega) hd (fun H1 locs1 hP1 hD1 hS1 => ?_)
  rw [si_cl os, si_cl od, si_cl on] at hP1
  have hE : va_cpy (fun j : Nat => Int32.ofInt (h k0 (j : Int))) (fun j : Nat => Int32.ofInt (h k1 (j : Int))) sp.toNat dp.toNat n.toNat = fun j : Nat => Int32.ofInt (hc_ h k0 sp k1 dp n k1 (j : Int)) := by
    funext j
    unfold va_cpy hc_
    by_cases c1 : dp.toNat ≤ j ∧ j < dp.toNat + n.toNat
    · rw [if_pos c1, if_pos ⟨rfl, by omega, by omega⟩]
      have e1 : (((sp.toNat + (j - dp.toNat)) : Nat) : Int) = sp + ((j : Int) - dp) := by omega
      show Int32.ofInt (h k0 (((sp.toNat + (j - dp.toNat)) : Nat) : Int)) = _
      rw [e1]
    · rw [if_neg c1, if_neg (fun z => c1 ⟨by omega, by omega⟩)]
  rw [hE, sw_set a0 a1 (fun a ha => by funext b; unfold hc_; rw [if_neg (fun z => ha z.1)]) (E := .inl (sg_I g, n1, .inl (fun j : Nat => Int32.ofInt (hc_ h k0 sp k1 dp n k1 (j : Int))))) rfl] at hP1
  exact kk p e R s m args below meth cd cells slots QQ C hr H1 locs1 lsA oL oR (fun a b => by unfold hc_; split <;> exact oH _ _) hP1 hS1 hl
end VAC_
