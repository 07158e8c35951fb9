section VB_
variable {g : SG_} {d : Nat} {M : MD_} {pc q : Nat} {ls : List (Option SV_)} {st : List SV_} {h : SH_} {Post : Option SV_ → SH_ → Prop}
theorem si_0 : (0 : Int32) = Int32.ofInt 0 := by decide
theorem vr_if_eq {x off : Int} {t : Nat} (hd : decode M.2.1 pc = .ok (.ifCond .eq off, 3)) (ht : (pc : Int) + off = (t : Int)) (hq : pc + 3 = q) (kt : x = 0 → V_ g d M t ls st h Post) (kf : ¬ x = 0 → V_ g d M q ls st h Post) : V_ g d M pc ls (sv_i x :: st) h Post := by
  subst hq
  intro p e R s m args below meth c cells slots QQ C hr H locs lsA oL oS oH hP hS hl
  exact lv_if_eq C.1 C.2.1 hd ht (fun z => kt ((si_eq (so_hi oS) sr_320).mp (by rw [si_0] at z; exact z)) p e R s m args below meth c cells slots QQ C hr H locs lsA oL (so_t oS) oH hP hS hl) (fun z => kf ((not_congr (si_eq (so_hi oS) sr_320)).mp (by rw [si_0] at z; exact z)) p e R s m args below meth c cells slots QQ C hr H locs lsA oL (so_t oS) oH hP hS hl)
theorem vr_if_ne {x off : Int} {t : Nat} (hd : decode M.2.1 pc = .ok (.ifCond .ne off, 3)) (ht : (pc : Int) + off = (t : Int)) (hq : pc + 3 = q) (kt : ¬ x = 0 → V_ g d M t ls st h Post) (kf : x = 0 → V_ g d M q ls st h Post) : V_ g d M pc ls (sv_i x :: st) h Post := by
  subst hq
  intro p e R s m args below meth c cells slots QQ C hr H locs lsA oL oS oH hP hS hl
  exact lv_if_ne C.1 C.2.1 hd ht (fun z => kt ((not_congr (si_eq (so_hi oS) sr_320)).mp (by rw [si_0] at z; exact z)) p e R s m args below meth c cells slots QQ C hr H locs lsA oL (so_t oS) oH hP hS hl) (fun z => kf ((si_eq (so_hi oS) sr_320).mp (by rw [si_0] at z; exact z)) p e R s m args below meth c cells slots QQ C hr H locs lsA oL (so_t oS) oH hP hS hl)
theorem vr_if_lt {x off : Int} {t : Nat} (hd : decode M.2.1 pc = .ok (.ifCond .lt off, 3)) (ht : (pc : Int) + off = (t : Int)) (hq : pc + 3 = q) (kt : x < 0 → V_ g d M t ls st h Post) (kf : ¬ x < 0 → V_ g d M q ls st h Post) : V_ g d M pc ls (sv_i x :: st) h Post := by
  subst hq
  intro p e R s m args below meth c cells slots QQ C hr H locs lsA oL oS oH hP hS hl
  exact lv_if_lt C.1 C.2.1 hd ht (fun z => kt ((si_lt (so_hi oS) sr_320).mp (by rw [si_0] at z; exact z)) p e R s m args below meth c cells slots QQ C hr H locs lsA oL (so_t oS) oH hP hS hl) (fun z => kf ((not_congr (si_lt (so_hi oS) sr_320)).mp (by rw [si_0] at z; exact z)) p e R s m args below meth c cells slots QQ C hr H locs lsA oL (so_t oS) oH hP hS hl)
theorem vr_if_ge {x off : Int} {t : Nat} (hd : decode M.2.1 pc = .ok (.ifCond .ge off, 3)) (ht : (pc : Int) + off = (t : Int)) (hq : pc + 3 = q) (kt : 0 ≤ x → V_ g d M t ls st h Post) (kf : ¬ 0 ≤ x → V_ g d M q ls st h Post) : V_ g d M pc ls (sv_i x :: st) h Post := by
  subst hq
  intro p e R s m args below meth c cells slots QQ C hr H locs lsA oL oS oH hP hS hl
  exact lv_if_ge C.1 C.2.1 hd ht (fun z => kt ((si_le sr_320 (so_hi oS)).mp (by rw [si_0] at z; exact z)) p e R s m args below meth c cells slots QQ C hr H locs lsA oL (so_t oS) oH hP hS hl) (fun z => kf ((not_congr (si_le sr_320 (so_hi oS))).mp (by rw [si_0] at z; exact z)) p e R s m args below meth c cells slots QQ C hr H locs lsA oL (so_t oS) oH hP hS hl)
theorem vr_if_gt {x off : Int} {t : Nat} (hd : decode M.2.1 pc = .ok (.ifCond .gt off, 3)) (ht : (pc : Int) + off = (t : Int)) (hq : pc + 3 = q) (kt : 0 < x → V_ g d M t ls st h Post) (kf : ¬ 0 < x → V_ g d M q ls st h Post) : V_ g d M pc ls (sv_i x :: st) h Post := by
  subst hq
  intro p e R s m args below meth c cells slots QQ C hr H locs lsA oL oS oH hP hS hl
  exact lv_if_gt C.1 C.2.1 hd ht (fun z => kt ((si_lt sr_320 (so_hi oS)).mp (by rw [si_0] at z; exact z)) p e R s m args below meth c cells slots QQ C hr H locs lsA oL (so_t oS) oH hP hS hl) (fun z => kf ((not_congr (si_lt sr_320 (so_hi oS))).mp (by rw [si_0] at z; exact z)) p e R s m args below meth c cells slots QQ C hr H locs lsA oL (so_t oS) oH hP hS hl)
theorem vr_if_le {x off : Int} {t : Nat} (hd : decode M.2.1 pc = .ok (.ifCond .le off, 3)) (ht : (pc : Int) + off = (t : Int)) (hq : pc + 3 = q) (kt : x ≤ 0 → V_ g d M t ls st h Post) (kf : ¬ x ≤ 0 → V_ g d M q ls st h Post) : V_ g d M pc ls (sv_i x :: st) h Post := by
  subst hq
  intro p e R s m args below meth c cells slots QQ C hr H locs lsA oL oS oH hP hS hl
  exact lv_if_le C.1 C.2.1 hd ht (fun z => kt ((si_le (so_hi oS) sr_320).mp (by rw [si_0] at z; exact z)) p e R s m args below meth c cells slots QQ C hr H locs lsA oL (so_t oS) oH hP hS hl) (fun z => kf ((not_congr (si_le (so_hi oS) sr_320)).mp (by rw [si_0] at z; exact z)) p e R s m args below meth c cells slots QQ C hr H locs lsA oL (so_t oS) oH hP hS hl)
theorem vr_ic_eq {x y off : Int} {t : Nat} (hd : decode M.2.1 pc = .ok (.if_icmp .eq off, 3)) (ht : (pc : Int) + off = (t : Int)) (hq : pc + 3 = q) (kt : x = y → V_ g d M t ls st h Post) (kf : ¬ x = y → V_ g d M q ls st h Post) : V_ g d M pc ls (sv_i y :: sv_i x :: st) h Post := by
  subst hq
  intro p e R s m args below meth c cells slots QQ C hr H locs lsA oL oS oH hP hS hl
  exact lv_icmp_eq C.1 C.2.1 hd ht (fun z => kt ((si_eq (so_hi (so_t oS)) (so_hi oS)).mp z) p e R s m args below meth c cells slots QQ C hr H locs lsA oL (so_t (so_t oS)) oH hP hS hl) (fun z => kf ((not_congr (si_eq (so_hi (so_t oS)) (so_hi oS))).mp z) p e R s m args below meth c cells slots QQ C hr H locs lsA oL (so_t (so_t oS)) oH hP hS hl)
theorem vr_ic_ne {x y off : Int} {t : Nat} (hd : decode M.2.1 pc = .ok (.if_icmp .ne off, 3)) (ht : (pc : Int) + off = (t : Int)) (hq : pc + 3 = q) (kt : ¬ x = y → V_ g d M t ls st h Post) (kf : x = y → V_ g d M q ls st h Post) : V_ g d M pc ls (sv_i y :: sv_i x :: st) h Post := by
  subst hq
  intro p e R s m args below meth c cells slots QQ C hr H locs lsA oL oS oH hP hS hl
  exact lv_icmp_ne C.1 C.2.1 hd ht (fun z => kt ((not_congr (si_eq (so_hi (so_t oS)) (so_hi oS))).mp z) p e R s m args below meth c cells slots QQ C hr H locs lsA oL (so_t (so_t oS)) oH hP hS hl) (fun z => kf ((si_eq (so_hi (so_t oS)) (so_hi oS)).mp z) p e R s m args below meth c cells slots QQ C hr H locs lsA oL (so_t (so_t oS)) oH hP hS hl)
theorem vr_ic_lt {x y off : Int} {t : Nat} (hd : decode M.2.1 pc = .ok (.if_icmp .lt off, 3)) (ht : (pc : Int) + off = (t : Int)) (hq : pc + 3 = q) (kt : x < y → V_ g d M t ls st h Post) (kf : ¬ x < y → V_ g d M q ls st h Post) : V_ g d M pc ls (sv_i y :: sv_i x :: st) h Post := by
  subst hq
  intro p e R s m args below meth c cells slots QQ C hr H locs lsA oL oS oH hP hS hl
  exact lv_icmp_lt C.1 C.2.1 hd ht (fun z => kt ((si_lt (so_hi (so_t oS)) (so_hi oS)).mp z) p e R s m args below meth c cells slots QQ C hr H locs lsA oL (so_t (so_t oS)) oH hP hS hl) (fun z => kf ((not_congr (si_lt (so_hi (so_t oS)) (so_hi oS))).mp z) p e R s m args below meth c cells slots QQ C hr H locs lsA oL (so_t (so_t oS)) oH hP hS hl)
theorem vr_ic_ge {x y off : Int} {t : Nat} (hd : decode M.2.1 pc = .ok (.if_icmp .ge off, 3)) (ht : (pc : Int) + off = (t : Int)) (hq : pc + 3 = q) (kt : y ≤ x → V_ g d M t ls st h Post) (kf : ¬ y ≤ x → V_ g d M q ls st h Post) : V_ g d M pc ls (sv_i y :: sv_i x :: st) h Post := by
  subst hq
  intro p e R s m args below meth c cells slots QQ C hr H locs lsA oL oS oH hP hS hl
  exact lv_icmp_ge C.1 C.2.1 hd ht (fun z => kt ((si_le (so_hi oS) (so_hi (so_t oS))).mp z) p e R s m args below meth c cells slots QQ C hr H locs lsA oL (so_t (so_t oS)) oH hP hS hl) (fun z => kf ((not_congr (si_le (so_hi oS) (so_hi (so_t oS)))).mp z) p e R s m args below meth c cells slots QQ C hr H locs lsA oL (so_t (so_t oS)) oH hP hS hl)
theorem vr_ic_gt {x y off : Int} {t : Nat} (hd : decode M.2.1 pc = .ok (.if_icmp .gt off, 3)) (ht : (pc : Int) + off = (t : Int)) (hq : pc + 3 = q) (kt : y < x → V_ g d M t ls st h Post) (kf : ¬ y < x → V_ g d M q ls st h Post) : V_ g d M pc ls (sv_i y :: sv_i x :: st) h Post := by
  subst hq
  intro p e R s m args below meth c cells slots QQ C hr H locs lsA oL oS oH hP hS hl
  exact lv_icmp_gt C.1 C.2.1 hd ht (fun z => kt ((si_lt (so_hi oS) (so_hi (so_t oS))).mp z) p e R s m args below meth c cells slots QQ C hr H locs lsA oL (so_t (so_t oS)) oH hP hS hl) (fun z => kf ((not_congr (si_lt (so_hi oS) (so_hi (so_t oS)))).mp z) p e R s m args below meth c cells slots QQ C hr H locs lsA oL (so_t (so_t oS)) oH hP hS hl)
theorem vr_ic_le {x y off : Int} {t : Nat} (hd : decode M.2.1 pc = .ok (.if_icmp .le off, 3)) (ht : (pc : Int) + off = (t : Int)) (hq : pc + 3 = q) (kt : x ≤ y → V_ g d M t ls st h Post) (kf : ¬ x ≤ y → V_ g d M q ls st h Post) : V_ g d M pc ls (sv_i y :: sv_i x :: st) h Post := by
  subst hq
  intro p e R s m args below meth c cells slots QQ C hr H locs lsA oL oS oH hP hS hl
  exact lv_icmp_le C.1 C.2.1 hd ht (fun z => kt ((si_le (so_hi (so_t oS)) (so_hi oS)).mp z) p e R s m args below meth c cells slots QQ C hr H locs lsA oL (so_t (so_t oS)) oH hP hS hl) (fun z => kf ((not_congr (si_le (so_hi (so_t oS)) (so_hi oS))).mp z) p e R s m args below meth c cells slots QQ C hr H locs lsA oL (so_t (so_t oS)) oH hP hS hl)
theorem vr_goto {off : Int} (hd : decode M.2.1 pc = .ok (.goto off, 3)) (ht : (pc : Int) + off = (q : Int)) (k : V_ g d M q ls st h Post) : V_ g d M pc ls st h Post :=
  V_pure id (fun _ p e R s m args below meth c H locs cells slots QQ lsA hx hb w => lv_goto hx hb hd ht w) k
theorem vr_tsO {dflt lo hi : Int} {offs : Array Int} {len : Nat} {x : Int} (hd : decode M.2.1 pc = .ok (.tableswitch dflt lo hi offs, len)) (hx0 : x < lo ∨ hi < x) (ht : (pc : Int) + dflt = (q : Int)) (k : V_ g d M q ls st h Post) : V_ g d M pc ls (sv_i x :: st) h Post :=
  V_pure (st2 := st) (fun oS => so_t oS) (fun oS p e R s m args below meth c H locs cells slots QQ lsA hx hb w => lv_tableOut hx hb hd (by rw [si_t (so_hi oS)]; exact hx0) ht w) k
theorem vr_tsI {dflt lo hi : Int} {offs : Array Int} {len : Nat} {x off : Int} (hd : decode M.2.1 pc = .ok (.tableswitch dflt lo hi offs, len)) (h1 : ¬ x < lo) (h2 : ¬ hi < x) (ho : offs[(x - lo).toNat]? = some off) (ht : (pc : Int) + off = (q : Int)) (k : V_ g d M q ls st h Post) : V_ g d M pc ls (sv_i x :: st) h Post :=
  V_pure (st2 := st) (fun oS => so_t oS) (fun oS p e R s m args below meth c H locs cells slots QQ lsA hx hb w => lv_tableIn hx hb hd (by rw [si_t (so_hi oS)]; exact h1) (by rw [si_t (so_hi oS)]; exact h2) (by rw [si_t (so_hi oS)]; exact ho) ht w) k
theorem vr_lsw {dflt : Int} {ps : Array (Int × Int)} {len : Nat} {x off : Int} (hd : decode M.2.1 pc = .ok (.lookupswitch dflt ps, len)) (hp : (ps.toList.zip (ps.toList.drop 1)).all (fun (a, next) => a.1 < next.1) = true) (ho : Op.lookupswitch.offset ps.toList dflt x = off) (ht : (pc : Int) + off = (q : Int)) (k : V_ g d M q ls st h Post) : V_ g d M pc ls (sv_i x :: st) h Post :=
  V_pure (st2 := st) (fun oS => so_t oS) (fun oS p e R s m args below meth c H locs cells slots QQ lsA hx hb w => lv_lookup hx hb hd hp (by rw [si_t (so_hi oS)]; exact ho) ht w) k
/-! locals -/
theorem sl_in {i : Nat} {v : SV_} (o : sl_ok ls) (hl : ls[i]? = some (some v)) : sv_ok v := o v (List.mem_of_getElem? hl)
theorem vr_iload_n {j : Fin 4} {x : Int} (hd : decode M.2.1 pc = .ok (.iload_n j, 1)) (hq : pc + 1 = q) (hv : ls[(j : Nat)]? = some (some (sv_i x))) (k : V_ g d M q ls (sv_i x :: st) h Post) : V_ g d M pc ls st h Post := by
  subst hq
  intro p e R s m args below meth c cells slots QQ C hr H locs lsA oL oS oH hP hS hl
  exact lv_iload_n C.1 C.2.1 hd rfl (sl_at hl hv) (k p e R s m args below meth c cells slots QQ C hr H locs lsA oL (so_1 (sl_in oL hv) oS) oH hP hS hl)
theorem vr_iload {j : Nat} {x : Int} (hd : decode M.2.1 pc = .ok (.iload j, 2)) (hq : pc + 2 = q) (hv : ls[j]? = some (some (sv_i x))) (k : V_ g d M q ls (sv_i x :: st) h Post) : V_ g d M pc ls st h Post := by
  subst hq
  intro p e R s m args below meth c cells slots QQ C hr H locs lsA oL oS oH hP hS hl
  exact lv_iload C.1 C.2.1 hd (sl_at hl hv) (k p e R s m args below meth c cells slots QQ C hr H locs lsA oL (so_1 (sl_in oL hv) oS) oH hP hS hl)
theorem vr_lload_n {j : Fin 4} {x : Int} (hd : decode M.2.1 pc = .ok (.lload_n j, 1)) (hq : pc + 1 = q) (hv : ls[(j : Nat)]? = some (some (sv_l x))) (k : V_ g d M q ls (sv_l x :: st) h Post) : V_ g d M pc ls st h Post := by
  subst hq
  intro p e R s m args below meth c cells slots QQ C hr H locs lsA oL oS oH hP hS hl
  exact lv_lload_n C.1 C.2.1 hd rfl (sl_at hl hv) (k p e R s m args below meth c cells slots QQ C hr H locs lsA oL (so_1 (sl_in oL hv) oS) oH hP hS hl)
theorem vr_lload {j : Nat} {x : Int} (hd : decode M.2.1 pc = .ok (.lload j, 2)) (hq : pc + 2 = q) (hv : ls[j]? = some (some (sv_l x))) (k : V_ g d M q ls (sv_l x :: st) h Post) : V_ g d M pc ls st h Post := by
  subst hq
  intro p e R s m args below meth c cells slots QQ C hr H locs lsA oL oS oH hP hS hl
  exact lv_lload C.1 C.2.1 hd (sl_at hl hv) (k p e R s m args below meth c cells slots QQ C hr H locs lsA oL (so_1 (sl_in oL hv) oS) oH hP hS hl)
theorem vr_aload_n {j : Fin 4} {a n : Nat} {x : Int} (hd : decode M.2.1 pc = .ok (.aload_n j, 1)) (hq : pc + 1 = q) (hv : ls[(j : Nat)]? = some (some (sv_r a n x))) (k : V_ g d M q ls (sv_r a n x :: st) h Post) : V_ g d M pc ls st h Post := by
  subst hq
  intro p e R s m args below meth c cells slots QQ C hr H locs lsA oL oS oH hP hS hl
  exact lv_aload_n C.1 C.2.1 hd rfl (sl_at hl hv) (k p e R s m args below meth c cells slots QQ C hr H locs lsA oL (so_1 (sl_in oL hv) oS) oH hP hS hl)
theorem vr_aload {j a n : Nat} {x : Int} (hd : decode M.2.1 pc = .ok (.aload j, 2)) (hq : pc + 2 = q) (hv : ls[j]? = some (some (sv_r a n x))) (k : V_ g d M q ls (sv_r a n x :: st) h Post) : V_ g d M pc ls st h Post := by
  subst hq
  intro p e R s m args below meth c cells slots QQ C hr H locs lsA oL oS oH hP hS hl
  exact lv_aload C.1 C.2.1 hd (sl_at hl hv) (k p e R s m args below meth c cells slots QQ C hr H locs lsA oL (so_1 (sl_in oL hv) oS) oH hP hS hl)
def sl_nl (ls : List (Option SV_)) : Nat → Bool
  | 0 => true
  | i + 1 => match ls[i]? with
    | some (some (.inr (.inl _))) => false
    | _ => true
theorem sl_nlc {i j : Nat} {v : SV_} (hn : sl_nl ls i = true) (hj : j + 1 = i) (hv : ls[j]? = some (some v)) : sv_c v = 1 := by
  subst hj
  simp only [sl_nl, hv] at hn
  obtain x | x | x := v
  · rfl
  · simp at hn
  · rfl
theorem sl_oks {i : Nat} {v : SV_} (o : sl_ok ls) (hv : sv_ok v) : sl_ok (ls.set i (some v)) := fun w hw => by
  rcases List.mem_or_eq_of_mem_set hw with h1 | h1
  · exact o w h1
  · cases h1; exact hv
theorem sl_st1 {lsA : Array Slot} {n i : Nat} {v : SV_} (hn : sl_nl ls i = true) (hl : lv_has lsA n ((i, sv_v g v) :: (sl_v g 0 ls).filter (fun q => !(q.1 == i) && !(q.1 + 1 == i && q.2.category == 2)))) : lv_has lsA n (sl_v g 0 (ls.set i (some v))) := by
  refine ⟨hl.1, hl.2.1, fun q hq => hl.2.2 q ?_⟩
  obtain ⟨j, w, h1, h2⟩ := sl_mem.mp hq
  by_cases hj : i = j
  · subst hj
    have hlt : i < (ls.set i (some v)).length := (List.getElem?_eq_some_iff.mp h1).1
    rw [List.length_set] at hlt
    rw [List.getElem?_set_self hlt] at h1
    cases h1
    rw [h2]
    simp
  · rw [List.getElem?_set_ne hj] at h1
    refine List.mem_cons_of_mem _ (List.mem_filter.mpr ⟨sl_mem.mpr ⟨j, w, h1, h2⟩, ?_⟩)
    rw [h2]
    simp only [Nat.zero_add, Bool.and_eq_true, Bool.not_eq_true', beq_eq_false_iff_ne, ne_eq, Bool.and_eq_false_iff]
    refine ⟨fun e => hj e.symm, ?_⟩
    by_cases h3 : j + 1 = i
    · right
      rw [sv_ce, sl_nlc hn h3 h1]
      decide
    · exact Or.inl h3
theorem sl_st2 {lsA : Array Slot} {n i : Nat} {v : SV_} (hn : sl_nl ls i = true) (hl : lv_has lsA n ((i, sv_v g v) :: (sl_v g 0 ls).filter (fun q => !(q.1 == i) && (!(q.1 == i + 1) && !(q.1 + 1 == i && q.2.category == 2))))) : lv_has lsA n (sl_v g 0 ((ls.set (i + 1) none).set i (some v))) := by
  refine ⟨hl.1, hl.2.1, fun q hq => hl.2.2 q ?_⟩
  obtain ⟨j, w, h1, h2⟩ := sl_mem.mp hq
  by_cases hj : i = j
  · subst hj
    have hlt : i < ((ls.set (i + 1) none).set i (some v)).length := (List.getElem?_eq_some_iff.mp h1).1
    rw [List.length_set] at hlt
    rw [List.getElem?_set_self hlt] at h1
    cases h1
    rw [h2]
    simp
  · rw [List.getElem?_set_ne hj] at h1
    by_cases hj1 : i + 1 = j
    · subst hj1
      have hlt : i + 1 < (ls.set (i + 1) none).length := (List.getElem?_eq_some_iff.mp h1).1
      rw [List.length_set] at hlt
      rw [List.getElem?_set_self hlt] at h1
      cases h1
    rw [List.getElem?_set_ne hj1] at h1
    refine List.mem_cons_of_mem _ (List.mem_filter.mpr ⟨sl_mem.mpr ⟨j, w, h1, h2⟩, ?_⟩)
    rw [h2]
    simp only [Nat.zero_add, Bool.and_eq_true, Bool.not_eq_true', beq_eq_false_iff_ne, ne_eq, Bool.and_eq_false_iff]
    refine ⟨fun e => hj e.symm, fun e => hj1 e.symm, ?_⟩
    by_cases h3 : j + 1 = i
    · right
      rw [sv_ce, sl_nlc hn h3 h1]
      decide
    · exact Or.inl h3
theorem vr_istore_n {j : Fin 4} {i : Nat} {x : Int} {ls2 : List (Option SV_)} (hd : decode M.2.1 pc = .ok (.istore_n j, 1)) (hq : pc + 1 = q) (hi : (j : Nat) = i) (hn : i < M.2.2.1) (hc : sl_nl ls i = true) (h2 : ls.set i (some (sv_i x)) = ls2) (k : V_ g d M q ls2 st h Post) : V_ g d M pc ls (sv_i x :: st) h Post := by
  subst hq
  subst h2
  intro p e R s m args below meth c cells slots QQ C hr H locs lsA oL oS oH hP hS hl
  exact lv_istore_n C.1 C.2.1 hd hi hl hn rfl (fun ls' hl' => k p e R s m args below meth c cells slots QQ C hr H locs ls' (sl_oks oL (so_h oS)) (so_t oS) oH hP hS (sl_st1 (v := sv_i x) hc hl'))
theorem vr_istore {i : Nat} {x : Int} {ls2 : List (Option SV_)} (hd : decode M.2.1 pc = .ok (.istore i, 2)) (hq : pc + 2 = q) (hn : i < M.2.2.1) (hc : sl_nl ls i = true) (h2 : ls.set i (some (sv_i x)) = ls2) (k : V_ g d M q ls2 st h Post) : V_ g d M pc ls (sv_i x :: st) h Post := by
  subst hq
  subst h2
  intro p e R s m args below meth c cells slots QQ C hr H locs lsA oL oS oH hP hS hl
  exact lv_istore C.1 C.2.1 hd hl hn rfl (fun ls' hl' => k p e R s m args below meth c cells slots QQ C hr H locs ls' (sl_oks oL (so_h oS)) (so_t oS) oH hP hS (sl_st1 (v := sv_i x) hc hl'))
theorem vr_astore_n {j : Fin 4} {i a b : Nat} {x : Int} {ls2 : List (Option SV_)} (hd : decode M.2.1 pc = .ok (.astore_n j, 1)) (hq : pc + 1 = q) (hi : (j : Nat) = i) (hn : i < M.2.2.1) (hc : sl_nl ls i = true) (h2 : ls.set i (some (sv_r a b x)) = ls2) (k : V_ g d M q ls2 st h Post) : V_ g d M pc ls (sv_r a b x :: st) h Post := by
  subst hq
  subst h2
  intro p e R s m args below meth c cells slots QQ C hr H locs lsA oL oS oH hP hS hl
  exact lv_astore_n C.1 C.2.1 hd hi hl hn rfl (fun ls' hl' => k p e R s m args below meth c cells slots QQ C hr H locs ls' (sl_oks oL (so_h oS)) (so_t oS) oH hP hS (sl_st1 (v := sv_r a b x) hc hl'))
theorem vr_astore {i a b : Nat} {x : Int} {ls2 : List (Option SV_)} (hd : decode M.2.1 pc = .ok (.astore i, 2)) (hq : pc + 2 = q) (hn : i < M.2.2.1) (hc : sl_nl ls i = true) (h2 : ls.set i (some (sv_r a b x)) = ls2) (k : V_ g d M q ls2 st h Post) : V_ g d M pc ls (sv_r a b x :: st) h Post := by
  subst hq
  subst h2
  intro p e R s m args below meth c cells slots QQ C hr H locs lsA oL oS oH hP hS hl
  exact lv_astore C.1 C.2.1 hd hl hn rfl (fun ls' hl' => k p e R s m args below meth c cells slots QQ C hr H locs ls' (sl_oks oL (so_h oS)) (so_t oS) oH hP hS (sl_st1 (v := sv_r a b x) hc hl'))
theorem vr_lstore {i : Nat} {x : Int} {ls2 : List (Option SV_)} (hd : decode M.2.1 pc = .ok (.lstore i, 2)) (hq : pc + 2 = q) (hn : i + 1 < M.2.2.1) (hc : sl_nl ls i = true) (h2 : (ls.set (i + 1) none).set i (some (sv_l x)) = ls2) (k : V_ g d M q ls2 st h Post) : V_ g d M pc ls (sv_l x :: st) h Post := by
  subst hq
  subst h2
  intro p e R s m args below meth c cells slots QQ C hr H locs lsA oL oS oH hP hS hl
  refine lv_lstore C.1 C.2.1 hd hl hn rfl (fun ls' hl' => k p e R s m args below meth c cells slots QQ C hr H locs ls' (sl_oks (fun w hw => ?_) (so_h oS)) (so_t oS) oH hP hS (sl_st2 (v := sv_l x) hc hl'))
  rcases List.mem_or_eq_of_mem_set hw with h1 | h1
  · exact oL w h1
  · cases h1
theorem vr_iinc {i : Nat} {n x : Int} {ls2 : List (Option SV_)} (hd : decode M.2.1 pc = .ok (.iinc i n, 3)) (hq : pc + 3 = q) (hv : ls[i]? = some (some (sv_i x))) (hr : sr_32 (x + n)) (hn : i < M.2.2.1) (hc : sl_nl ls i = true) (h2 : ls.set i (some (sv_i (x + n))) = ls2) (k : V_ g d M q ls2 st h Post) : V_ g d M pc ls st h Post := by
  subst hq
  subst h2
  intro p e R s m args below meth c cells slots QQ C hr2 H locs lsA oL oS oH hP hS hl
  obtain ⟨j, hj⟩ := List.getElem?_of_mem (sl_mem (g := g) (i := 0).mpr ⟨i, _, hv, rfl⟩)
  rw [Nat.zero_add] at hj
  exact lv_iinc (v := Int32.ofInt (x + n)) C.1 C.2.1 hd hl hj (Int32.ofInt_add _ _).symm hn rfl (fun ls' hl' => k p e R s m args below meth c cells slots QQ C hr2 H locs ls' (sl_oks (v := sv_i (x + n)) oL hr) oS oH hP hS (sl_st1 (v := sv_i (x + n)) hc hl'))
theorem vr_lcmp {x y : Int} (hd : decode M.2.1 pc = .ok (.lcmp, 1)) (hq : pc + 1 = q) (k : V_ g d M q ls (sv_i (if y < x then 1 else if x = y then 0 else -1) :: st) h Post) : V_ g d M pc ls (sv_l y :: sv_l x :: st) h Post := by
  subst hq
  refine V_pure (st2 := sv_i (if y < x then 1 else if x = y then 0 else -1) :: st) (fun oS => so_i ?_ (so_t (so_t oS))) (fun oS p e R s m args below meth c H locs cells slots QQ lsA hx hb w => W.lcmp hx hb hd ?_) k
  · split
    · exact ⟨by decide, by decide⟩
    · split
      · exact ⟨by decide, by decide⟩
      · exact ⟨by decide, by decide⟩
  · have hxx := so_hl (so_t oS)
    have hyy := so_hl oS
    have e : lg_cmp (Int64.ofInt x) (Int64.ofInt y) = Int32.ofInt (if y < x then 1 else if x = y then 0 else -1) := by
      have h1 : Int64.ofInt y < Int64.ofInt x ↔ y < x := by rw [Int64.lt_iff_toInt_lt, sj_t hxx, sj_t hyy]
      have h2 : Int64.ofInt x = Int64.ofInt y ↔ x = y := by rw [← Int64.toInt_inj, sj_t hxx, sj_t hyy]
      unfold lg_cmp
      simp only [gt_iff_lt, h1, h2]
      split
      · rfl
      · split
        · rfl
        · rfl
    rw [e]
    exact w
end VB_
