theorem gd_mem {r : List Int} {i : Nat} (h : i < r.length) : r.getD i 0 ∈ r := by
  rw [List.getD_eq_getElem?_getD, List.getElem?_eq_getElem h]
  exact List.getElem_mem h
theorem rwr_k {h hc : SH_} {r : List Int} (e : hc 81 = h 81) (w : rwr_ h r) : rwr_ hc r := fun i hi => by rw [e]; exact w i hi
theorem obs_0 (F : TF_) (m : MU_) (b : BR_) (r : List Int) : obs_ F m 0 [] b r = if b.2 < ncn_ F r m then (r, ncn_ F r m) else b := by
  unfold obs_
  rw [Int.zero_add, List.nil_append]
theorem msc_81 {h hc h2 : SH_} (a : msc_ h hc) (e : ∀ a, a ≠ 81 → h2 a = hc a) : msc_ h h2 := ⟨fun x x1 x2 x3 x4 => (e x x3).trans (a.1 x x1 x2 x3 x4), fun x hx => (congrFun (e 68 (by decide)) x).trans (a.2 x hx)⟩
theorem msc_82 {h hc : SH_} {n : Int} (a : msc_ h hc) : msc_ h (hc_ hc 81 0 82 0 n) := ⟨fun x x1 x2 x3 x4 => by
  rw [← a.1 x x1 x2 x3 x4]
  funext b
  unfold hc_
  rw [if_neg (fun z => x4 z.1)], fun x hx => by
  rw [← a.2 x hx]
  unfold hc_
  rw [if_neg (by omega)]⟩
section PM21_
variable {g : SG_} {d : Nat} {h p : SH_} {Post : Option SV_ → SH_ → Prop}
theorem lm_nodsAt {s n : Int} (c : cpl_ p h) (hn : n ≤ 6) : ∀ (b : List Int) (j : Nat) (m : MU_) (sum : Int) (o5 : Option SV_), (∀ i : Nat, i < b.length → h 81 ((j : Int) + i) = b.getD i 0) → (∀ x ∈ b, 0 ≤ x ∧ x < p 7 2) → (j : Int) + b.length = n → (0 ≤ sum ∧ sum ≤ j) → mo_ (6 + j) m → Post (some (sv_i (sum + ncn_ (tf_ p) b m))) (mw_ h (ftm_ (tf_ p) b m)) → V_ g (d + 3) mX9_nodsAt 10 [some (sv_r 4 8 68), some (sv_i s), some (sv_i n), some (sv_i sum), some (sv_i j), o5] [] (mw_ h m) Post := by
  intro b
  induction b with
  | nil =>
    intro j m sum o5 hb hx hj hs hm kk
    have k2 : Post (some (sv_i (sum + 0))) (mw_ h m) := kk
    rw [Int.add_zero] at k2
    rw [List.length_nil] at hj
    refine vr_iload (q := 12) dX9_nodsAt_10 rfl rfl ?_
    refine vr_iload_n (q := 13) dX9_nodsAt_12 rfl rfl ?_
    -- at X9.nodsAt 13: .if_icmp .ge 48
    refine vr_ic_ge (t := 61) (q := 16) dX9_nodsAt_13 (by decide) rfl (fun _ => ?_) (fun c9 => absurd c9 (by omega))
    refine vr_iload_n (q := 62) dX9_nodsAt_61 rfl rfl ?_
    refine vr_iret dX9_nodsAt_62 rfl ?_
    exact k2
  | cons l r ih =>
    intro j m sum o5 hb hx hj hs hm kk
    have e81 : ∀ m, mw_ h m 81 = h 81 := fun m => mw_n (by decide) (by decide)
    have i0 := hb 0 (by rw [List.length_cons]; omega)
    rw [show (j : Int) + ((0 : Nat) : Int) = j by omega] at i0
    have i1 : h 81 j = l := i0
    have hl := hx l (List.mem_cons_self ..)
    have hlo := c.1.2.2.2.1 l hl.1 hl.2
    rw [List.length_cons] at hj
    have e1 : ncn_ (tf_ p) (l :: r) m = nl_ (tf_ p) m l + ncn_ (tf_ p) r (hl_ (tf_ p) m l) := rfl
    have e2 : ftm_ (tf_ p) (l :: r) m = ftm_ (tf_ p) r (hl_ (tf_ p) m l) := rfl
    rw [e1, e2, ← Int.add_assoc] at kk
    have hm2 : mo_ (6 + ((j + 1 : Nat) : Int)) (hl_ (tf_ p) m l) := by
      have z := he_mo (b := nl_ (tf_ p) m l) hlo hm
      rw [show (6 : Int) + ((j + 1 : Nat) : Int) = 6 + (j : Int) + 1 by omega]
      exact z
    have ih2 := fun sum o5 => ih (j + 1) (hl_ (tf_ p) m l) sum o5 (fun i hi => by
      have z := hb (i + 1) (by rw [List.length_cons]; omega)
      rw [show ((j + 1 : Nat) : Int) + (i : Int) = (j : Int) + ((i + 1 : Nat) : Int) by omega, z]
      rfl) (fun x hx2 => hx x (List.mem_cons_of_mem _ hx2)) (by omega)
    unfold hl_ at hm2 ih2 kk
    refine vr_iload (q := 12) dX9_nodsAt_10 rfl rfl ?_
    refine vr_iload_n (q := 13) dX9_nodsAt_12 rfl rfl ?_
    -- at X9.nodsAt 13: .if_icmp .ge 48
    refine vr_ic_ge (t := 61) (q := 16) dX9_nodsAt_13 (by decide) rfl (fun c9 => absurd c9 (by omega)) (fun _ => ?_)
    refine vr_aload_n (q := 17) dX9_nodsAt_16 rfl rfl ?_
    refine vr_aload_n (q := 18) dX9_nodsAt_17 rfl rfl ?_
    refine vr_getR (q := 21) dX9_nodsAt_18 rfl fX9_47 rfl y_X9_25 (by first | (simp only [Int.reduceAdd]; rfl) | rfl) ?_
    refine vr_iload (q := 23) dX9_nodsAt_21 rfl rfl ?_
    refine vr_ialdV (q := 24) dX9_nodsAt_23 rfl ⟨by omega, by omega⟩ (show _ = l by rw [e81]; exact i1) ?_
    -- at X9.nodsAt 24: .invokevirtual 180
    refine vr_iv1 (q := 27) dX9_nodsAt_24 rfl vX9_180 (Nat.le_of_ble_eq_true rfl) ?_
    refine m_wnW (n := 6 + j) c hl hm (by omega) ?_
    rcases nb_01 (p 8 l) (p 9 l) (p 10 l) m with z | z
    · have z2 : nl_ (tf_ p) m l = 0 := z
      rw [z2] at kk hm2 ih2 ⊢
      refine vr_istore (q := 29) dX9_nodsAt_27 rfl (Nat.le_of_ble_eq_true rfl) rfl rfl ?_
      refine vr_aload_n (q := 30) dX9_nodsAt_29 rfl rfl ?_
      refine vr_aload_n (q := 31) dX9_nodsAt_30 rfl rfl ?_
      refine vr_getR (q := 34) dX9_nodsAt_31 rfl fX9_47 rfl y_X9_25 (by first | (simp only [Int.reduceAdd]; rfl) | rfl) ?_
      refine vr_iload (q := 36) dX9_nodsAt_34 rfl rfl ?_
      refine vr_ialdV (q := 37) dX9_nodsAt_36 rfl ⟨by omega, by omega⟩ (show _ = l by rw [e81]; exact i1) ?_
      refine vr_iload (q := 39) dX9_nodsAt_37 rfl rfl ?_
      refine vr_iv2 (q := 42) dX9_nodsAt_39 rfl vX9_183 (Nat.le_of_ble_eq_true rfl) ?_
      refine m_hrW (n := 6 + j) c hl hm (by omega) ?_
      refine vr_iload_n (q := 43) dX9_nodsAt_42 rfl rfl ?_
      refine vr_iload (q := 45) dX9_nodsAt_43 rfl rfl ?_
      refine vr_if_eq (t := 52) (q := 48) dX9_nodsAt_45 (by decide) rfl (fun _ => ?_) (fun c9 => absurd c9 (by omega))
      refine vr_iconst (q := 53) dX9_nodsAt_52 rfl ⟨by decide, by decide⟩ ?_
      refine vr_iaddN (q := 54) dX9_nodsAt_53 rfl ⟨by omega, by omega⟩ ?_
      refine vr_istore_n (q := 55) dX9_nodsAt_54 rfl rfl (Nat.le_of_ble_eq_true rfl) rfl rfl ?_
      refine vr_iinc (q := 58) dX9_nodsAt_55 rfl rfl ⟨by omega, by omega⟩ (Nat.le_of_ble_eq_true rfl) rfl rfl ?_
      refine vr_goto (q := 10) dX9_nodsAt_58 (by decide) ?_
      exact ih2 _ _ ⟨by omega, by omega⟩ hm2 kk
    · have z2 : nl_ (tf_ p) m l = 1 := z
      rw [z2] at kk hm2 ih2 ⊢
      refine vr_istore (q := 29) dX9_nodsAt_27 rfl (Nat.le_of_ble_eq_true rfl) rfl rfl ?_
      refine vr_aload_n (q := 30) dX9_nodsAt_29 rfl rfl ?_
      refine vr_aload_n (q := 31) dX9_nodsAt_30 rfl rfl ?_
      refine vr_getR (q := 34) dX9_nodsAt_31 rfl fX9_47 rfl y_X9_25 (by first | (simp only [Int.reduceAdd]; rfl) | rfl) ?_
      refine vr_iload (q := 36) dX9_nodsAt_34 rfl rfl ?_
      refine vr_ialdV (q := 37) dX9_nodsAt_36 rfl ⟨by omega, by omega⟩ (show _ = l by rw [e81]; exact i1) ?_
      refine vr_iload (q := 39) dX9_nodsAt_37 rfl rfl ?_
      refine vr_iv2 (q := 42) dX9_nodsAt_39 rfl vX9_183 (Nat.le_of_ble_eq_true rfl) ?_
      refine m_hrW (n := 6 + j) c hl hm (by omega) ?_
      refine vr_iload_n (q := 43) dX9_nodsAt_42 rfl rfl ?_
      refine vr_iload (q := 45) dX9_nodsAt_43 rfl rfl ?_
      refine vr_if_eq (t := 52) (q := 48) dX9_nodsAt_45 (by decide) rfl (fun c9 => absurd c9 (by omega)) (fun _ => ?_)
      refine vr_iconst (q := 49) dX9_nodsAt_48 rfl ⟨by decide, by decide⟩ ?_
      refine vr_goto (q := 53) dX9_nodsAt_49 (by decide) ?_
      refine vr_iaddN (q := 54) dX9_nodsAt_53 rfl ⟨by omega, by omega⟩ ?_
      refine vr_istore_n (q := 55) dX9_nodsAt_54 rfl rfl (Nat.le_of_ble_eq_true rfl) rfl rfl ?_
      refine vr_iinc (q := 58) dX9_nodsAt_55 rfl rfl ⟨by omega, by omega⟩ (Nat.le_of_ble_eq_true rfl) rfl rfl ?_
      refine vr_goto (q := 10) dX9_nodsAt_58 (by decide) ?_
      exact ih2 _ _ ⟨by omega, by omega⟩ hm2 kk
theorem m_nodsAt {s n : Int} {r : List Int} (c : cpl_ p h) (hs : 0 ≤ s ∧ s < p 7 3) (hr : rwr_ h r) (hx : ∀ x ∈ r, 0 ≤ x ∧ x < p 7 2) (hl : n = r.length) (hn : n ≤ 6) (kk : Post (some (sv_i (ncn_ (tf_ p) r (en_ p s)))) (mw_ h (ftm_ (tf_ p) r (en_ p s)))) : Ctr_ g (d + 3) mX9_nodsAt [sv_r 4 8 68, sv_i s, sv_i n] h Post := by
  rw [show ncn_ (tf_ p) r (en_ p s) = 0 + ncn_ (tf_ p) r (en_ p s) by omega] at kk
  refine V_mk (by decide +kernel) (Or.inr (Or.inl ⟨rfl, rfl⟩)) (Nat.le_of_ble_eq_true rfl) (by simp [sv_c]) ?_
  show V_ _ _ _ 0 [_, _, _, _, _, _] [] _ _
  refine vr_aload_n (q := 1) dX9_nodsAt_0 rfl rfl ?_
  refine vr_iload_n (q := 2) dX9_nodsAt_1 rfl rfl ?_
  -- at X9.nodsAt 2: .invokevirtual 176
  refine vr_iv1 (q := 5) dX9_nodsAt_2 rfl vX9_176 (Nat.le_of_ble_eq_true rfl) ?_
  refine m_tr c hs ?_
  refine vr_iconst (q := 6) dX9_nodsAt_5 rfl ⟨by decide, by decide⟩ ?_
  refine vr_istore_n (q := 7) dX9_nodsAt_6 rfl rfl (Nat.le_of_ble_eq_true rfl) rfl rfl ?_
  refine vr_iconst (q := 8) dX9_nodsAt_7 rfl ⟨by decide, by decide⟩ ?_
  refine vr_istore (q := 10) dX9_nodsAt_8 rfl (Nat.le_of_ble_eq_true rfl) rfl rfl ?_
  -- at X9.nodsAt 10: .iload 4
  exact lm_nodsAt c hn r 0 _ 0 none (fun i hi => by rw [show ((0 : Nat) : Int) + (i : Int) = i by omega]; exact hr i hi) hx (by omega) ⟨Int.le_refl 0, Int.le_refl 0⟩ (en_mo c.1 hs) kk
theorem lm_best {s x k n its : Int} {v5 : Int} (hn : 0 ≤ n ∧ n ≤ 6) (kk : ∀ o7 : Option SV_, V_ g (d + 4) mX9_order 142 [some (sv_r 4 8 68), some (sv_i s), some (sv_i x), some (sv_i k), some (sv_i n), some (sv_i v5), some (sv_i its), o7] [] (hc_ h 81 0 82 0 n) Post) : ∀ (m j : Nat), (j : Int) + m = n → V_ g (d + 4) mX9_order 115 [some (sv_r 4 8 68), some (sv_i s), some (sv_i x), some (sv_i k), some (sv_i n), some (sv_i v5), some (sv_i its), some (sv_i j)] [] (hc_ h 81 0 82 0 j) Post := by
  intro m
  induction m with
  | zero =>
    intro j hj
    rw [show n = j by omega] at kk ⊢
    refine vr_iload (q := 117) dX9_order_115 rfl rfl ?_
    refine vr_iload (q := 119) dX9_order_117 rfl rfl ?_
    -- at X9.order 119: .if_icmp .ge 23
    refine vr_ic_ge (t := 142) (q := 122) dX9_order_119 (by decide) rfl (fun _ => ?_) (fun c9 => absurd c9 (by omega))
    exact kk _
  | succ m ih =>
    intro j hj
    have k2 := ih (j + 1) (by omega)
    rw [show ((j + 1 : Nat) : Int) = (j : Int) + 1 by omega, ← hc_s _ (by decide) (by omega), Int.zero_add] at k2
    refine vr_iload (q := 117) dX9_order_115 rfl rfl ?_
    refine vr_iload (q := 119) dX9_order_117 rfl rfl ?_
    -- at X9.order 119: .if_icmp .ge 23
    refine vr_ic_ge (t := 142) (q := 122) dX9_order_119 (by decide) rfl (fun c9 => absurd c9 (by omega)) (fun _ => ?_)
    refine vr_aload_n (q := 123) dX9_order_122 rfl rfl ?_
    refine vr_getR (q := 126) dX9_order_123 rfl fX9_50 rfl y_X9_26 (by first | (simp only [Int.reduceAdd]; rfl) | rfl) ?_
    refine vr_iload (q := 128) dX9_order_126 rfl rfl ?_
    refine vr_aload_n (q := 129) dX9_order_128 rfl rfl ?_
    refine vr_getR (q := 132) dX9_order_129 rfl fX9_47 rfl y_X9_25 (by first | (simp only [Int.reduceAdd]; rfl) | rfl) ?_
    refine vr_iload (q := 134) dX9_order_132 rfl rfl ?_
    refine vr_iald (q := 135) dX9_order_134 rfl ⟨by omega, by omega⟩ ?_
    refine vr_iast (q := 136) dX9_order_135 rfl ⟨by omega, by omega⟩ ?_
    refine vr_iinc (q := 139) dX9_order_136 rfl rfl ⟨by omega, by omega⟩ (Nat.le_of_ble_eq_true rfl) rfl rfl ?_
    refine vr_goto (q := 115) dX9_order_139 (by decide) ?_
    -- at X9.order 115: .iload 7
    exact k2
/-- rows that can be told -/
def rok_ (p : SH_) (n : Int) (L : List (List Int)) : Prop := ∀ r ∈ L, n = r.length ∧ ∀ x ∈ r, 0 ≤ x ∧ x < p 7 2
theorem chn_h {s n : Int} {r : List Int} {t : List (List Int)} (h6 : p 7 2 ≤ 6) (hc : chn_ s r t = true) (hR : rok_ p n (r :: t)) : ∀ r2, gno_ s r = some r2 → ∀ x ∈ r2, x < 6 := by
  intro r2 e2 x hx
  cases t with
  | nil =>
    have z : (gno_ s r == none) = true := hc
    rw [e2] at z
    exact absurd z (by simp)
  | cons r3 t =>
    have z : (gno_ s r == some r3 && chn_ s r3 t) = true := hc
    rw [Bool.and_eq_true, beq_iff_eq, e2] at z
    have e3 : r2 = r3 := Option.some.inj z.1
    rw [e3] at hx
    have y := (hR r3 (List.mem_cons_of_mem _ (List.mem_cons_self ..))).2 x hx
    omega
theorem lm_order {s x k n : Int} (c : cpl_ p h) (hs : 0 ≤ s ∧ s < p 7 3) (hn : 0 ≤ n ∧ n ≤ 6) : ∀ (t : List (List Int)) (r : List Int) (b : BR_) (hc : SH_) (o6 o7 : Option SV_), chn_ x r t = true → rok_ p n (r :: t) → msc_ h hc → rwr_ hc r → hc 68 27 = b.2 → (∀ i : Nat, i < b.1.length → hc 82 i = b.1.getD i 0) → (b.2 < 0 ∨ n = b.1.length) → (∀ (B : BR_) (hc : SH_) (o6 o7 : Option SV_), B = (r :: t).foldl (obs_ (tf_ p) (en_ p s) 0 []) b → msc_ h hc → hc 68 27 = B.2 → (∀ i : Nat, i < B.1.length → hc 82 i = B.1.getD i 0) → n = B.1.length → V_ g (d + 4) mX9_order 154 [some (sv_r 4 8 68), some (sv_i s), some (sv_i x), some (sv_i k), some (sv_i n), some (sv_i 0), o6, o7] [] hc Post) → V_ g (d + 4) mX9_order 83 [some (sv_r 4 8 68), some (sv_i s), some (sv_i x), some (sv_i k), some (sv_i n), some (sv_i 1), o6, o7] [] hc Post := by
  intro t
  have h6 := c.1.1.2
  induction t with
  | nil =>
    intro r b hc o6 o7 hch hR hk hr h27 h82 hbl fin
    have hr0 := hR r (List.mem_cons_self ..)
    have c2 := cpl_m hk c
    have hN := ncn_r (tf_ p) r (en_ p s)
    have hfin := fun hc o6 o7 => fin _ hc o6 o7 rfl
    have ef : [r].foldl (obs_ (tf_ p) (en_ p s) 0 []) b = obs_ (tf_ p) (en_ p s) 0 [] b r := rfl
    rw [ef, obs_0] at hfin
    have eg : gno_ x r = none := by
      have z : (gno_ x r == none) = true := hch
      rw [beq_iff_eq] at z
      exact z
    have tail : ∀ (hc : SH_) (o6 o7 : Option SV_), msc_ h hc → rwr_ hc r → hc 68 27 = (if b.2 < ncn_ (tf_ p) r (en_ p s) then (r, ncn_ (tf_ p) r (en_ p s)) else b).2 → (∀ i : Nat, i < (if b.2 < ncn_ (tf_ p) r (en_ p s) then (r, ncn_ (tf_ p) r (en_ p s)) else b).1.length → hc 82 i = (if b.2 < ncn_ (tf_ p) r (en_ p s) then (r, ncn_ (tf_ p) r (en_ p s)) else b).1.getD i 0) → n = (if b.2 < ncn_ (tf_ p) r (en_ p s) then (r, ncn_ (tf_ p) r (en_ p s)) else b).1.length → V_ g (d + 4) mX9_order 142 [some (sv_r 4 8 68), some (sv_i s), some (sv_i x), some (sv_i k), some (sv_i n), some (sv_i 1), o6, o7] [] hc Post := by
      intro hc o6 o7 hk hr e27 e82 el
      refine vr_aload_n (q := 143) dX9_order_142 rfl rfl ?_
      refine vr_iload_n (q := 144) dX9_order_143 rfl rfl ?_
      refine vr_iload (q := 146) dX9_order_144 rfl rfl ?_
      -- at X9.order 146: .invokevirtual 206
      refine vr_iv2 (q := 149) dX9_order_146 rfl vX9_206 (Nat.le_of_ble_eq_true rfl) ?_
      refine m_goesOn hr hr0.1 hn.2 (fun i hi => by have z := hr0.2 _ (gd_mem hi); omega) (chn_h h6 hch hR) (fun r2 h2 z => absurd (eg.symm.trans z) (by simp)) (fun _ => ?_)
      refine vr_istore (q := 151) dX9_order_149 rfl (Nat.le_of_ble_eq_true rfl) rfl rfl ?_
      refine vr_goto (q := 83) dX9_order_151 (by decide) ?_
      -- at X9.order 83: .iload 5
      refine vr_iload (q := 85) dX9_order_83 rfl rfl ?_
      -- at X9.order 85: .ifCond .eq 69
      refine vr_if_eq (t := 154) (q := 88) dX9_order_85 (by decide) rfl (fun _ => ?_) (fun c9 => absurd c9 (by omega))
      exact hfin hc o6 o7 hk e27 e82 el
    refine vr_iload (q := 85) dX9_order_83 rfl rfl ?_
    -- at X9.order 85: .ifCond .eq 69
    refine vr_if_eq (t := 154) (q := 88) dX9_order_85 (by decide) rfl (fun c9 => absurd c9 (by omega)) (fun _ => ?_)
    refine vr_aload_n (q := 89) dX9_order_88 rfl rfl ?_
    refine vr_iload_n (q := 90) dX9_order_89 rfl rfl ?_
    refine vr_iload (q := 92) dX9_order_90 rfl rfl ?_
    -- at X9.order 92: .invokevirtual 203
    refine vr_iv2 (q := 95) dX9_order_92 rfl vX9_203 (Nat.le_of_ble_eq_true rfl) ?_
    refine m_nodsAt c2 hs hr hr0.2 hr0.1 hn.2 ?_
    refine vr_istore (q := 97) dX9_order_95 rfl (Nat.le_of_ble_eq_true rfl) rfl rfl ?_
    refine vr_iload (q := 99) dX9_order_97 rfl rfl ?_
    refine vr_aload_n (q := 100) dX9_order_99 rfl rfl ?_
    refine vr_getV (ji := 27) (q := 103) dX9_order_100 rfl fX9_200 rfl rfl (show _ = b.2 by rw [mw_f (by omega)]; exact h27) ?_
    -- at X9.order 103: .if_icmp .le 39
    refine vr_ic_le (t := 142) (q := 106) dX9_order_103 (by decide) rfl (fun c1 => ?_) (fun c1 => ?_)
    · rw [if_neg (by omega)] at tail
      exact tail _ _ _ (msc_w hk) (rwr_k (mw_n (by decide) (by decide)) hr) ((mw_f (by omega)).trans h27) (fun i hi => (congrFun (mw_n (by decide) (by decide)) _).trans (h82 i hi)) (by omega)
    · rw [if_pos (by omega)] at tail
      refine vr_aload_n (q := 107) dX9_order_106 rfl rfl ?_
      refine vr_iload (q := 109) dX9_order_107 rfl rfl ?_
      refine vr_put (ji := 27) (q := 112) dX9_order_109 rfl pX9_200 rfl rfl ?_
      refine vr_iconst (q := 113) dX9_order_112 rfl ⟨by decide, by decide⟩ ?_
      refine vr_istore (q := 115) dX9_order_113 rfl (Nat.le_of_ble_eq_true rfl) rfl rfl ?_
      -- at X9.order 115: .iload 7
      have z := lm_best (g := g) (d := d) (s := s) (x := x) (k := k) (its := ncn_ (tf_ p) r (en_ p s)) (v5 := 1) (h := hs_ (mw_ hc (ftm_ (tf_ p) r (en_ p s))) 68 27 (ncn_ (tf_ p) r (en_ p s))) hn (fun o7 => tail _ _ o7 (msc_82 (msc_m (msc_w hk))) (fun i hi => ?_) ?_ (fun i hi => ?_) hr0.1) n.toNat 0 (by omega)
      · rw [show ((0 : Nat) : Int) = 0 from rfl, hc_0] at z
        exact z
      · unfold hc_
        rw [if_neg (by omega), hs_k (by decide), mw_n (by decide) (by decide)]
        exact hr i hi
      · unfold hc_
        rw [if_neg (by omega), hs_e]
      · have hi2 : i < r.length := hi
        unfold hc_
        rw [if_pos ⟨rfl, by omega, by have := hr0.1; omega⟩, hs_k (by decide), mw_n (by decide) (by decide), show (0 : Int) + ((i : Int) - 0) = i by omega]
        exact hr i hi
  | cons r3 t ih =>
    intro r b hc o6 o7 hch hR hk hr h27 h82 hbl fin
    have hr0 := hR r (List.mem_cons_self ..)
    have c2 := cpl_m hk c
    have hN := ncn_r (tf_ p) r (en_ p s)
    have ef : (r :: r3 :: t).foldl (obs_ (tf_ p) (en_ p s) 0 []) b = (r3 :: t).foldl (obs_ (tf_ p) (en_ p s) 0 []) (obs_ (tf_ p) (en_ p s) 0 [] b r) := rfl
    rw [ef, obs_0] at fin
    have hch2 : gno_ x r = some r3 ∧ chn_ x r3 t = true := by
      have z : (gno_ x r == some r3 && chn_ x r3 t) = true := hch
      rw [Bool.and_eq_true, beq_iff_eq] at z
      exact z
    have tail : ∀ (hc : SH_) (o6 o7 : Option SV_), msc_ h hc → rwr_ hc r → hc 68 27 = (if b.2 < ncn_ (tf_ p) r (en_ p s) then (r, ncn_ (tf_ p) r (en_ p s)) else b).2 → (∀ i : Nat, i < (if b.2 < ncn_ (tf_ p) r (en_ p s) then (r, ncn_ (tf_ p) r (en_ p s)) else b).1.length → hc 82 i = (if b.2 < ncn_ (tf_ p) r (en_ p s) then (r, ncn_ (tf_ p) r (en_ p s)) else b).1.getD i 0) → n = (if b.2 < ncn_ (tf_ p) r (en_ p s) then (r, ncn_ (tf_ p) r (en_ p s)) else b).1.length → V_ g (d + 4) mX9_order 142 [some (sv_r 4 8 68), some (sv_i s), some (sv_i x), some (sv_i k), some (sv_i n), some (sv_i 1), o6, o7] [] hc Post := by
      intro hc o6 o7 hk hr e27 e82 el
      refine vr_aload_n (q := 143) dX9_order_142 rfl rfl ?_
      refine vr_iload_n (q := 144) dX9_order_143 rfl rfl ?_
      refine vr_iload (q := 146) dX9_order_144 rfl rfl ?_
      -- at X9.order 146: .invokevirtual 206
      refine vr_iv2 (q := 149) dX9_order_146 rfl vX9_206 (Nat.le_of_ble_eq_true rfl) ?_
      refine m_goesOn hr hr0.1 hn.2 (fun i hi => by have z := hr0.2 _ (gd_mem hi); omega) (chn_h h6 hch hR) (fun r2 h2 z u1 u2 => ?_) (fun z => absurd (hch2.1.symm.trans z) (by simp))
      have e3 : r2 = r3 := Option.some.inj (z.symm.trans hch2.1)
      subst e3
      refine vr_istore (q := 151) dX9_order_149 rfl (Nat.le_of_ble_eq_true rfl) rfl rfl ?_
      refine vr_goto (q := 83) dX9_order_151 (by decide) ?_
      -- at X9.order 83: .iload 5
      exact ih r2 _ h2 o6 o7 hch2.2 (fun r hr => hR r (List.mem_cons_of_mem _ hr)) (msc_81 hk u1) u2 ((congrFun (u1 68 (by decide)) _).trans e27) (fun i hi => (congrFun (u1 82 (by decide)) _).trans (e82 i hi)) (Or.inr el) fin
    refine vr_iload (q := 85) dX9_order_83 rfl rfl ?_
    -- at X9.order 85: .ifCond .eq 69
    refine vr_if_eq (t := 154) (q := 88) dX9_order_85 (by decide) rfl (fun c9 => absurd c9 (by omega)) (fun _ => ?_)
    refine vr_aload_n (q := 89) dX9_order_88 rfl rfl ?_
    refine vr_iload_n (q := 90) dX9_order_89 rfl rfl ?_
    refine vr_iload (q := 92) dX9_order_90 rfl rfl ?_
    -- at X9.order 92: .invokevirtual 203
    refine vr_iv2 (q := 95) dX9_order_92 rfl vX9_203 (Nat.le_of_ble_eq_true rfl) ?_
    refine m_nodsAt c2 hs hr hr0.2 hr0.1 hn.2 ?_
    refine vr_istore (q := 97) dX9_order_95 rfl (Nat.le_of_ble_eq_true rfl) rfl rfl ?_
    refine vr_iload (q := 99) dX9_order_97 rfl rfl ?_
    refine vr_aload_n (q := 100) dX9_order_99 rfl rfl ?_
    refine vr_getV (ji := 27) (q := 103) dX9_order_100 rfl fX9_200 rfl rfl (show _ = b.2 by rw [mw_f (by omega)]; exact h27) ?_
    -- at X9.order 103: .if_icmp .le 39
    refine vr_ic_le (t := 142) (q := 106) dX9_order_103 (by decide) rfl (fun c1 => ?_) (fun c1 => ?_)
    · rw [if_neg (by omega)] at tail
      exact tail _ _ _ (msc_w hk) (rwr_k (mw_n (by decide) (by decide)) hr) ((mw_f (by omega)).trans h27) (fun i hi => (congrFun (mw_n (by decide) (by decide)) _).trans (h82 i hi)) (by omega)
    · rw [if_pos (by omega)] at tail
      refine vr_aload_n (q := 107) dX9_order_106 rfl rfl ?_
      refine vr_iload (q := 109) dX9_order_107 rfl rfl ?_
      refine vr_put (ji := 27) (q := 112) dX9_order_109 rfl pX9_200 rfl rfl ?_
      refine vr_iconst (q := 113) dX9_order_112 rfl ⟨by decide, by decide⟩ ?_
      refine vr_istore (q := 115) dX9_order_113 rfl (Nat.le_of_ble_eq_true rfl) rfl rfl ?_
      -- at X9.order 115: .iload 7
      have z := lm_best (g := g) (d := d) (s := s) (x := x) (k := k) (its := ncn_ (tf_ p) r (en_ p s)) (v5 := 1) (h := hs_ (mw_ hc (ftm_ (tf_ p) r (en_ p s))) 68 27 (ncn_ (tf_ p) r (en_ p s))) hn (fun o7 => tail _ _ o7 (msc_82 (msc_m (msc_w hk))) (fun i hi => ?_) ?_ (fun i hi => ?_) hr0.1) n.toNat 0 (by omega)
      · rw [show ((0 : Nat) : Int) = 0 from rfl, hc_0] at z
        exact z
      · unfold hc_
        rw [if_neg (by omega), hs_k (by decide), mw_n (by decide) (by decide)]
        exact hr i hi
      · unfold hc_
        rw [if_neg (by omega), hs_e]
      · have hi2 : i < r.length := hi
        unfold hc_
        rw [if_pos ⟨rfl, by omega, by have := hr0.1; omega⟩, hs_k (by decide), mw_n (by decide) (by decide), show (0 : Int) + ((i : Int) - 0) = i by omega]
        exact hr i hi
end PM21_
