theorem bt_nc : ∀ x : Fin 64, ∀ k : Fin 6, bt_ ((x : Nat) : Int) ((k : Nat) : Int) = (((x : Nat) / 2 ^ (k : Nat) % 2 : Nat) : Int) := by decide +kernel
theorem bt_n {x k : Nat} (hx : x < 64) (hk : k < 6) : bt_ (x : Int) (k : Int) = ((x / 2 ^ k % 2 : Nat) : Int) := bt_nc ⟨x, hx⟩ ⟨k, hk⟩
theorem sh_2c : ∀ n : Fin 7, sb_ishl 1 ((n : Nat) : Int) = ((2 ^ (n : Nat) : Nat) : Int) := by decide +kernel
theorem sh_2 {n : Nat} (hn : n < 7) : sb_ishl 1 (n : Int) = ((2 ^ n : Nat) : Int) := sh_2c ⟨n, hn⟩
/-- one way of the slips, the bits from the lowest on -/
def gbn_ (F : TF_) (L : Int → Int) (c : Int) : Nat → Int → MU_ → Nat → Int × Int → Int × Int
  | 0, _, _, _, x => x
  | k + 1, t, m, q, x => gbn_ F L c k (t + 1) (he_ (F.2.1 (L t)) (F.2.2 (L t)) (if nl_ F m (L t) = 0 then 0 else 1 - ((q % 2 : Nat) : Int)) m) (q / 2) (x.1 * (if nl_ F m (L t) = 0 then (if ((q % 2 : Nat) : Int) = 0 then 10 else 0) else if ((q % 2 : Nat) : Int) = 0 then 10 - c else c), x.2 + (if nl_ F m (L t) = 0 then 0 else 1 - ((q % 2 : Nat) : Int)))
theorem gby_n (F : TF_) (L : Int → Int) (c : Int) {sl : Nat} (hs : sl < 64) : ∀ (k t : Nat) (m : MU_) (x : Int × Int), t + k ≤ 6 → gby_ F L c (sl : Int) k (t : Int) m x = gbn_ F L c k (t : Int) m (sl / 2 ^ t) x := by
  intro k
  induction k with
  | zero => intro t m x _; rfl
  | succ k ih =>
    intro t m x ht
    show gby_ F L c (sl : Int) k ((t : Int) + 1) _ _ = gbn_ F L c k ((t : Int) + 1) _ (sl / 2 ^ t / 2) _
    have e := ih (t + 1)
    rw [show ((t + 1 : Nat) : Int) = (t : Int) + 1 by omega] at e
    rw [bt_n hs (by omega), e _ _ (by omega), Nat.div_div_eq_div_mul, Nat.pow_succ]
theorem smo_c {f k : Nat → Int} : ∀ n : Nat, (∀ q, q < n → f q = k q) → smo_ f n = smo_ k n := by
  intro n
  induction n with
  | zero => intro _; rfl
  | succ n ih =>
    intro hh
    show smo_ f n + f n = smo_ k n + k n
    rw [ih (fun q hq => hh q (by omega)), hh n (by omega)]
theorem smo_a (f k : Nat → Int) (n : Nat) : smo_ (fun q => f q + k q) n = smo_ f n + smo_ k n := by
  induction n with
  | zero => rfl
  | succ n ih =>
    show smo_ (fun q => f q + k q) n + (f n + k n) = smo_ f n + f n + (smo_ k n + k n)
    rw [ih]
    omega
theorem smo_2 (f : Nat → Int) (n : Nat) : smo_ f (2 * n) = smo_ (fun q => f (2 * q) + f (2 * q + 1)) n := by
  induction n with
  | zero => rfl
  | succ n ih =>
    show smo_ f (2 * n) + f (2 * n) + f (2 * n + 1) = smo_ (fun q => f (2 * q) + f (2 * q + 1)) n + (f (2 * n) + f (2 * n + 1))
    rw [ih]
    omega
theorem gbn_s (F : TF_) (L : Int → Int) (c w : Int) : ∀ (k : Nat) (t : Int) (m : MU_) (x : Int × Int), smo_ (fun q => if (gbn_ F L c k t m q x).2 < w then 0 else (gbn_ F L c k t m q x).1) (2 ^ k) = x.1 * wf_ F L c k t m (w - x.2) := by
  intro k
  induction k with
  | zero =>
    intro t m x
    show 0 + (if x.2 < w then 0 else x.1) = x.1 * (if 0 < w - x.2 then 0 else 1)
    by_cases h : x.2 < w
    · rw [if_pos h, if_pos (by omega)]; omega
    · rw [if_neg h, if_neg (by omega)]; omega
  | succ k ih =>
    intro t m x
    rw [Nat.pow_succ, Nat.mul_comm, smo_2, smo_a]
    have e0 : ∀ q : Nat, gbn_ F L c (k + 1) t m (2 * q) x = gbn_ F L c k (t + 1) (he_ (F.2.1 (L t)) (F.2.2 (L t)) (if nl_ F m (L t) = 0 then 0 else 1) m) q (x.1 * (if nl_ F m (L t) = 0 then 10 else 10 - c), x.2 + (if nl_ F m (L t) = 0 then 0 else 1)) := by
      intro q
      show gbn_ F L c k (t + 1) _ (2 * q / 2) _ = _
      rw [show 2 * q / 2 = q by omega, show 2 * q % 2 = 0 by omega]
      rfl
    have e1 : ∀ q : Nat, gbn_ F L c (k + 1) t m (2 * q + 1) x = gbn_ F L c k (t + 1) (he_ (F.2.1 (L t)) (F.2.2 (L t)) 0 m) q (x.1 * (if nl_ F m (L t) = 0 then 0 else c), x.2 + 0) := by
      intro q
      show gbn_ F L c k (t + 1) _ ((2 * q + 1) / 2) _ = _
      rw [show (2 * q + 1) / 2 = q by omega, show (2 * q + 1) % 2 = 1 by omega]
      by_cases z : nl_ F m (L t) = 0
      · rw [if_pos z, if_pos z, if_pos z]; rfl
      · rw [if_neg z, if_neg z, if_neg z]; rfl
    have s0 := ih (t + 1) (he_ (F.2.1 (L t)) (F.2.2 (L t)) (if nl_ F m (L t) = 0 then 0 else 1) m) (x.1 * (if nl_ F m (L t) = 0 then 10 else 10 - c), x.2 + (if nl_ F m (L t) = 0 then 0 else 1))
    have s1 := ih (t + 1) (he_ (F.2.1 (L t)) (F.2.2 (L t)) 0 m) (x.1 * (if nl_ F m (L t) = 0 then 0 else c), x.2 + 0)
    have d0 : smo_ (fun q => if (gbn_ F L c (k + 1) t m (2 * q) x).2 < w then 0 else (gbn_ F L c (k + 1) t m (2 * q) x).1) (2 ^ k) = smo_ (fun q => if (gbn_ F L c k (t + 1) (he_ (F.2.1 (L t)) (F.2.2 (L t)) (if nl_ F m (L t) = 0 then 0 else 1) m) q (x.1 * (if nl_ F m (L t) = 0 then 10 else 10 - c), x.2 + (if nl_ F m (L t) = 0 then 0 else 1))).2 < w then 0 else (gbn_ F L c k (t + 1) (he_ (F.2.1 (L t)) (F.2.2 (L t)) (if nl_ F m (L t) = 0 then 0 else 1) m) q (x.1 * (if nl_ F m (L t) = 0 then 10 else 10 - c), x.2 + (if nl_ F m (L t) = 0 then 0 else 1))).1) (2 ^ k) := smo_c _ (fun q _ => by rw [e0 q])
    have d1 : smo_ (fun q => if (gbn_ F L c (k + 1) t m (2 * q + 1) x).2 < w then 0 else (gbn_ F L c (k + 1) t m (2 * q + 1) x).1) (2 ^ k) = smo_ (fun q => if (gbn_ F L c k (t + 1) (he_ (F.2.1 (L t)) (F.2.2 (L t)) 0 m) q (x.1 * (if nl_ F m (L t) = 0 then 0 else c), x.2 + 0)).2 < w then 0 else (gbn_ F L c k (t + 1) (he_ (F.2.1 (L t)) (F.2.2 (L t)) 0 m) q (x.1 * (if nl_ F m (L t) = 0 then 0 else c), x.2 + 0)).1) (2 ^ k) := smo_c _ (fun q _ => by rw [e1 q])
    rw [d0, d1, s0, s1]
    dsimp only
    have ew : wf_ F L c (k + 1) t m (w - x.2) = if nl_ F m (L t) = 0 then 10 * wf_ F L c k (t + 1) (he_ (F.2.1 (L t)) (F.2.2 (L t)) 0 m) (w - x.2) else c * wf_ F L c k (t + 1) (he_ (F.2.1 (L t)) (F.2.2 (L t)) 0 m) (w - x.2) + (10 - c) * wf_ F L c k (t + 1) (he_ (F.2.1 (L t)) (F.2.2 (L t)) 1 m) (w - x.2 - 1) := rfl
    rw [ew, Int.add_zero]
    by_cases z : nl_ F m (L t) = 0
    · simp only [z, if_true]
      rw [Int.add_zero, Int.mul_zero, Int.zero_mul, Int.add_zero, Int.mul_assoc]
    · simp only [z, if_false]
      rw [show w - (x.2 + 1) = w - x.2 - 1 by omega, Int.mul_add, Int.mul_assoc, Int.mul_assoc, Int.add_comm]
theorem owt_s (F : TF_) (L : Int → Int) (c k : Int) {n : Nat} (m : MU_) (hn : n ≤ 6) : smo_ (owt_ F L c n m k) (2 ^ n) = wf_ F L c n 0 m k := by
  have e := gbn_s F L c k n 0 m (1, 0)
  have h64 : 2 ^ n ≤ 64 := Nat.pow_le_pow_right (by decide) hn
  rw [Int.one_mul, Int.sub_zero] at e
  rw [← e]
  refine smo_c _ (fun q hq => ?_)
  have e2 := gby_n F L c (sl := q) (by omega) n 0 m (1, 0) (by omega)
  rw [Nat.pow_zero, Nat.div_one] at e2
  unfold owt_
  have e3 : gby_ F L c (q : Int) n 0 m (1, 0) = gbn_ F L c n 0 m q (1, 0) := e2
  rw [e3]
theorem gc_z (n : Nat) (l : Int) : gc_ n l 0 = l := by
  cases n with
  | zero => rfl
  | succ n => rfl
theorem gc_g : ∀ (c n : Nat) (l s : Int), 2 * c ≤ n → 0 ≤ l → 0 ≤ s → s < 2 ^ c → gc_ n l s = ((Nat.gcd l.toNat s.toNat : Nat) : Int) := by
  intro c
  induction c with
  | zero =>
    intro n l s hn hl hs h2
    have : s = 0 := by
      rw [Int.pow_zero] at h2
      omega
    subst this
    rw [gc_z, show ((0 : Int).toNat) = 0 from rfl, Nat.gcd_zero_right]
    omega
  | succ c ih =>
    intro n l s hn hl hs h2
    by_cases s0 : s = 0
    · subst s0
      rw [gc_z, show ((0 : Int).toNat) = 0 from rfl, Nat.gcd_zero_right]
      omega
    obtain ⟨n2, rfl⟩ : ∃ n2, n = n2 + 2 := ⟨n - 2, by omega⟩
    have s1 : 0 < s := by omega
    have t := td_r hl s1
    have eg := td_g hl s1
    show (if 0 < s then gc_ (n2 + 1) s (l - l.tdiv s * s) else l) = _
    rw [if_pos s1]
    generalize l - l.tdiv s * s = r at t eg ⊢
    by_cases r0 : r = 0
    · subst r0
      rw [gc_z, ← eg, show ((0 : Int).toNat) = 0 from rfl, Nat.gcd_zero_right]
      omega
    have r1 : 0 < r := by omega
    have t2 := td_r hs r1
    have eg2 := td_g hs r1
    have hq : r ≤ s.tdiv r * r := by
      rw [Int.tdiv_eq_ediv_of_nonneg hs]
      have z : 1 ≤ s / r := Int.le_ediv_of_mul_le r1 (by omega)
      have z2 := Int.mul_le_mul_of_nonneg_right z (Int.le_of_lt r1)
      omega
    show (if 0 < r then gc_ n2 r (s - s.tdiv r * r) else s) = _
    rw [if_pos r1]
    rw [ih n2 r _ (by omega) (by omega) t2.1 (by rw [Int.pow_succ] at h2; omega), eg2, eg]
theorem gd_g {a b : Int} (ha : 0 ≤ a ∧ a ≤ 1000000) (hb : 1 ≤ b ∧ b ≤ 1000000) : gd_ a b = ((Nat.gcd a.toNat b.toNat : Nat) : Int) := by
  have g0 : 0 < Nat.gcd a.toNat b.toNat := Nat.gcd_pos_of_pos_right _ (by omega)
  have e : gc_ 64 (if a < b then b else a) (if b < a then b else a) = ((Nat.gcd a.toNat b.toNat : Nat) : Int) := by
    have h2 : (2 : Int) ^ 20 = 1048576 := by decide
    by_cases c1 : a < b
    · rw [if_pos c1, if_neg (by omega), gc_g 20 64 b a (by decide) (by omega) (by omega) (by omega), Nat.gcd_comm]
    · rw [if_neg c1]
      by_cases c2 : b < a
      · rw [if_pos c2, gc_g 20 64 a b (by decide) (by omega) (by omega) (by omega)]
      · have : a = b := by omega
        subst this
        rw [if_neg c2, gc_g 20 64 a a (by decide) (by omega) (by omega) (by omega)]
  unfold gd_
  rw [e, if_neg (by omega)]
section PM19_
variable {g : SG_} {d : Nat} {h p : SH_} {Post : Option SV_ → SH_ → Prop}
theorem lm_odds2 {s r i n k cc w v8 B : Int} {L : Int → Int} (c : cpl_ p h) (hs : 0 ≤ s ∧ s < p 7 3) (hn : 0 ≤ n ∧ n ≤ 6) (hr : 0 ≤ r ∧ r < 8) (hi : 0 ≤ i ∧ i + 2 * n ≤ 40) (hcc : 0 ≤ cc ∧ cc ≤ 10) (hB : 1 ≤ B ∧ B ≤ 1000000) (hI : ∀ t, 0 ≤ t → t < n → h 71 (40 * r + i + 2 * t) = L t) (hL : ∀ t, 0 ≤ t → t < n → 0 ≤ L t ∧ L t < p 7 2) (kk : ∀ hc, msc_ h hc → Post (some (sv_i ((if w = 0 then smo_ (owt_ (tf_ p) L cc n.toNat (en_ p s) k) (2 ^ n.toNat) else B).tdiv (Nat.gcd (smo_ (owt_ (tf_ p) L cc n.toNat (en_ p s) k) (2 ^ n.toNat)).toNat B.toNat : Nat)))) (hs_ hc 68 4 0)) : ∀ (mm j : Nat) (hc : SH_) (o14 : Option SV_), j + mm = 2 ^ n.toNat → msc_ h hc → (0 ≤ smo_ (owt_ (tf_ p) L cc n.toNat (en_ p s) k) j ∧ smo_ (owt_ (tf_ p) L cc n.toNat (en_ p s) k) j ≤ 1000000 * j) → V_ g (d + 4) mX9_odds 126 [some (sv_r 4 8 68), some (sv_i s), some (sv_i r), some (sv_i i), some (sv_i n), some (sv_i k), some (sv_i cc), some (sv_i w), some (sv_i v8), some (sv_l (smo_ (owt_ (tf_ p) L cc n.toNat (en_ p s) k) j)), none, some (sv_l B), none, some (sv_i j), o14, none, none, none, none] [] hc Post := by
  intro mm
  have h64 : 2 ^ n.toNat ≤ 64 := Nat.pow_le_pow_right (by decide) (show n.toNat ≤ 6 by omega)
  have es : sb_ishl 1 n = ((2 ^ n.toNat : Nat) : Int) := by
    have := sh_2 (n := n.toNat) (by omega)
    rw [Int.toNat_of_nonneg hn.1] at this
    exact this
  induction mm with
  | zero =>
    intro j hc o14 hj hk hb
    rw [Nat.add_zero] at hj
    rw [← hj] at kk
    refine vr_iload (q := 128) dX9_odds_126 rfl rfl ?_
    refine vr_iconst (q := 129) dX9_odds_128 rfl ⟨by decide, by decide⟩ ?_
    refine vr_iload (q := 131) dX9_odds_129 rfl rfl ?_
    refine vr_ishl (q := 132) dX9_odds_131 rfl ?_
    -- at X9.odds 132: .if_icmp .ge 48
    rw [es]
    refine vr_ic_ge (t := 180) (q := 135) dX9_odds_132 (by decide) rfl (fun _ => ?_) (fun c9 => absurd c9 (by omega))
    refine vr_lload (q := 182) dX9_odds_180 rfl rfl ?_
    refine vr_lstore (q := 184) dX9_odds_182 rfl (Nat.le_of_ble_eq_true rfl) rfl rfl ?_
    refine vr_lload (q := 186) dX9_odds_184 rfl rfl ?_
    refine vr_lstore (q := 188) dX9_odds_186 rfl (Nat.le_of_ble_eq_true rfl) rfl rfl ?_
    -- at X9.odds 188: .lload 15
    exact lm_gcd ⟨hb.1, by omega⟩ ⟨hB.1, by omega⟩ (kk hc hk) _ _ _ _ (Nat.lt_succ_self _) ⟨hb.1, by omega⟩ ⟨by omega, by omega⟩ rfl
  | succ mm ih =>
    intro j hc o14 hj hk hb
    have c2 := cpl_m hk c
    have e71 := hk.1 71 (by decide) (by decide) (by decide) (by decide)
    have ej : smo_ (owt_ (tf_ p) L cc n.toNat (en_ p s) k) (j + 1) = smo_ (owt_ (tf_ p) L cc n.toNat (en_ p s) k) j + owt_ (tf_ p) L cc n.toNat (en_ p s) k j := rfl
    have eo : owt_ (tf_ p) L cc n.toNat (en_ p s) k j = if (gby_ (tf_ p) L cc (j : Int) n.toNat 0 (en_ p s) (1, 0)).2 < k then 0 else (gby_ (tf_ p) L cc (j : Int) n.toNat 0 (en_ p s) (1, 0)).1 := rfl
    have ih2 := ih (j + 1)
    rw [ej, eo, show ((j + 1 : Nat) : Int) = (j : Int) + 1 by omega] at ih2
    refine vr_iload (q := 128) dX9_odds_126 rfl rfl ?_
    refine vr_iconst (q := 129) dX9_odds_128 rfl ⟨by decide, by decide⟩ ?_
    refine vr_iload (q := 131) dX9_odds_129 rfl rfl ?_
    refine vr_ishl (q := 132) dX9_odds_131 rfl ?_
    -- at X9.odds 132: .if_icmp .ge 48
    rw [es]
    refine vr_ic_ge (t := 180) (q := 135) dX9_odds_132 (by decide) rfl (fun c9 => absurd c9 (by omega)) (fun _ => ?_)
    refine vr_aload_n (q := 136) dX9_odds_135 rfl rfl ?_
    refine vr_iload_n (q := 137) dX9_odds_136 rfl rfl ?_
    refine vr_bipush (q := 139) dX9_odds_137 rfl ⟨by decide, by decide⟩ (by decide) ?_
    refine vr_iload_n (q := 140) dX9_odds_139 rfl rfl ?_
    refine vr_imulN (q := 141) dX9_odds_140 rfl ⟨by omega, by omega⟩ ?_
    refine vr_iload_n (q := 142) dX9_odds_141 rfl rfl ?_
    refine vr_iaddN (q := 143) dX9_odds_142 rfl ⟨by omega, by omega⟩ ?_
    refine vr_iload (q := 145) dX9_odds_143 rfl rfl ?_
    refine vr_iload (q := 147) dX9_odds_145 rfl rfl ?_
    refine vr_iload (q := 149) dX9_odds_147 rfl rfl ?_
    -- at X9.odds 149: .invokevirtual 227
    refine vr_iv5 (q := 152) dX9_odds_149 rfl vX9_227 (Nat.le_of_ble_eq_true rfl) ?_
    refine m_goesBy (L := L) c2 hs hn ⟨by omega, by omega⟩ hcc (fun t t0 t1 => by rw [e71]; exact hI t t0 t1) hL (fun m2 hb2 => ?_)
    have hk2 : msc_ h (mw_ (hs_ hc 68 27 (gby_ (tf_ p) L cc (j : Int) n.toNat 0 (en_ p s) (1, 0)).2) m2) := msc_w (msc_m hk)
    refine vr_lstore (q := 154) dX9_odds_152 rfl (Nat.le_of_ble_eq_true rfl) rfl rfl ?_
    refine vr_lload (q := 156) dX9_odds_154 rfl rfl ?_
    refine vr_aload_n (q := 157) dX9_odds_156 rfl rfl ?_
    refine vr_getV (ji := 27) (q := 160) dX9_odds_157 rfl fX9_200 rfl rfl (mw_27r _ _ _) ?_
    refine vr_iload (q := 162) dX9_odds_160 rfl rfl ?_
    -- at X9.odds 162: .if_icmp .lt 8
    refine vr_ic_lt (t := 170) (q := 165) dX9_odds_162 (by decide) rfl (fun c1 => ?_) (fun c1 => ?_)
    · rw [if_pos c1] at ih2
      refine vr_lconst (q := 171) dX9_odds_170 rfl ?_
      refine vr_ladd (q := 172) dX9_odds_171 rfl ⟨by omega, by omega⟩ ?_
      refine vr_lstore (q := 174) dX9_odds_172 rfl (Nat.le_of_ble_eq_true rfl) rfl rfl ?_
      refine vr_iinc (q := 177) dX9_odds_174 rfl rfl ⟨by omega, by omega⟩ (Nat.le_of_ble_eq_true rfl) rfl rfl ?_
      refine vr_goto (q := 126) dX9_odds_177 (by decide) ?_
      -- at X9.odds 126: .iload 13
      exact ih2 _ _ (by omega) hk2 ⟨by omega, by omega⟩
    · rw [if_neg c1] at ih2
      refine vr_lload (q := 167) dX9_odds_165 rfl rfl ?_
      refine vr_goto (q := 171) dX9_odds_167 (by decide) ?_
      refine vr_ladd (q := 172) dX9_odds_171 rfl ⟨by omega, by omega⟩ ?_
      refine vr_lstore (q := 174) dX9_odds_172 rfl (Nat.le_of_ble_eq_true rfl) rfl rfl ?_
      refine vr_iinc (q := 177) dX9_odds_174 rfl rfl ⟨by omega, by omega⟩ (Nat.le_of_ble_eq_true rfl) rfl rfl ?_
      refine vr_goto (q := 126) dX9_odds_177 (by decide) ?_
      -- at X9.odds 126: .iload 13
      exact ih2 _ _ (by omega) hk2 ⟨by omega, by omega⟩
theorem lm_odds1 {s r i n k cc w v8 : Int} (hn : 0 ≤ n ∧ n ≤ 6) (k2 : V_ g (d + 4) mX9_odds 126 [some (sv_r 4 8 68), some (sv_i s), some (sv_i r), some (sv_i i), some (sv_i n), some (sv_i k), some (sv_i cc), some (sv_i w), some (sv_i v8), some (sv_l 0), none, some (sv_l (pw_ n.toNat)), none, some (sv_i 0), none, none, none, none, none] [] h Post) : ∀ (mm j : Nat), (j : Int) + mm = n → V_ g (d + 4) mX9_odds 102 [some (sv_r 4 8 68), some (sv_i s), some (sv_i r), some (sv_i i), some (sv_i n), some (sv_i k), some (sv_i cc), some (sv_i w), some (sv_i v8), some (sv_l 0), none, some (sv_l (pw_ j)), none, some (sv_i j), none, none, none, none, none] [] h Post := by
  intro mm
  induction mm with
  | zero =>
    intro j hj
    rw [show n.toNat = j by omega] at k2
    refine vr_iload (q := 104) dX9_odds_102 rfl rfl ?_
    refine vr_iload (q := 106) dX9_odds_104 rfl rfl ?_
    -- at X9.odds 106: .if_icmp .ge 17
    refine vr_ic_ge (t := 123) (q := 109) dX9_odds_106 (by decide) rfl (fun _ => ?_) (fun c9 => absurd c9 (by omega))
    refine vr_iconst (q := 124) dX9_odds_123 rfl ⟨by decide, by decide⟩ ?_
    refine vr_istore (q := 126) dX9_odds_124 rfl (Nat.le_of_ble_eq_true rfl) rfl rfl ?_
    -- at X9.odds 126: .iload 13
    exact k2
  | succ mm ih =>
    intro j hj
    have pb := pw_b (n := j) (by omega)
    have ih2 := ih (j + 1) (by omega)
    rw [show pw_ (j + 1) = pw_ j * 10 from rfl] at ih2
    refine vr_iload (q := 104) dX9_odds_102 rfl rfl ?_
    refine vr_iload (q := 106) dX9_odds_104 rfl rfl ?_
    -- at X9.odds 106: .if_icmp .ge 17
    refine vr_ic_ge (t := 123) (q := 109) dX9_odds_106 (by decide) rfl (fun c9 => absurd c9 (by omega)) (fun _ => ?_)
    refine vr_lload (q := 111) dX9_odds_109 rfl rfl ?_
    refine vr_ldc2 (x := 10) (q := 114) dX9_odds_111 rfl ⟨by decide, by decide⟩ qX9_225 ?_
    refine vr_lmul (q := 115) dX9_odds_114 rfl ⟨by omega, by omega⟩ ?_
    refine vr_lstore (q := 117) dX9_odds_115 rfl (Nat.le_of_ble_eq_true rfl) rfl rfl ?_
    refine vr_iinc (q := 120) dX9_odds_117 rfl rfl ⟨by omega, by omega⟩ (Nat.le_of_ble_eq_true rfl) rfl rfl ?_
    refine vr_goto (q := 102) dX9_odds_120 (by decide) ?_
    -- at X9.odds 102: .iload 13
    exact ih2
theorem mx_odds {s r i n k cc w : Int} (c : cpl_ p h) (rc : rcp_ p h) (k1 : ¬ ((0 ≤ s ∧ s < p 7 3) ∧ ((0 ≤ r ∧ r < 8) ∧ (0 ≤ n ∧ n ≤ 6)) ∧ (0 ≤ k ∧ k ≤ 6) ∧ (0 ≤ cc ∧ cc ≤ 10) ∧ (0 ≤ w ∧ w ≤ 1)) → Post (some (sv_i (-1000001))) h) (k2 : ((0 ≤ s ∧ s < p 7 3) ∧ ((0 ≤ r ∧ r < 8) ∧ (0 ≤ n ∧ n ≤ 6)) ∧ (0 ≤ k ∧ k ≤ 6) ∧ (0 ≤ cc ∧ cc ≤ 10) ∧ (0 ≤ w ∧ w ≤ 1)) → p 2 r = -1 → Post (some (sv_i (-1000010 - 1))) (hs_ h 68 4 1)) (k3 : ((0 ≤ s ∧ s < p 7 3) ∧ ((0 ≤ r ∧ r < 8) ∧ (0 ≤ n ∧ n ≤ 6)) ∧ (0 ≤ k ∧ k ≤ 6) ∧ (0 ≤ cc ∧ cc ≤ 10) ∧ (0 ≤ w ∧ w ≤ 1)) → ¬ p 2 r = -1 → ¬ (0 ≤ i ∧ i + 2 * n ≤ p 3 r) → Post (some (sv_i (-1000010 - 2))) (hs_ h 68 4 2)) (k4 : ((0 ≤ s ∧ s < p 7 3) ∧ ((0 ≤ r ∧ r < 8) ∧ (0 ≤ n ∧ n ≤ 6)) ∧ (0 ≤ k ∧ k ≤ 6) ∧ (0 ≤ cc ∧ cc ≤ 10) ∧ (0 ≤ w ∧ w ≤ 1)) → ¬ p 2 r = -1 → (0 ≤ i ∧ i + 2 * n ≤ p 3 r) → ¬ rtl_ p (r * 40 + i) n → Post (some (sv_i (-1000001))) h) (k5 : ((0 ≤ s ∧ s < p 7 3) ∧ ((0 ≤ r ∧ r < 8) ∧ (0 ≤ n ∧ n ≤ 6)) ∧ (0 ≤ k ∧ k ≤ 6) ∧ (0 ≤ cc ∧ cc ≤ 10) ∧ (0 ≤ w ∧ w ≤ 1)) → ¬ p 2 r = -1 → (0 ≤ i ∧ i + 2 * n ≤ p 3 r) → rtl_ p (r * 40 + i) n → ∀ hc, msc_ h hc → Post (some (sv_i ((if w = 0 then wo_ p s (r * 40 + i) n k cc else pw_ n.toNat).tdiv (gd_ (wo_ p s (r * 40 + i) n k cc) (pw_ n.toNat))))) (hs_ hc 68 4 0)) : Ctr_ g (d + 4) mX9_odds [sv_r 4 8 68, sv_i s, sv_i r, sv_i i, sv_i n, sv_i k, sv_i cc, sv_i w] h Post := by
  have r61 : ((0 ≤ s ∧ s < p 7 3) ∧ ((0 ≤ r ∧ r < 8) ∧ (0 ≤ n ∧ n ≤ 6)) ∧ (0 ≤ k ∧ k ≤ 6) ∧ (0 ≤ cc ∧ cc ≤ 10) ∧ (0 ≤ w ∧ w ≤ 1)) → V_ g (d + 4) mX9_odds 61 [some (sv_r 4 8 68), some (sv_i s), some (sv_i r), some (sv_i i), some (sv_i n), some (sv_i k), some (sv_i cc), some (sv_i w), none, none, none, none, none, none, none, none, none, none, none] [] h Post := by
    intro q
    obtain ⟨q1, ⟨q2, q3⟩, q4, q5, q6⟩ := id q
    have pb := pw_b (n := n.toNat) (by omega)
    refine vr_aload_n (q := 62) dX9_odds_61 rfl rfl ?_
    refine vr_iload_n (q := 63) dX9_odds_62 rfl rfl ?_
    refine vr_iload_n (q := 64) dX9_odds_63 rfl rfl ?_
    refine vr_iload (q := 66) dX9_odds_64 rfl rfl ?_
    -- at X9.odds 66: .invokevirtual 215
    refine vr_iv3 (q := 69) dX9_odds_66 rfl vX9_215 (Nat.le_of_ble_eq_true rfl) ?_
    refine m_wrongIn c rc q2 q3 (fun z1 => ?_) (fun z1 z2 => ?_) (fun z1 z2 z3 => ?_) (fun z1 z2 z3 => ?_)
    · refine vr_istore (q := 71) dX9_odds_69 rfl (Nat.le_of_ble_eq_true rfl) rfl rfl ?_
      refine vr_iload (q := 73) dX9_odds_71 rfl rfl ?_
      refine vr_if_eq (t := 93) (q := 76) dX9_odds_73 (by decide) rfl (fun c9 => absurd c9 (by omega)) (fun _ => ?_)
      refine vr_iload (q := 78) dX9_odds_76 rfl rfl ?_
      refine vr_if_ge (t := 86) (q := 81) dX9_odds_78 (by decide) rfl (fun _ => ?_) (fun c9 => absurd c9 (by omega))
      refine vr_aload_n (q := 87) dX9_odds_86 rfl rfl ?_
      refine vr_iload (q := 89) dX9_odds_87 rfl rfl ?_
      refine vr_iv1 (q := 92) dX9_odds_89 rfl vX9_68 (Nat.le_of_ble_eq_true rfl) ?_
      refine m_found ⟨by decide, by decide⟩ ?_
      refine vr_iret dX9_odds_92 rfl ?_
      exact k2 q z1
    · refine vr_istore (q := 71) dX9_odds_69 rfl (Nat.le_of_ble_eq_true rfl) rfl rfl ?_
      refine vr_iload (q := 73) dX9_odds_71 rfl rfl ?_
      refine vr_if_eq (t := 93) (q := 76) dX9_odds_73 (by decide) rfl (fun c9 => absurd c9 (by omega)) (fun _ => ?_)
      refine vr_iload (q := 78) dX9_odds_76 rfl rfl ?_
      refine vr_if_ge (t := 86) (q := 81) dX9_odds_78 (by decide) rfl (fun _ => ?_) (fun c9 => absurd c9 (by omega))
      refine vr_aload_n (q := 87) dX9_odds_86 rfl rfl ?_
      refine vr_iload (q := 89) dX9_odds_87 rfl rfl ?_
      refine vr_iv1 (q := 92) dX9_odds_89 rfl vX9_68 (Nat.le_of_ble_eq_true rfl) ?_
      refine m_found ⟨by decide, by decide⟩ ?_
      refine vr_iret dX9_odds_92 rfl ?_
      exact k3 q z1 z2
    · refine vr_istore (q := 71) dX9_odds_69 rfl (Nat.le_of_ble_eq_true rfl) rfl rfl ?_
      refine vr_iload (q := 73) dX9_odds_71 rfl rfl ?_
      refine vr_if_eq (t := 93) (q := 76) dX9_odds_73 (by decide) rfl (fun c9 => absurd c9 (by omega)) (fun _ => ?_)
      refine vr_iload (q := 78) dX9_odds_76 rfl rfl ?_
      refine vr_if_ge (t := 86) (q := 81) dX9_odds_78 (by decide) rfl (fun c9 => absurd c9 (by omega)) (fun _ => ?_)
      refine vr_ldc (x := -1000001) (q := 83) dX9_odds_81 rfl ⟨by decide, by decide⟩ qX9_67 ?_
      refine vr_goto (q := 92) dX9_odds_83 (by decide) ?_
      refine vr_iret dX9_odds_92 rfl ?_
      exact k4 q z1 z2 z3
    · have b1 := (rc r q2.1 q2.2).1
      have kk := k5 q z1 z2 z3
      have ew : wo_ p s (r * 40 + i) n k cc = smo_ (owt_ (tf_ p) (fun t => p 4 (r * 40 + i + 2 * t)) cc n.toNat (en_ p s) k) (2 ^ n.toNat) := (owt_s (tf_ p) (fun t => p 4 (r * 40 + i + 2 * t)) cc k (en_ p s) (by omega)).symm
      have wr := wf_r (F := tf_ p) (L := fun t => p 4 (r * 40 + i + 2 * t)) q5 n.toNat 0 (en_ p s) k
      have wr2 : 0 ≤ wo_ p s (r * 40 + i) n k cc ∧ wo_ p s (r * 40 + i) n k cc ≤ 1000000 := ⟨wr.1, Int.le_trans wr.2 pb.2⟩
      rw [gd_g wr2 pb, ew] at kk
      have z := lm_odds2 (g := g) (d := d) (v8 := 0) c q1 q3 q2 ⟨z2.1, by omega⟩ q5 pb (fun t t0 t1 => (rcp_i rc q2 z1 z2 t t0 t1).1) z3 kk (2 ^ n.toNat) 0 h none (Nat.zero_add _) (msc_r h) ⟨Int.le_refl 0, Int.le_refl 0⟩
      have z4 := lm_odds1 (g := g) (d := d) q3 z n.toNat 0 (by omega)
      refine vr_istore (q := 71) dX9_odds_69 rfl (Nat.le_of_ble_eq_true rfl) rfl rfl ?_
      refine vr_iload (q := 73) dX9_odds_71 rfl rfl ?_
      refine vr_if_eq (t := 93) (q := 76) dX9_odds_73 (by decide) rfl (fun _ => ?_) (fun c9 => absurd c9 (by omega))
      refine vr_lconst (q := 94) dX9_odds_93 rfl ?_
      refine vr_lstore (q := 96) dX9_odds_94 rfl (Nat.le_of_ble_eq_true rfl) rfl rfl ?_
      refine vr_lconst (q := 97) dX9_odds_96 rfl ?_
      refine vr_lstore (q := 99) dX9_odds_97 rfl (Nat.le_of_ble_eq_true rfl) rfl rfl ?_
      refine vr_iconst (q := 100) dX9_odds_99 rfl ⟨by decide, by decide⟩ ?_
      refine vr_istore (q := 102) dX9_odds_100 rfl (Nat.le_of_ble_eq_true rfl) rfl rfl ?_
      exact z4
  refine V_mk (by decide +kernel) (Or.inr (Or.inl ⟨rfl, rfl⟩)) (Nat.le_of_ble_eq_true rfl) (by simp [sv_c]) ?_
  show V_ _ _ _ 0 [_, _, _, _, _, _, _, _, _, _, _, _, _, _, _, _, _, _, _] [] _ _
  refine vr_aload_n (q := 1) dX9_odds_0 rfl rfl ?_
  refine vr_iload_n (q := 2) dX9_odds_1 rfl rfl ?_
  refine vr_iv1 (q := 5) dX9_odds_2 rfl vX9_163 (Nat.le_of_ble_eq_true rfl) ?_
  refine m_isS c (fun c2 => ?_) (fun c2 => ?_)
  · refine vr_if_eq (t := 58) (q := 8) dX9_odds_5 (by decide) rfl (fun c9 => absurd c9 (by omega)) (fun _ => ?_)
    refine vr_iload_n (q := 9) dX9_odds_8 rfl rfl ?_
    refine vr_is1 (q := 12) dX9_odds_9 rfl vX9_63 (Nat.le_of_ble_eq_true rfl) ?_
    refine m_isRow (fun c9 => ?_) (fun c9 => ?_)
    · refine vr_if_eq (t := 58) (q := 15) dX9_odds_12 (by decide) rfl (fun c9 => absurd c9 (by omega)) (fun _ => ?_)
      refine vr_iload (q := 17) dX9_odds_15 rfl rfl ?_
      refine vr_iconst (q := 18) dX9_odds_17 rfl ⟨by decide, by decide⟩ ?_
      refine vr_bipush (q := 20) dX9_odds_18 rfl ⟨by decide, by decide⟩ (by decide) ?_
      refine vr_is3 (q := 23) dX9_odds_20 rfl vX9_59 (Nat.le_of_ble_eq_true rfl) ?_
      refine m_in (fun c20 => ?_) (fun c20 => ?_)
      · refine vr_if_eq (t := 58) (q := 26) dX9_odds_23 (by decide) rfl (fun c9 => absurd c9 (by omega)) (fun _ => ?_)
        refine vr_iload (q := 28) dX9_odds_26 rfl rfl ?_
        refine vr_iconst (q := 29) dX9_odds_28 rfl ⟨by decide, by decide⟩ ?_
        refine vr_bipush (q := 31) dX9_odds_29 rfl ⟨by decide, by decide⟩ (by decide) ?_
        refine vr_is3 (q := 34) dX9_odds_31 rfl vX9_59 (Nat.le_of_ble_eq_true rfl) ?_
        refine m_in (fun c31 => ?_) (fun c31 => ?_)
        · refine vr_if_eq (t := 58) (q := 37) dX9_odds_34 (by decide) rfl (fun c9 => absurd c9 (by omega)) (fun _ => ?_)
          refine vr_iload (q := 39) dX9_odds_37 rfl rfl ?_
          refine vr_iconst (q := 40) dX9_odds_39 rfl ⟨by decide, by decide⟩ ?_
          refine vr_bipush (q := 42) dX9_odds_40 rfl ⟨by decide, by decide⟩ (by decide) ?_
          refine vr_is3 (q := 45) dX9_odds_42 rfl vX9_59 (Nat.le_of_ble_eq_true rfl) ?_
          refine m_in (fun c42 => ?_) (fun c42 => ?_)
          · refine vr_if_eq (t := 58) (q := 48) dX9_odds_45 (by decide) rfl (fun c9 => absurd c9 (by omega)) (fun _ => ?_)
            refine vr_iload (q := 50) dX9_odds_48 rfl rfl ?_
            refine vr_iconst (q := 51) dX9_odds_50 rfl ⟨by decide, by decide⟩ ?_
            refine vr_iconst (q := 52) dX9_odds_51 rfl ⟨by decide, by decide⟩ ?_
            refine vr_is3 (q := 55) dX9_odds_52 rfl vX9_59 (Nat.le_of_ble_eq_true rfl) ?_
            refine m_in (fun c52 => ?_) (fun c52 => ?_)
            · refine vr_if_ne (t := 61) (q := 58) dX9_odds_55 (by decide) rfl (fun _ => ?_) (fun c9 => absurd c9 (by omega))
              exact r61 (by omega)
            · refine vr_if_ne (t := 61) (q := 58) dX9_odds_55 (by decide) rfl (fun c9 => absurd c9 (by omega)) (fun _ => ?_)
              refine vr_ldc (x := -1000001) (q := 60) dX9_odds_58 rfl ⟨by decide, by decide⟩ qX9_67 ?_
              refine vr_iret dX9_odds_60 rfl ?_
              exact k1 (by omega)
          · refine vr_if_eq (t := 58) (q := 48) dX9_odds_45 (by decide) rfl (fun _ => ?_) (fun c9 => absurd c9 (by omega))
            refine vr_ldc (x := -1000001) (q := 60) dX9_odds_58 rfl ⟨by decide, by decide⟩ qX9_67 ?_
            refine vr_iret dX9_odds_60 rfl ?_
            exact k1 (by omega)
        · refine vr_if_eq (t := 58) (q := 37) dX9_odds_34 (by decide) rfl (fun _ => ?_) (fun c9 => absurd c9 (by omega))
          refine vr_ldc (x := -1000001) (q := 60) dX9_odds_58 rfl ⟨by decide, by decide⟩ qX9_67 ?_
          refine vr_iret dX9_odds_60 rfl ?_
          exact k1 (by omega)
      · refine vr_if_eq (t := 58) (q := 26) dX9_odds_23 (by decide) rfl (fun _ => ?_) (fun c9 => absurd c9 (by omega))
        refine vr_ldc (x := -1000001) (q := 60) dX9_odds_58 rfl ⟨by decide, by decide⟩ qX9_67 ?_
        refine vr_iret dX9_odds_60 rfl ?_
        exact k1 (by omega)
    · refine vr_if_eq (t := 58) (q := 15) dX9_odds_12 (by decide) rfl (fun _ => ?_) (fun c9 => absurd c9 (by omega))
      refine vr_ldc (x := -1000001) (q := 60) dX9_odds_58 rfl ⟨by decide, by decide⟩ qX9_67 ?_
      refine vr_iret dX9_odds_60 rfl ?_
      exact k1 (by omega)
  · refine vr_if_eq (t := 58) (q := 8) dX9_odds_5 (by decide) rfl (fun _ => ?_) (fun c9 => absurd c9 (by omega))
    refine vr_ldc (x := -1000001) (q := 60) dX9_odds_58 rfl ⟨by decide, by decide⟩ qX9_67 ?_
    refine vr_iret dX9_odds_60 rfl ?_
    exact k1 (by omega)
end PM19_
