/-! the reference's rows of lies, one behind another -/
def nxt_ (s u : Int) : Nat → Int → Int
  | 0, x => x
  | c + 1, x => if bt_ s x = 0 then nxt_ s u c (x + 1) else if bt_ u x = 0 then x else nxt_ s u c (x + 1)
def fil_ (s : Int) : Nat → Int → List Int
  | 0, _ => []
  | k + 1, u => nxt_ s u 6 0 :: fil_ s k (sb_ior u (sb_ishl 1 (nxt_ s u 6 0)))
def usd_ (r : List Int) : Nat → Int
  | 0 => 0
  | j + 1 => sb_ior (usd_ r j) (sb_ishl 1 (r.getD j 0))
def gbk_ (s : Int) (n : Nat) (r : List Int) : Nat → Int → Option (List Int)
  | 0, _ => none
  | k + 1, u => if nxt_ s (dl_ u (r.getD k 0)) (5 - r.getD k 0).toNat (r.getD k 0 + 1) < 6 then some (r.take k ++ nxt_ s (dl_ u (r.getD k 0)) (5 - r.getD k 0).toNat (r.getD k 0 + 1) :: fil_ s (n - (k + 1)) (sb_ior (dl_ u (r.getD k 0)) (sb_ishl 1 (nxt_ s (dl_ u (r.getD k 0)) (5 - r.getD k 0).toNat (r.getD k 0 + 1))))) else gbk_ s n r k (dl_ u (r.getD k 0))
/-- the next row of as many lies of a set -/
def gno_ (s : Int) (r : List Int) : Option (List Int) := gbk_ s r.length r r.length (usd_ r r.length)
def arf_ (f : Int → List (List Int)) : Nat → Int → List (List Int)
  | 0, _ => []
  | c + 1, i => f i ++ arf_ f c (i + 1)
/-- all rows of k lies (below n) of a set, by numbers -/
def ar_ (n : Nat) : Nat → Int → List (List Int)
  | 0, _ => [[]]
  | k + 1, s => arf_ (fun l => if bt_ s l = 0 then [] else (ar_ n k (dl_ s l)).map (fun r => l :: r)) n 0
/-- one behind another, to the last -/
def chn_ (s : Int) : List Int → List (List Int) → Bool
  | r, [] => gno_ s r == none
  | r, r2 :: t => gno_ s r == some r2 && chn_ s r2 t
def chk_ (s : Int) (k : Nat) : Bool := match ar_ 6 k s with
  | [] => false
  | r :: t => fil_ s k 0 == r && chn_ s r t
def rwr_ (h : SH_) (r : List Int) : Prop := ∀ i : Nat, i < r.length → h 81 i = r.getD i 0
theorem nxt_r {s u : Int} : ∀ (c : Nat) (x : Int), x ≤ nxt_ s u c x ∧ nxt_ s u c x ≤ x + c := by
  intro c
  induction c with
  | zero => intro x; exact ⟨Int.le_refl x, by show x ≤ x + ((0 : Nat) : Int); omega⟩
  | succ c ih =>
    intro x
    show x ≤ (if bt_ s x = 0 then nxt_ s u c (x + 1) else if bt_ u x = 0 then x else nxt_ s u c (x + 1)) ∧ (if bt_ s x = 0 then nxt_ s u c (x + 1) else if bt_ u x = 0 then x else nxt_ s u c (x + 1)) ≤ x + ((c + 1 : Nat) : Int)
    have z := ih (x + 1)
    split
    · omega
    · split <;> omega
theorem fil_l (s : Int) : ∀ (k : Nat) (u : Int), (fil_ s k u).length = k := by
  intro k
  induction k with
  | zero => intro u; rfl
  | succ k ih => intro u; show (fil_ s k _).length + 1 = k + 1; rw [ih]
theorem tk_g (r l : List Int) (y : Int) {k i : Nat} (hk : k ≤ r.length) : (r.take k ++ y :: l).getD i 0 = if i < k then r.getD i 0 else if i = k then y else l.getD (i - (k + 1)) 0 := by
  have hl : (r.take k).length = k := by rw [List.length_take]; omega
  rw [List.getD_eq_getElem?_getD, List.getElem?_append, hl]
  by_cases c1 : i < k
  · rw [if_pos c1, if_pos c1, List.getElem?_take, if_pos c1, List.getD_eq_getElem?_getD]
  · rw [if_neg c1, if_neg c1]
    by_cases c2 : i = k
    · rw [if_pos c2, c2, Nat.sub_self]; rfl
    · rw [if_neg c2]
      obtain ⟨j, hj⟩ : ∃ j, i - k = j + 1 := ⟨i - (k + 1), by omega⟩
      rw [hj, List.getElem?_cons_succ, show i - (k + 1) = j by omega, List.getD_eq_getElem?_getD]
section PM20_
variable {g : SG_} {d : Nat} {h p : SH_} {Post : Option SV_ → SH_ → Prop}
theorem lm_fills2 {s u n : Int} {v1 v2 : Int} {k : Int} (kk : ∀ y : Int, 0 ≤ y → y < 6 → y = nxt_ s u 6 0 → V_ g (d + 1) mX9_fills 41 [some (sv_r 4 8 68), some (sv_i s), some (sv_i v1), some (sv_i v2), some (sv_i n), some (sv_i u), some (sv_i k), some (sv_i y)] [] h Post) : ∀ (c : Nat) (y : Int), 0 ≤ y → y + c = 6 → nxt_ s u c y < 6 → nxt_ s u c y = nxt_ s u 6 0 → V_ g (d + 1) mX9_fills 16 [some (sv_r 4 8 68), some (sv_i s), some (sv_i v1), some (sv_i v2), some (sv_i n), some (sv_i u), some (sv_i k), some (sv_i y)] [] h Post := by
  intro c
  induction c with
  | zero =>
    intro y y0 hy hx
    have : nxt_ s u 0 y = y := rfl
    exact absurd hx (by omega)
  | succ c ih =>
    intro y y0 hy hx he
    have e : nxt_ s u (c + 1) y = if bt_ s y = 0 then nxt_ s u c (y + 1) else if bt_ u y = 0 then y else nxt_ s u c (y + 1) := rfl
    rw [e] at hx he
    refine vr_iload_n (q := 17) dX9_fills_16 rfl rfl ?_
    refine vr_iload (q := 19) dX9_fills_17 rfl rfl ?_
    -- at X9.fills 19: .invokestatic 156
    refine vr_is2 (q := 22) dX9_fills_19 rfl vX9_156 (Nat.le_of_ble_eq_true rfl) ?_
    refine m_has (fun c1 => ?_) (fun c1 => ?_)
    · rw [if_neg c1] at hx he
      refine vr_if_eq (t := 35) (q := 25) dX9_fills_22 (by decide) rfl (fun c9 => absurd c9 (by omega)) (fun _ => ?_)
      refine vr_iload (q := 27) dX9_fills_25 rfl rfl ?_
      refine vr_iload (q := 29) dX9_fills_27 rfl rfl ?_
      -- at X9.fills 29: .invokestatic 156
      refine vr_is2 (q := 32) dX9_fills_29 rfl vX9_156 (Nat.le_of_ble_eq_true rfl) ?_
      refine m_has (fun c2 => ?_) (fun c2 => ?_)
      · rw [if_neg c2] at hx he
        refine vr_if_eq (t := 41) (q := 35) dX9_fills_32 (by decide) rfl (fun c9 => absurd c9 (by omega)) (fun _ => ?_)
        refine vr_iinc (q := 38) dX9_fills_35 rfl rfl ⟨by omega, by omega⟩ (Nat.le_of_ble_eq_true rfl) rfl rfl ?_
        refine vr_goto (q := 16) dX9_fills_38 (by decide) ?_
        -- at X9.fills 16: .iload_n 1
        exact ih (y + 1) (by omega) (by omega) hx he
      · rw [if_pos c2] at hx he
        refine vr_if_eq (t := 41) (q := 35) dX9_fills_32 (by decide) rfl (fun _ => ?_) (fun c9 => absurd c9 (by omega))
        exact kk y y0 hx he
    · rw [if_pos c1] at hx he
      refine vr_if_eq (t := 35) (q := 25) dX9_fills_22 (by decide) rfl (fun _ => ?_) (fun c9 => absurd c9 (by omega))
      refine vr_iinc (q := 38) dX9_fills_35 rfl rfl ⟨by omega, by omega⟩ (Nat.le_of_ble_eq_true rfl) rfl rfl ?_
      refine vr_goto (q := 16) dX9_fills_38 (by decide) ?_
      -- at X9.fills 16: .iload_n 1
      exact ih (y + 1) (by omega) (by omega) hx he
theorem lm_fills1 {s n v1 v2 : Int} (hn : n ≤ 6) : ∀ (k : Nat) (j u : Int) (hc : SH_) (o7 : Option SV_), 0 ≤ j → j + k = n → (∀ x ∈ fil_ s k u, x < 6) → (∀ h2, (∀ a, a ≠ 81 → h2 a = hc a) → (∀ b, b < j → h2 81 b = hc 81 b) → (∀ i : Nat, i < k → h2 81 (j + i) = (fil_ s k u).getD i 0) → Post none h2) → V_ g (d + 1) mX9_fills 6 [some (sv_r 4 8 68), some (sv_i s), some (sv_i v1), some (sv_i v2), some (sv_i n), some (sv_i u), some (sv_i j), o7] [] hc Post := by
  intro k
  induction k with
  | zero =>
    intro j u hc o7 hj hk hx kk
    refine vr_iload (q := 8) dX9_fills_6 rfl rfl ?_
    refine vr_iload (q := 10) dX9_fills_8 rfl rfl ?_
    -- at X9.fills 10: .if_icmp .ge 55
    refine vr_ic_ge (t := 65) (q := 13) dX9_fills_10 (by decide) rfl (fun _ => ?_) (fun c9 => absurd c9 (by omega))
    refine vr_vret dX9_fills_65 rfl ?_
    exact kk hc (fun _ _ => rfl) (fun _ _ => rfl) (fun i hi => absurd hi (by omega))
  | succ k ih =>
    intro j u hc o7 hj hk hx kk
    have e : fil_ s (k + 1) u = nxt_ s u 6 0 :: fil_ s k (sb_ior u (sb_ishl 1 (nxt_ s u 6 0))) := rfl
    rw [e] at hx kk
    have h0 := hx _ (List.mem_cons_self ..)
    have h1 := fun x hx2 => hx x (List.mem_cons_of_mem _ hx2)
    refine vr_iload (q := 8) dX9_fills_6 rfl rfl ?_
    refine vr_iload (q := 10) dX9_fills_8 rfl rfl ?_
    -- at X9.fills 10: .if_icmp .ge 55
    refine vr_ic_ge (t := 65) (q := 13) dX9_fills_10 (by decide) rfl (fun c9 => absurd c9 (by omega)) (fun _ => ?_)
    refine vr_iconst (q := 14) dX9_fills_13 rfl ⟨by decide, by decide⟩ ?_
    refine vr_istore (q := 16) dX9_fills_14 rfl (Nat.le_of_ble_eq_true rfl) rfl rfl ?_
    -- at X9.fills 16: .iload_n 1
    refine lm_fills2 (fun y y0 y1 ey => ?_) 6 0 (Int.le_refl 0) (by decide) h0 rfl
    rw [← ey] at h1 kk
    refine vr_aload_n (q := 42) dX9_fills_41 rfl rfl ?_
    refine vr_getR (q := 45) dX9_fills_42 rfl fX9_47 rfl y_X9_25 (by first | (simp only [Int.reduceAdd]; rfl) | rfl) ?_
    refine vr_iload (q := 47) dX9_fills_45 rfl rfl ?_
    refine vr_iload (q := 49) dX9_fills_47 rfl rfl ?_
    refine vr_iast (q := 50) dX9_fills_49 rfl ⟨by omega, by omega⟩ ?_
    refine vr_iload (q := 52) dX9_fills_50 rfl rfl ?_
    refine vr_iconst (q := 53) dX9_fills_52 rfl ⟨by decide, by decide⟩ ?_
    refine vr_iload (q := 55) dX9_fills_53 rfl rfl ?_
    refine vr_ishl (q := 56) dX9_fills_55 rfl ?_
    refine vr_ior (q := 57) dX9_fills_56 rfl ?_
    refine vr_istore (q := 59) dX9_fills_57 rfl (Nat.le_of_ble_eq_true rfl) rfl rfl ?_
    refine vr_iinc (q := 62) dX9_fills_59 rfl rfl ⟨by omega, by omega⟩ (Nat.le_of_ble_eq_true rfl) rfl rfl ?_
    refine vr_goto (q := 6) dX9_fills_62 (by decide) ?_
    -- at X9.fills 6: .iload 6
    refine ih (j + 1) _ _ _ (by omega) (by omega) h1 (fun h2 a1 a2 a3 => kk h2 (fun a ha => ?_) (fun b hb => ?_) (fun i hi => ?_))
    · rw [a1 a ha, hs_k ha]
    · rw [a2 b (by omega), hs_n (by omega)]
    · cases i with
      | zero =>
        rw [show j + ((0 : Nat) : Int) = j by omega, a2 j (by omega), hs_e]
        rfl
      | succ i =>
        have z := a3 i (by omega)
        rw [show j + ((i + 1 : Nat) : Int) = j + 1 + i by omega, z]
        rfl
theorem m_fills {s u j n : Int} {k : Nat} (hj : 0 ≤ j) (hk : j + k = n) (hn : n ≤ 6) (hx : ∀ x ∈ fil_ s k u, x < 6) (kk : ∀ h2, (∀ a, a ≠ 81 → h2 a = h a) → (∀ b, b < j → h2 81 b = h 81 b) → (∀ i : Nat, i < k → h2 81 (j + i) = (fil_ s k u).getD i 0) → Post none h2) : Ctr_ g (d + 1) mX9_fills [sv_r 4 8 68, sv_i s, sv_i u, sv_i j, sv_i n] h Post := by
  refine V_mk (by decide +kernel) (Or.inl ⟨rfl, rfl⟩) (Nat.le_of_ble_eq_true rfl) (by simp [sv_c]) ?_
  show V_ _ _ _ 0 [_, _, _, _, _, _, _, _] [] _ _
  refine vr_iload_n (q := 1) dX9_fills_0 rfl rfl ?_
  refine vr_istore (q := 3) dX9_fills_1 rfl (Nat.le_of_ble_eq_true rfl) rfl rfl ?_
  refine vr_iload_n (q := 4) dX9_fills_3 rfl rfl ?_
  refine vr_istore (q := 6) dX9_fills_4 rfl (Nat.le_of_ble_eq_true rfl) rfl rfl ?_
  -- at X9.fills 6: .iload 6
  exact lm_fills1 hn k j u h none hj hk hx kk
theorem lm_on2 {s u n k : Int} : ∀ (c : Nat) (y : Int), 0 ≤ y → y + c = 6 → V_ g (d + 2) mX9_goesOn 97 [some (sv_r 4 8 68), some (sv_i s), some (sv_i n), some (sv_i k), some (sv_i u), some (sv_i (nxt_ s u c y))] [] h Post → V_ g (d + 2) mX9_goesOn 65 [some (sv_r 4 8 68), some (sv_i s), some (sv_i n), some (sv_i k), some (sv_i u), some (sv_i y)] [] h Post := by
  intro c
  induction c with
  | zero =>
    intro y y0 hy kk
    refine vr_iload (q := 67) dX9_goesOn_65 rfl rfl ?_
    refine vr_bipush (q := 69) dX9_goesOn_67 rfl ⟨by decide, by decide⟩ (by decide) ?_
    -- at X9.goesOn 69: .if_icmp .ge 28
    refine vr_ic_ge (t := 97) (q := 72) dX9_goesOn_69 (by decide) rfl (fun _ => ?_) (fun c9 => absurd c9 (by omega))
    exact kk
  | succ c ih =>
    intro y y0 hy kk
    have e : nxt_ s u (c + 1) y = if bt_ s y = 0 then nxt_ s u c (y + 1) else if bt_ u y = 0 then y else nxt_ s u c (y + 1) := rfl
    rw [e] at kk
    refine vr_iload (q := 67) dX9_goesOn_65 rfl rfl ?_
    refine vr_bipush (q := 69) dX9_goesOn_67 rfl ⟨by decide, by decide⟩ (by decide) ?_
    -- at X9.goesOn 69: .if_icmp .ge 28
    refine vr_ic_ge (t := 97) (q := 72) dX9_goesOn_69 (by decide) rfl (fun c9 => absurd c9 (by omega)) (fun _ => ?_)
    refine vr_iload_n (q := 73) dX9_goesOn_72 rfl rfl ?_
    refine vr_iload (q := 75) dX9_goesOn_73 rfl rfl ?_
    -- at X9.goesOn 75: .invokestatic 156
    refine vr_is2 (q := 78) dX9_goesOn_75 rfl vX9_156 (Nat.le_of_ble_eq_true rfl) ?_
    refine m_has (fun c1 => ?_) (fun c1 => ?_)
    · rw [if_neg c1] at kk
      refine vr_if_eq (t := 91) (q := 81) dX9_goesOn_78 (by decide) rfl (fun c9 => absurd c9 (by omega)) (fun _ => ?_)
      refine vr_iload (q := 83) dX9_goesOn_81 rfl rfl ?_
      refine vr_iload (q := 85) dX9_goesOn_83 rfl rfl ?_
      -- at X9.goesOn 85: .invokestatic 156
      refine vr_is2 (q := 88) dX9_goesOn_85 rfl vX9_156 (Nat.le_of_ble_eq_true rfl) ?_
      refine m_has (fun c2 => ?_) (fun c2 => ?_)
      · rw [if_neg c2] at kk
        refine vr_if_eq (t := 97) (q := 91) dX9_goesOn_88 (by decide) rfl (fun c9 => absurd c9 (by omega)) (fun _ => ?_)
        refine vr_iinc (q := 94) dX9_goesOn_91 rfl rfl ⟨by omega, by omega⟩ (Nat.le_of_ble_eq_true rfl) rfl rfl ?_
        refine vr_goto (q := 65) dX9_goesOn_94 (by decide) ?_
        -- at X9.goesOn 65: .iload 5
        exact ih (y + 1) (by omega) (by omega) kk
      · rw [if_pos c2] at kk
        refine vr_if_eq (t := 97) (q := 91) dX9_goesOn_88 (by decide) rfl (fun _ => ?_) (fun c9 => absurd c9 (by omega))
        exact kk
    · rw [if_pos c1] at kk
      refine vr_if_eq (t := 91) (q := 81) dX9_goesOn_78 (by decide) rfl (fun _ => ?_) (fun c9 => absurd c9 (by omega))
      refine vr_iinc (q := 94) dX9_goesOn_91 rfl rfl ⟨by omega, by omega⟩ (Nat.le_of_ble_eq_true rfl) rfl rfl ?_
      refine vr_goto (q := 65) dX9_goesOn_94 (by decide) ?_
      -- at X9.goesOn 65: .iload 5
      exact ih (y + 1) (by omega) (by omega) kk
theorem lm_on1 {s n : Int} {r : List Int} (hr : rwr_ h r) (hl : n = r.length) (hn : n ≤ 6) (hx : ∀ i : Nat, i < r.length → 0 ≤ r.getD i 0 ∧ r.getD i 0 < 6) (hok : ∀ r2, gno_ s r = some r2 → ∀ x ∈ r2, x < 6) (kt : ∀ r2 hc, gno_ s r = some r2 → (∀ a, a ≠ 81 → hc a = h a) → rwr_ hc r2 → Post (some (sv_i 1)) hc) (kf : gno_ s r = none → Post (some (sv_i 0)) h) : ∀ (K : Nat) (u : Int) (o5 : Option SV_), K ≤ r.length → gbk_ s r.length r K u = gno_ s r → V_ g (d + 2) mX9_goesOn 36 [some (sv_r 4 8 68), some (sv_i s), some (sv_i n), some (sv_i ((K : Int) - 1)), some (sv_i u), o5] [] h Post := by
  intro K
  induction K with
  | zero =>
    intro u o5 hK he
    refine vr_iload_n (q := 37) dX9_goesOn_36 rfl rfl ?_
    -- at X9.goesOn 37: .ifCond .lt 103
    refine vr_if_lt (t := 140) (q := 40) dX9_goesOn_37 (by decide) rfl (fun _ => ?_) (fun c9 => absurd c9 (by omega))
    refine vr_iconst (q := 141) dX9_goesOn_140 rfl ⟨by decide, by decide⟩ ?_
    -- at X9.goesOn 141: .ireturn
    refine vr_zret dX9_goesOn_141 rfl ?_ ?_
    · exact Or.inl rfl
    · exact kf he.symm
  | succ K ih =>
    intro u o5 hK he
    have hxK := hx K (by omega)
    have hrK := hr K (by omega)
    have e : gbk_ s r.length r (K + 1) u = if nxt_ s (dl_ u (r.getD K 0)) (5 - r.getD K 0).toNat (r.getD K 0 + 1) < 6 then some (r.take K ++ nxt_ s (dl_ u (r.getD K 0)) (5 - r.getD K 0).toNat (r.getD K 0 + 1) :: fil_ s (r.length - (K + 1)) (sb_ior (dl_ u (r.getD K 0)) (sb_ishl 1 (nxt_ s (dl_ u (r.getD K 0)) (5 - r.getD K 0).toNat (r.getD K 0 + 1))))) else gbk_ s r.length r K (dl_ u (r.getD K 0)) := rfl
    rw [e] at he
    generalize r.getD K 0 = x at hxK hrK he
    rw [show ((K + 1 : Nat) : Int) - 1 = (K : Int) by omega]
    refine vr_iload_n (q := 37) dX9_goesOn_36 rfl rfl ?_
    -- at X9.goesOn 37: .ifCond .lt 103
    refine vr_if_lt (t := 140) (q := 40) dX9_goesOn_37 (by decide) rfl (fun c9 => absurd c9 (by omega)) (fun _ => ?_)
    refine vr_iload (q := 42) dX9_goesOn_40 rfl rfl ?_
    refine vr_iconst (q := 43) dX9_goesOn_42 rfl ⟨by decide, by decide⟩ ?_
    refine vr_aload_n (q := 44) dX9_goesOn_43 rfl rfl ?_
    refine vr_getR (q := 47) dX9_goesOn_44 rfl fX9_47 rfl y_X9_25 (by first | (simp only [Int.reduceAdd]; rfl) | rfl) ?_
    refine vr_iload_n (q := 48) dX9_goesOn_47 rfl rfl ?_
    refine vr_ialdV (q := 49) dX9_goesOn_48 rfl ⟨by omega, by omega⟩ hrK ?_
    refine vr_ishl (q := 50) dX9_goesOn_49 rfl ?_
    refine vr_iconst (q := 51) dX9_goesOn_50 rfl ⟨by decide, by decide⟩ ?_
    refine vr_ixor (q := 52) dX9_goesOn_51 rfl ?_
    refine vr_iand (q := 53) dX9_goesOn_52 rfl ?_
    refine vr_istore (q := 55) dX9_goesOn_53 rfl (Nat.le_of_ble_eq_true rfl) rfl rfl ?_
    refine vr_aload_n (q := 56) dX9_goesOn_55 rfl rfl ?_
    refine vr_getR (q := 59) dX9_goesOn_56 rfl fX9_47 rfl y_X9_25 (by first | (simp only [Int.reduceAdd]; rfl) | rfl) ?_
    refine vr_iload_n (q := 60) dX9_goesOn_59 rfl rfl ?_
    refine vr_ialdV (q := 61) dX9_goesOn_60 rfl ⟨by omega, by omega⟩ hrK ?_
    refine vr_iconst (q := 62) dX9_goesOn_61 rfl ⟨by decide, by decide⟩ ?_
    refine vr_iaddN (q := 63) dX9_goesOn_62 rfl ⟨by omega, by omega⟩ ?_
    refine vr_istore (q := 65) dX9_goesOn_63 rfl (Nat.le_of_ble_eq_true rfl) rfl rfl ?_
    -- at X9.goesOn 65: .iload 5
    refine lm_on2 (5 - x).toNat (x + 1) (by omega) (by omega) ?_
    have nr := nxt_r (s := s) (u := dl_ u x) (5 - x).toNat (x + 1)
    have eu : sb_iand u (sb_ixor (sb_ishl 1 x) (-1)) = dl_ u x := rfl
    rw [eu]
    generalize nxt_ s (dl_ u x) (5 - x).toNat (x + 1) = y at he nr ⊢
    refine vr_iload (q := 99) dX9_goesOn_97 rfl rfl ?_
    refine vr_bipush (q := 101) dX9_goesOn_99 rfl ⟨by decide, by decide⟩ (by decide) ?_
    -- at X9.goesOn 101: .if_icmp .ge 33
    refine vr_ic_ge (t := 134) (q := 104) dX9_goesOn_101 (by decide) rfl (fun c1 => ?_) (fun c1 => ?_)
    · rw [if_neg (by omega)] at he
      refine vr_iinc (q := 137) dX9_goesOn_134 rfl rfl ⟨by omega, by omega⟩ (Nat.le_of_ble_eq_true rfl) rfl rfl ?_
      refine vr_goto (q := 36) dX9_goesOn_137 (by decide) ?_
      -- at X9.goesOn 36: .iload_n 3
      exact ih _ _ (by omega) he
    · rw [if_pos (by omega)] at he
      have ok := hok _ he.symm
      refine vr_aload_n (q := 105) dX9_goesOn_104 rfl rfl ?_
      refine vr_getR (q := 108) dX9_goesOn_105 rfl fX9_47 rfl y_X9_25 (by first | (simp only [Int.reduceAdd]; rfl) | rfl) ?_
      refine vr_iload_n (q := 109) dX9_goesOn_108 rfl rfl ?_
      refine vr_iload (q := 111) dX9_goesOn_109 rfl rfl ?_
      refine vr_iast (q := 112) dX9_goesOn_111 rfl ⟨by omega, by omega⟩ ?_
      refine vr_iload (q := 114) dX9_goesOn_112 rfl rfl ?_
      refine vr_iconst (q := 115) dX9_goesOn_114 rfl ⟨by decide, by decide⟩ ?_
      refine vr_iload (q := 117) dX9_goesOn_115 rfl rfl ?_
      refine vr_ishl (q := 118) dX9_goesOn_117 rfl ?_
      refine vr_ior (q := 119) dX9_goesOn_118 rfl ?_
      refine vr_istore (q := 121) dX9_goesOn_119 rfl (Nat.le_of_ble_eq_true rfl) rfl rfl ?_
      refine vr_aload_n (q := 122) dX9_goesOn_121 rfl rfl ?_
      refine vr_iload_n (q := 123) dX9_goesOn_122 rfl rfl ?_
      refine vr_iload (q := 125) dX9_goesOn_123 rfl rfl ?_
      refine vr_iload_n (q := 126) dX9_goesOn_125 rfl rfl ?_
      refine vr_iconst (q := 127) dX9_goesOn_126 rfl ⟨by decide, by decide⟩ ?_
      refine vr_iaddN (q := 128) dX9_goesOn_127 rfl ⟨by omega, by omega⟩ ?_
      refine vr_iload_n (q := 129) dX9_goesOn_128 rfl rfl ?_
      -- at X9.goesOn 129: .invokevirtual 196
      refine vr_iv4 (q := 132) dX9_goesOn_129 rfl vX9_196 (Nat.le_of_ble_eq_true rfl) ?_
      refine m_fills (k := r.length - (K + 1)) (by omega) (by omega) hn (fun z hz => ok z (by rw [List.mem_append]; exact Or.inr (List.mem_cons_of_mem _ hz))) (fun h2 a1 a2 a3 => ?_)
      refine vr_iconst (q := 133) dX9_goesOn_132 rfl ⟨by decide, by decide⟩ ?_
      -- at X9.goesOn 133: .ireturn
      refine vr_zret dX9_goesOn_133 rfl ?_ ?_
      · exact Or.inr rfl
      · refine kt _ h2 he.symm (fun a ha => by rw [a1 a ha, hs_k ha]) (fun i hi => ?_)
        rw [List.length_append, List.length_take, List.length_cons, fil_l] at hi
        rw [tk_g _ _ _ (by omega)]
        by_cases i1 : i < K
        · rw [if_pos i1, a2 i (by omega), hs_n (by omega)]
          exact hr i (by omega)
        · rw [if_neg i1]
          by_cases i2 : i = K
          · rw [if_pos i2, i2, a2 K (by omega), hs_e]
          · rw [if_neg i2]
            have z := a3 (i - (K + 1)) (by omega)
            rw [show ((K : Int) + 1 + ((i - (K + 1) : Nat) : Int)) = (i : Int) by omega] at z
            exact z
theorem lm_on0 {s n : Int} {r : List Int} (hr : rwr_ h r) (hl : n = r.length) (hn : n ≤ 6) (k2 : ∀ o5 : Option SV_, V_ g (d + 2) mX9_goesOn 36 [some (sv_r 4 8 68), some (sv_i s), some (sv_i n), some (sv_i (n - 1)), some (sv_i (usd_ r r.length)), o5] [] h Post) : ∀ (m j : Nat), j + m = r.length → V_ g (d + 2) mX9_goesOn 10 [some (sv_r 4 8 68), some (sv_i s), some (sv_i n), some (sv_i (n - 1)), some (sv_i (usd_ r j)), some (sv_i j)] [] h Post := by
  intro m
  induction m with
  | zero =>
    intro j hj
    rw [Nat.add_zero] at hj
    rw [← hj] at k2
    refine vr_iload (q := 12) dX9_goesOn_10 rfl rfl ?_
    refine vr_iload_n (q := 13) dX9_goesOn_12 rfl rfl ?_
    -- at X9.goesOn 13: .if_icmp .ge 23
    refine vr_ic_ge (t := 36) (q := 16) dX9_goesOn_13 (by decide) rfl (fun _ => ?_) (fun c9 => absurd c9 (by omega))
    exact k2 _
  | succ m ih =>
    intro j hj
    have z := ih (j + 1) (by omega)
    rw [show usd_ r (j + 1) = sb_ior (usd_ r j) (sb_ishl 1 (r.getD j 0)) from rfl] at z
    refine vr_iload (q := 12) dX9_goesOn_10 rfl rfl ?_
    refine vr_iload_n (q := 13) dX9_goesOn_12 rfl rfl ?_
    -- at X9.goesOn 13: .if_icmp .ge 23
    refine vr_ic_ge (t := 36) (q := 16) dX9_goesOn_13 (by decide) rfl (fun c9 => absurd c9 (by omega)) (fun _ => ?_)
    refine vr_iload (q := 18) dX9_goesOn_16 rfl rfl ?_
    refine vr_iconst (q := 19) dX9_goesOn_18 rfl ⟨by decide, by decide⟩ ?_
    refine vr_aload_n (q := 20) dX9_goesOn_19 rfl rfl ?_
    refine vr_getR (q := 23) dX9_goesOn_20 rfl fX9_47 rfl y_X9_25 (by first | (simp only [Int.reduceAdd]; rfl) | rfl) ?_
    refine vr_iload (q := 25) dX9_goesOn_23 rfl rfl ?_
    refine vr_ialdV (q := 26) dX9_goesOn_25 rfl ⟨by omega, by omega⟩ (hr j (by omega)) ?_
    refine vr_ishl (q := 27) dX9_goesOn_26 rfl ?_
    refine vr_ior (q := 28) dX9_goesOn_27 rfl ?_
    refine vr_istore (q := 30) dX9_goesOn_28 rfl (Nat.le_of_ble_eq_true rfl) rfl rfl ?_
    refine vr_iinc (q := 33) dX9_goesOn_30 rfl rfl ⟨by omega, by omega⟩ (Nat.le_of_ble_eq_true rfl) rfl rfl ?_
    refine vr_goto (q := 10) dX9_goesOn_33 (by decide) ?_
    -- at X9.goesOn 10: .iload 5
    exact z
theorem m_goesOn {s n : Int} {r : List Int} (hr : rwr_ h r) (hl : n = r.length) (hn : n ≤ 6) (hx : ∀ i : Nat, i < r.length → 0 ≤ r.getD i 0 ∧ r.getD i 0 < 6) (hok : ∀ r2, gno_ s r = some r2 → ∀ x ∈ r2, x < 6) (kt : ∀ r2 hc, gno_ s r = some r2 → (∀ a, a ≠ 81 → hc a = h a) → rwr_ hc r2 → Post (some (sv_i 1)) hc) (kf : gno_ s r = none → Post (some (sv_i 0)) h) : Ctr_ g (d + 2) mX9_goesOn [sv_r 4 8 68, sv_i s, sv_i n] h Post := by
  have z := lm_on1 (g := g) (d := d) hr hl hn hx hok kt kf r.length (usd_ r r.length)
  rw [← hl] at z
  refine V_mk (by decide +kernel) (Or.inr (Or.inr (Or.inl ⟨rfl, rfl⟩))) (Nat.le_of_ble_eq_true rfl) (by simp [sv_c]) ?_
  show V_ _ _ _ 0 [_, _, _, _, _, _] [] _ _
  refine vr_iload_n (q := 1) dX9_goesOn_0 rfl rfl ?_
  refine vr_iconst (q := 2) dX9_goesOn_1 rfl ⟨by decide, by decide⟩ ?_
  refine vr_isubN (q := 3) dX9_goesOn_2 rfl ⟨by omega, by omega⟩ ?_
  refine vr_istore_n (q := 4) dX9_goesOn_3 rfl rfl (Nat.le_of_ble_eq_true rfl) rfl rfl ?_
  refine vr_iconst (q := 5) dX9_goesOn_4 rfl ⟨by decide, by decide⟩ ?_
  refine vr_istore (q := 7) dX9_goesOn_5 rfl (Nat.le_of_ble_eq_true rfl) rfl rfl ?_
  refine vr_iconst (q := 8) dX9_goesOn_7 rfl ⟨by decide, by decide⟩ ?_
  refine vr_istore (q := 10) dX9_goesOn_8 rfl (Nat.le_of_ble_eq_true rfl) rfl rfl ?_
  -- at X9.goesOn 10: .iload 5
  exact lm_on0 hr hl hn (fun o5 => z o5 (Nat.le_refl _) rfl) r.length 0 (Nat.zero_add _)
end PM20_
