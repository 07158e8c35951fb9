/-! the text of a town: what it is read as -/
def bz_ (f : Int → Int) (n p : Int) : Int := if 0 ≤ p ∧ p < n then f p else -1
def fg_ (b : Int) : Prop := 48 ≤ b ∧ b ≤ 57
/-- a number at p: its value and the place behind it; or the place and the kind of a fault -/
noncomputable def rn_ (B : Int → Int) (p lo hi : Int) : Except (Int × Int) (Int × Int) := if ¬ (48 ≤ B p ∧ B p ≤ 57) then .error (p, 1) else
  if ¬ (48 ≤ B (p + 1) ∧ B (p + 1) ≤ 57) then (if B p - 48 < lo ∨ hi < B p - 48 then .error (p, 2) else .ok (B p - 48, p + 1)) else
  if ¬ (48 ≤ B (p + 2) ∧ B (p + 2) ≤ 57) then (if 10 * (B p - 48) + B (p + 1) - 48 < lo ∨ hi < 10 * (B p - 48) + B (p + 1) - 48 then .error (p, 2) else .ok (10 * (B p - 48) + B (p + 1) - 48, p + 2)) else .error (p, 1)
noncomputable def pl_ (B : Int → Int) : Nat → Int → List (Int × Int × Int) → Except (Int × Int) (Int × List (Int × Int × Int))
  | 0, p, ls => if kl_ (B p) = 0 then .ok (p, ls) else .error (p, 3)
  | n + 1, p, ls => if kl_ (B p) = 0 then .ok (p, ls) else match rn_ B (p + 1) 1 20 with
    | .error e => .error e
    | .ok (w, p1) => if B p1 = 44 then (match rn_ B (p1 + 1) 0 3 with
      | .error e => .error e
      | .ok (t, p3) => if B p3 = 59 then pl_ B n (p3 + 1) (ls ++ [(kl_ (B p), w, t)]) else .error (p3, 1)) else .error (p1, 1)
noncomputable def ps_ (B : Int → Int) : Nat → Int → List (Int × Int) → Except (Int × Int) (Int × List (Int × Int))
  | 0, p, ss => if B p = 115 then .error (p, 3) else .ok (p, ss)
  | n + 1, p, ss => if B p = 115 then (match rn_ B (p + 1) 0 20 with
    | .error e => .error e
    | .ok (t, p1) => if B p1 = 44 then (match rn_ B (p1 + 1) 0 15 with
      | .error e => .error e
      | .ok (b, p3) => if B p3 = 59 then ps_ B n (p3 + 1) (ss ++ [(t, b)]) else .error (p3, 1)) else .error (p1, 1)) else .ok (p, ss)
/-- a town's text whole: stake, lies, strangers -/
noncomputable def pt_ (B : Int → Int) (n : Int) : Except (Int × Int) (Int × List (Int × Int × Int) × List (Int × Int)) :=
  if B 0 = 116 then (match rn_ B 1 1 9 with
    | .error e => .error e
    | .ok (st, p1) => if B p1 = 59 then (match pl_ B 6 (p1 + 1) [] with
      | .error e => .error e
      | .ok (p2, ls) => match ps_ B 4 p2 [] with
        | .error e => .error e
        | .ok (p3, ss) => if p3 < n then .error (p3, 1) else .ok (st, ls, ss)) else .error (p1, 1)) else .error (0, 1)
theorem bz_i {f : Int → Int} {n p : Int} (h : bz_ f n p ≠ -1) : 0 ≤ p ∧ p < n := by
  unfold bz_ at h
  by_cases c : 0 ≤ p ∧ p < n
  · exact c
  · rw [if_neg c] at h; exact absurd rfl h
theorem rn_ok {f : Int → Int} {n p lo hi v q : Int} (h : rn_ (bz_ f n) p lo hi = .ok (v, q)) : lo ≤ v ∧ v ≤ hi ∧ p < q ∧ q ≤ n ∧ 0 ≤ p := by
  unfold rn_ at h
  split at h
  · cases h
  · next c0 =>
    have i0 := bz_i (f := f) (n := n) (p := p) (by omega)
    split at h
    · split at h
      · cases h
      · cases h
        omega
    · next c1 =>
      have i1 := bz_i (f := f) (n := n) (p := p + 1) (by omega)
      split at h
      · split at h
        · cases h
        · cases h
          omega
      · cases h
theorem rn_er {B : Int → Int} {p lo hi : Int} {e : Int × Int} (h : rn_ B p lo hi = .error e) : e.1 = p ∧ (e.2 = 1 ∨ e.2 = 2) := by
  unfold rn_ at h
  repeat' split at h
  all_goals first | (cases h; exact ⟨rfl, Or.inl rfl⟩) | (cases h; exact ⟨rfl, Or.inr rfl⟩) | (cases h; done)
theorem hs_hs (h : SH_) (a b u v : Int) : hs_ (hs_ h a b u) a b v = hs_ h a b v := by
  funext x y
  unfold hs_
  by_cases c : x = a ∧ y = b
  · rw [if_pos c, if_pos c]
  · rw [if_neg c, if_neg c, if_neg c]
/-- a draft town -/
def td_ (h : SH_) (k st : Int) (ls : List (Int × Int × Int)) (ss : List (Int × Int)) : Prop := h k 0 = st ∧ h k 1 = 0 ∧ h k 2 = ls.length ∧ h k 3 = ss.length ∧
  (∀ (i : Nat) (x : Int × Int × Int), ls[i]? = some x → h (k + 1) i = x.1 ∧ h (k + 2) i = x.2.1 ∧ h (k + 3) i = x.2.2) ∧
  (∀ (i : Nat) (x : Int × Int), ss[i]? = some x → h (k + 4) i = x.1 ∧ h (k + 5) i = x.2 ∧ h (k + 6) i = 0 ∧ h (k + 7) i = 0)
/-- while reading: all but the reader and the draft is as it was -/
def rs_ (h hc : SH_) (p k : Int) : Prop := (∀ a, a ≠ 5 → (a < 15 ∨ 22 < a) → hc a = h a) ∧ hc 5 1 = h 5 1 ∧ hc 5 2 = p ∧ hc 5 3 = k
section PF_
variable {g : SG_} {d : Nat} {M : MD_} {pc q : Nat} {ls : List (Option SV_)} {st : List SV_} {h : SH_} {Post : Option SV_ → SH_ → Prop}
theorem vr_iincV {i : Nat} {n x y : Int} {ls2 : List (Option SV_)} (hd : decode M.2.1 pc = .ok (.iinc i n, 3)) (hq : pc + 3 = q) (hv : ls[i]? = some (some (sv_i x))) (hy : x + n = y) (hr : sr_32 y) (hn : i < M.2.2.1) (hc : sl_nl ls i = true) (h2 : ls.set i (some (sv_i y)) = ls2) (k : V_ g d M q ls2 st h Post) : V_ g d M pc ls st h Post := by
  subst hy
  exact vr_iinc hd hq hv hr hn hc h2 k
theorem vr_iaddV {x y z : Int} (hd : decode M.2.1 pc = .ok (.iadd, 1)) (hq : pc + 1 = q) (hz : x + y = z) (hr : sr_32 z) (k : V_ g d M q ls (sv_i z :: st) h Post) : V_ g d M pc ls (sv_i y :: sv_i x :: st) h Post := by
  subst hz
  exact vr_iaddN hd hq hr k
theorem vr_isubV {x y z : Int} (hd : decode M.2.1 pc = .ok (.isub, 1)) (hq : pc + 1 = q) (hz : x - y = z) (hr : sr_32 z) (k : V_ g d M q ls (sv_i z :: st) h Post) : V_ g d M pc ls (sv_i y :: sv_i x :: st) h Post := by
  subst hz
  exact vr_isubN hd hq hr k
theorem vr_imulV {x y z : Int} (hd : decode M.2.1 pc = .ok (.imul, 1)) (hq : pc + 1 = q) (hz : x * y = z) (hr : sr_32 z) (k : V_ g d M q ls (sv_i z :: st) h Post) : V_ g d M pc ls (sv_i y :: sv_i x :: st) h Post := by
  subst hz
  exact vr_imulN hd hq hr k
end PF_
section PRD_
variable {g : SG_} {d : Nat} {h : SH_} {Post : Option SV_ → SH_ → Prop}
theorem c_isFull (kt : 120 ≤ h 5 1 → Post (some (sv_i 1)) h) (kf : ¬ 120 ≤ h 5 1 → Post (some (sv_i 0)) h) : Ctr_ g d mX5_isFull [sv_r 4 4 5] h Post := by
  refine V_mk (by decide +kernel) (Or.inr (Or.inr (Or.inl ⟨rfl, rfl⟩))) (Nat.le_of_ble_eq_true rfl) (by simp [sv_c]) ?_
  show V_ _ _ _ 0 [_] [] _ _
  refine vr_aload_n (q := 1) dX5_isFull_0 rfl rfl ?_
  refine vr_getI (ji := 1) (q := 4) dX5_isFull_1 rfl fX5_13 rfl rfl ?_
  refine vr_bipush (q := 6) dX5_isFull_4 rfl ⟨by decide, by decide⟩ (by decide) ?_
  refine vr_ic_lt (t := 13) (q := 9) dX5_isFull_6 (by decide) rfl (fun c6 => ?_) (fun c6 => ?_)
  · refine vr_iconst (q := 14) dX5_isFull_13 rfl ⟨by decide, by decide⟩ ?_
    refine vr_zret dX5_isFull_14 rfl ?_ ?_
    · first | exact Or.inl rfl | exact Or.inr rfl | assumption
    · first | exact kt (by omega) | exact kf (by omega)
  · refine vr_iconst (q := 10) dX5_isFull_9 rfl ⟨by decide, by decide⟩ ?_
    refine vr_goto (q := 14) dX5_isFull_10 (by decide) ?_
    refine vr_zret dX5_isFull_14 rfl ?_ ?_
    · first | exact Or.inl rfl | exact Or.inr rfl | assumption
    · first | exact kt (by omega) | exact kf (by omega)
theorem c_append {x : Int} (hn : 0 ≤ h 5 1 ∧ h 5 1 < 120) (kk : Post (some (sv_i (h 5 1 + 1))) (hs_ (hs_ h 6 (h 5 1) x) 5 1 (h 5 1 + 1))) : Ctr_ g d mX5_append [sv_r 4 4 5, sv_i x] h Post := by
  refine V_mk (by decide +kernel) (Or.inr (Or.inl ⟨rfl, rfl⟩)) (Nat.le_of_ble_eq_true rfl) (by simp [sv_c]) ?_
  show V_ _ _ _ 0 [_, _] [] _ _
  refine vr_aload_n (q := 1) dX5_append_0 rfl rfl ?_
  refine vr_getI (ji := 1) (q := 4) dX5_append_1 rfl fX5_13 rfl rfl ?_
  refine vr_bipush (q := 6) dX5_append_4 rfl ⟨by decide, by decide⟩ (by decide) ?_
  refine vr_ic_ge (t := 29) (q := 9) dX5_append_6 (by decide) rfl (fun c9 => absurd c9 (by omega)) (fun _ => ?_)
  refine vr_aload_n (q := 10) dX5_append_9 rfl rfl ?_
  refine vr_getR (q := 13) dX5_append_10 rfl fX5_9 rfl y_X5_0 (by first | (simp only [Int.reduceAdd]; rfl) | rfl) ?_
  refine vr_aload_n (q := 14) dX5_append_13 rfl rfl ?_
  refine vr_getI (ji := 1) (q := 17) dX5_append_14 rfl fX5_13 rfl rfl ?_
  refine vr_iload_n (q := 18) dX5_append_17 rfl rfl ?_
  refine vr_iast (q := 19) dX5_append_18 rfl ⟨by omega, by omega⟩ ?_
  refine vr_aload_n (q := 20) dX5_append_19 rfl rfl ?_
  refine vr_dup (q := 21) dX5_append_20 rfl rfl ?_
  refine vr_getV (ji := 1) (q := 24) dX5_append_21 rfl fX5_13 rfl rfl (by rw [hs_k (by decide)]) ?_
  refine vr_iconst (q := 25) dX5_append_24 rfl ⟨by decide, by decide⟩ ?_
  refine vr_iaddN (q := 26) dX5_append_25 rfl ⟨by omega, by omega⟩ ?_
  refine vr_put (ji := 1) (q := 29) dX5_append_26 rfl pX5_13 rfl rfl ?_
  refine vr_aload_n (q := 30) dX5_append_29 rfl rfl ?_
  refine vr_getV (ji := 1) (q := 33) dX5_append_30 rfl fX5_13 rfl rfl (hs_e _ _ _ _) ?_
  refine vr_iret dX5_append_33 rfl ?_
  first | exact kk | (exfalso; omega) | (repeat (first | exact kk | rw [if_pos (by omega)] at kk | rw [if_neg (by omega)] at kk))
theorem c_length (kk : Post (some (sv_i (h 5 1))) h) : Ctr_ g d mX5_length [sv_r 4 4 5] h Post := by
  refine V_mk (by decide +kernel) (Or.inr (Or.inl ⟨rfl, rfl⟩)) (Nat.le_of_ble_eq_true rfl) (by simp [sv_c]) ?_
  show V_ _ _ _ 0 [_] [] _ _
  refine vr_aload_n (q := 1) dX5_length_0 rfl rfl ?_
  refine vr_getI (ji := 1) (q := 4) dX5_length_1 rfl fX5_13 rfl rfl ?_
  refine vr_iret dX5_length_4 rfl ?_
  first | exact kk | (exfalso; omega) | (repeat (first | exact kk | rw [if_pos (by omega)] at kk | rw [if_neg (by omega)] at kk))
theorem c_faultPlace (kk : Post (some (sv_i (h 5 2))) h) : Ctr_ g d mX5_faultPlace [sv_r 4 4 5] h Post := by
  refine V_mk (by decide +kernel) (Or.inr (Or.inl ⟨rfl, rfl⟩)) (Nat.le_of_ble_eq_true rfl) (by simp [sv_c]) ?_
  show V_ _ _ _ 0 [_] [] _ _
  refine vr_aload_n (q := 1) dX5_faultPlace_0 rfl rfl ?_
  refine vr_getI (ji := 2) (q := 4) dX5_faultPlace_1 rfl fX5_17 rfl rfl ?_
  refine vr_iret dX5_faultPlace_4 rfl ?_
  first | exact kk | (exfalso; omega) | (repeat (first | exact kk | rw [if_pos (by omega)] at kk | rw [if_neg (by omega)] at kk))
theorem c_latestFault (kk : Post (some (sv_i (h 5 3))) h) : Ctr_ g d mX5_latestFault [sv_r 4 4 5] h Post := by
  refine V_mk (by decide +kernel) (Or.inr (Or.inl ⟨rfl, rfl⟩)) (Nat.le_of_ble_eq_true rfl) (by simp [sv_c]) ?_
  show V_ _ _ _ 0 [_] [] _ _
  refine vr_aload_n (q := 1) dX5_latestFault_0 rfl rfl ?_
  refine vr_getI (ji := 3) (q := 4) dX5_latestFault_1 rfl fX5_20 rfl rfl ?_
  refine vr_iret dX5_latestFault_4 rfl ?_
  first | exact kk | (exfalso; omega) | (repeat (first | exact kk | rw [if_pos (by omega)] at kk | rw [if_neg (by omega)] at kk))
theorem c_byteAt {p : Int} (hn : 0 ≤ h 5 1 ∧ h 5 1 ≤ 120) (kk : Post (some (sv_i (bz_ (h 6) (h 5 1) p))) h) : Ctr_ g d mX5_byteAt [sv_r 4 4 5, sv_i p] h Post := by
  unfold bz_ at kk
  refine V_mk (by decide +kernel) (Or.inr (Or.inl ⟨rfl, rfl⟩)) (Nat.le_of_ble_eq_true rfl) (by simp [sv_c]) ?_
  show V_ _ _ _ 0 [_, _] [] _ _
  refine vr_iload_n (q := 1) dX5_byteAt_0 rfl rfl ?_
  refine vr_if_lt (t := 21) (q := 4) dX5_byteAt_1 (by decide) rfl (fun c1 => ?_) (fun c1 => ?_)
  · refine vr_iconst (q := 22) dX5_byteAt_21 rfl ⟨by decide, by decide⟩ ?_
    refine vr_iret dX5_byteAt_22 rfl ?_
    first | exact kk | (exfalso; omega) | (repeat (first | exact kk | rw [if_pos (by omega)] at kk | rw [if_neg (by omega)] at kk))
  · refine vr_iload_n (q := 5) dX5_byteAt_4 rfl rfl ?_
    refine vr_aload_n (q := 6) dX5_byteAt_5 rfl rfl ?_
    refine vr_getI (ji := 1) (q := 9) dX5_byteAt_6 rfl fX5_13 rfl rfl ?_
    refine vr_ic_ge (t := 21) (q := 12) dX5_byteAt_9 (by decide) rfl (fun c9 => ?_) (fun c9 => ?_)
    · refine vr_iconst (q := 22) dX5_byteAt_21 rfl ⟨by decide, by decide⟩ ?_
      refine vr_iret dX5_byteAt_22 rfl ?_
      first | exact kk | (exfalso; omega) | (repeat (first | exact kk | rw [if_pos (by omega)] at kk | rw [if_neg (by omega)] at kk))
    · refine vr_aload_n (q := 13) dX5_byteAt_12 rfl rfl ?_
      refine vr_getR (q := 16) dX5_byteAt_13 rfl fX5_9 rfl y_X5_0 (by first | (simp only [Int.reduceAdd]; rfl) | rfl) ?_
      refine vr_iload_n (q := 17) dX5_byteAt_16 rfl rfl ?_
      refine vr_iald (q := 18) dX5_byteAt_17 rfl ⟨by omega, by omega⟩ ?_
      refine vr_goto (q := 22) dX5_byteAt_18 (by decide) ?_
      refine vr_iret dX5_byteAt_22 rfl ?_
      first | exact kk | (exfalso; omega) | (repeat (first | exact kk | rw [if_pos (by omega)] at kk | rw [if_neg (by omega)] at kk))
theorem c_here (hn : 0 ≤ h 5 1 ∧ h 5 1 ≤ 120) (kk : Post (some (sv_i (bz_ (h 6) (h 5 1) (h 5 2)))) h) : Ctr_ g (d + 1) mX5_here [sv_r 4 4 5] h Post := by
  refine V_mk (by decide +kernel) (Or.inr (Or.inl ⟨rfl, rfl⟩)) (Nat.le_of_ble_eq_true rfl) (by simp [sv_c]) ?_
  show V_ _ _ _ 0 [_] [] _ _
  refine vr_aload_n (q := 1) dX5_here_0 rfl rfl ?_
  refine vr_aload_n (q := 2) dX5_here_1 rfl rfl ?_
  refine vr_getI (ji := 2) (q := 5) dX5_here_2 rfl fX5_17 rfl rfl ?_
  refine vr_iv1 (q := 8) dX5_here_5 rfl vX5_68 (Nat.le_of_ble_eq_true rfl) ?_
  refine c_byteAt hn ?_
  refine vr_iret dX5_here_8 rfl ?_
  first | exact kk | (exfalso; omega) | (repeat (first | exact kk | rw [if_pos (by omega)] at kk | rw [if_neg (by omega)] at kk))
theorem c_isFigure {b : Int} (kt : (48 ≤ b ∧ b ≤ 57) → Post (some (sv_i 1)) h) (kf : ¬ (48 ≤ b ∧ b ≤ 57) → Post (some (sv_i 0)) h) : Ctr_ g d mX5_isFigure [sv_i b] h Post := by
  refine V_mk (by decide +kernel) (Or.inr (Or.inr (Or.inl ⟨rfl, rfl⟩))) (Nat.le_of_ble_eq_true rfl) (by simp [sv_c]) ?_
  show V_ _ _ _ 0 [_] [] _ _
  refine vr_iload_n (q := 1) dX5_isFigure_0 rfl rfl ?_
  refine vr_bipush (q := 3) dX5_isFigure_1 rfl ⟨by decide, by decide⟩ (by decide) ?_
  refine vr_ic_lt (t := 16) (q := 6) dX5_isFigure_3 (by decide) rfl (fun c3 => ?_) (fun c3 => ?_)
  · refine vr_iconst (q := 17) dX5_isFigure_16 rfl ⟨by decide, by decide⟩ ?_
    refine vr_zret dX5_isFigure_17 rfl ?_ ?_
    · first | exact Or.inl rfl | exact Or.inr rfl | assumption
    · first | exact kt (by omega) | exact kf (by omega)
  · refine vr_iload_n (q := 7) dX5_isFigure_6 rfl rfl ?_
    refine vr_bipush (q := 9) dX5_isFigure_7 rfl ⟨by decide, by decide⟩ (by decide) ?_
    refine vr_ic_gt (t := 16) (q := 12) dX5_isFigure_9 (by decide) rfl (fun c9 => ?_) (fun c9 => ?_)
    · refine vr_iconst (q := 17) dX5_isFigure_16 rfl ⟨by decide, by decide⟩ ?_
      refine vr_zret dX5_isFigure_17 rfl ?_ ?_
      · first | exact Or.inl rfl | exact Or.inr rfl | assumption
      · first | exact kt (by omega) | exact kf (by omega)
    · refine vr_iconst (q := 13) dX5_isFigure_12 rfl ⟨by decide, by decide⟩ ?_
      refine vr_goto (q := 17) dX5_isFigure_13 (by decide) ?_
      refine vr_zret dX5_isFigure_17 rfl ?_ ?_
      · first | exact Or.inl rfl | exact Or.inr rfl | assumption
      · first | exact kt (by omega) | exact kf (by omega)
theorem c_refuse {k : Int} (kk : Post (some (sv_i 0)) (hs_ h 5 3 k)) : Ctr_ g d mX5_refuse [sv_r 4 4 5, sv_i k] h Post := by
  refine V_mk (by decide +kernel) (Or.inr (Or.inr (Or.inl ⟨rfl, rfl⟩))) (Nat.le_of_ble_eq_true rfl) (by simp [sv_c]) ?_
  show V_ _ _ _ 0 [_, _] [] _ _
  refine vr_aload_n (q := 1) dX5_refuse_0 rfl rfl ?_
  refine vr_iload_n (q := 2) dX5_refuse_1 rfl rfl ?_
  refine vr_put (ji := 3) (q := 5) dX5_refuse_2 rfl pX5_20 rfl rfl ?_
  refine vr_iconst (q := 6) dX5_refuse_5 rfl ⟨by decide, by decide⟩ ?_
  refine vr_zret dX5_refuse_6 rfl ?_ ?_
  · first | exact Or.inl rfl | exact Or.inr rfl | assumption
  · first | exact kk | (exfalso; omega) | (repeat (first | exact kk | rw [if_pos (by omega)] at kk | rw [if_neg (by omega)] at kk))
theorem c_passed {c : Int} (hn : 0 ≤ h 5 1 ∧ h 5 1 ≤ 120) (hc : c ≠ -1) (kt : bz_ (h 6) (h 5 1) (h 5 2) = c → (0 ≤ h 5 2 ∧ h 5 2 < h 5 1) → Post (some (sv_i 1)) (hs_ h 5 2 (h 5 2 + 1))) (kf : ¬ bz_ (h 6) (h 5 1) (h 5 2) = c → Post (some (sv_i 0)) (hs_ h 5 3 1)) : Ctr_ g (d + 2) mX5_passed [sv_r 4 4 5, sv_i c] h Post := by
  refine V_mk (by decide +kernel) (Or.inr (Or.inr (Or.inl ⟨rfl, rfl⟩))) (Nat.le_of_ble_eq_true rfl) (by simp [sv_c]) ?_
  show V_ _ _ _ 0 [_, _] [] _ _
  refine vr_aload_n (q := 1) dX5_passed_0 rfl rfl ?_
  -- at X5.passed 1: .invokevirtual 50
  refine vr_iv0 (q := 4) dX5_passed_1 rfl vX5_50 (Nat.le_of_ble_eq_true rfl) ?_
  refine c_here hn ?_
  refine vr_iload_n (q := 5) dX5_passed_4 rfl rfl ?_
  -- at X5.passed 5: .if_icmp .eq 9
  refine vr_ic_eq (t := 14) (q := 8) dX5_passed_5 (by decide) rfl (fun c1 => ?_) (fun c1 => ?_)
  · have i0 := bz_i (f := h 6) (n := h 5 1) (p := h 5 2) (by omega)
    refine vr_aload_n (q := 15) dX5_passed_14 rfl rfl ?_
    refine vr_dup (q := 16) dX5_passed_15 rfl rfl ?_
    refine vr_getI (ji := 2) (q := 19) dX5_passed_16 rfl fX5_17 rfl rfl ?_
    refine vr_iconst (q := 20) dX5_passed_19 rfl ⟨by decide, by decide⟩ ?_
    refine vr_iaddN (q := 21) dX5_passed_20 rfl ⟨by omega, by omega⟩ ?_
    refine vr_put (ji := 2) (q := 24) dX5_passed_21 rfl pX5_17 rfl rfl ?_
    refine vr_iconst (q := 25) dX5_passed_24 rfl ⟨by decide, by decide⟩ ?_
    refine vr_zret dX5_passed_25 rfl ?_ ?_
    · first | exact Or.inl rfl | exact Or.inr rfl | assumption
    · exact kt c1 i0
  · refine vr_aload_n (q := 9) dX5_passed_8 rfl rfl ?_
    refine vr_iconst (q := 10) dX5_passed_9 rfl ⟨by decide, by decide⟩ ?_
    refine vr_iv1 (q := 13) dX5_passed_10 rfl vX5_33 (Nat.le_of_ble_eq_true rfl) ?_
    refine c_refuse ?_
    refine vr_zret dX5_passed_13 rfl ?_ ?_
    · first | exact Or.inl rfl | exact Or.inr rfl | assumption
    · exact kf c1
theorem l_rn3 {lo hi v : Int} (kk : Post (some (sv_i (-1))) (hs_ h 5 3 1)) : V_ g (d + 1) mX5_readNumber 5 [some (sv_r 4 4 5), some (sv_i lo), some (sv_i hi), some (sv_i 3), some (sv_i v)] [] h Post := by
  refine vr_iload_n (q := 6) dX5_readNumber_5 rfl rfl ?_
  refine vr_iconst (q := 7) dX5_readNumber_6 rfl ⟨by decide, by decide⟩ ?_
  refine vr_ic_ge (t := 53) (q := 10) dX5_readNumber_7 (by decide) rfl (fun _ => ?_) (fun c9 => absurd c9 (by omega))
  refine vr_iload_n (q := 54) dX5_readNumber_53 rfl rfl ?_
  refine vr_iconst (q := 55) dX5_readNumber_54 rfl ⟨by decide, by decide⟩ ?_
  refine vr_ic_lt (t := 63) (q := 58) dX5_readNumber_55 (by decide) rfl (fun c9 => absurd c9 (by omega)) (fun _ => ?_)
  refine vr_iload_n (q := 59) dX5_readNumber_58 rfl rfl ?_
  refine vr_iconst (q := 60) dX5_readNumber_59 rfl ⟨by decide, by decide⟩ ?_
  refine vr_ic_le (t := 71) (q := 63) dX5_readNumber_60 (by decide) rfl (fun c9 => absurd c9 (by omega)) (fun _ => ?_)
  refine vr_aload_n (q := 64) dX5_readNumber_63 rfl rfl ?_
  refine vr_iconst (q := 65) dX5_readNumber_64 rfl ⟨by decide, by decide⟩ ?_
  refine vr_iv1 (q := 68) dX5_readNumber_65 rfl vX5_33 (Nat.le_of_ble_eq_true rfl) ?_
  refine c_refuse ?_
  refine vr_pop (q := 69) dX5_readNumber_68 rfl rfl ?_
  refine vr_iconst (q := 70) dX5_readNumber_69 rfl ⟨by decide, by decide⟩ ?_
  refine vr_iret dX5_readNumber_70 rfl ?_
  first | exact kk | (exfalso; omega) | (repeat (first | exact kk | rw [if_pos (by omega)] at kk | rw [if_neg (by omega)] at kk))
theorem l_rn2 {lo hi v : Int} (hn : 0 ≤ h 5 1 ∧ h 5 1 ≤ 120) (hp : 0 ≤ h 5 2 ∧ h 5 2 ≤ 121) (hv : 0 ≤ v ∧ v ≤ 1000) (k3 : (48 ≤ bz_ (h 6) (h 5 1) (h 5 2 + 2) ∧ bz_ (h 6) (h 5 1) (h 5 2 + 2) ≤ 57) → Post (some (sv_i (-1))) (hs_ h 5 3 1)) (k2 : ¬ (48 ≤ bz_ (h 6) (h 5 1) (h 5 2 + 2) ∧ bz_ (h 6) (h 5 1) (h 5 2 + 2) ≤ 57) → (v < lo ∨ hi < v) → Post (some (sv_i (-1))) (hs_ h 5 3 2)) (ko : ¬ (48 ≤ bz_ (h 6) (h 5 1) (h 5 2 + 2) ∧ bz_ (h 6) (h 5 1) (h 5 2 + 2) ≤ 57) → ¬ (v < lo ∨ hi < v) → Post (some (sv_i v)) (hs_ h 5 2 (h 5 2 + 2))) : V_ g (d + 1) mX5_readNumber 5 [some (sv_r 4 4 5), some (sv_i lo), some (sv_i hi), some (sv_i 2), some (sv_i v)] [] h Post := by
  refine vr_iload_n (q := 6) dX5_readNumber_5 rfl rfl ?_
  refine vr_iconst (q := 7) dX5_readNumber_6 rfl ⟨by decide, by decide⟩ ?_
  refine vr_ic_ge (t := 53) (q := 10) dX5_readNumber_7 (by decide) rfl (fun c9 => absurd c9 (by omega)) (fun _ => ?_)
  refine vr_aload_n (q := 11) dX5_readNumber_10 rfl rfl ?_
  refine vr_aload_n (q := 12) dX5_readNumber_11 rfl rfl ?_
  refine vr_getI (ji := 2) (q := 15) dX5_readNumber_12 rfl fX5_17 rfl rfl ?_
  refine vr_iload_n (q := 16) dX5_readNumber_15 rfl rfl ?_
  refine vr_iaddN (q := 17) dX5_readNumber_16 rfl ⟨by omega, by omega⟩ ?_
  refine vr_iv1 (q := 20) dX5_readNumber_17 rfl vX5_68 (Nat.le_of_ble_eq_true rfl) ?_
  refine c_byteAt hn ?_
  refine vr_is1 (q := 23) dX5_readNumber_20 rfl vX5_71 (Nat.le_of_ble_eq_true rfl) ?_
  refine c_isFigure (fun c20 => ?_) (fun c20 => ?_)
  · refine vr_if_eq (t := 53) (q := 26) dX5_readNumber_23 (by decide) rfl (fun c9 => absurd c9 (by omega)) (fun _ => ?_)
    refine vr_bipush (q := 28) dX5_readNumber_26 rfl ⟨by decide, by decide⟩ (by decide) ?_
    refine vr_iload (q := 30) dX5_readNumber_28 rfl rfl ?_
    refine vr_imulN (q := 31) dX5_readNumber_30 rfl ⟨by omega, by omega⟩ ?_
    refine vr_aload_n (q := 32) dX5_readNumber_31 rfl rfl ?_
    refine vr_aload_n (q := 33) dX5_readNumber_32 rfl rfl ?_
    refine vr_getI (ji := 2) (q := 36) dX5_readNumber_33 rfl fX5_17 rfl rfl ?_
    refine vr_iload_n (q := 37) dX5_readNumber_36 rfl rfl ?_
    refine vr_iaddN (q := 38) dX5_readNumber_37 rfl ⟨by omega, by omega⟩ ?_
    refine vr_iv1 (q := 41) dX5_readNumber_38 rfl vX5_68 (Nat.le_of_ble_eq_true rfl) ?_
    refine c_byteAt hn ?_
    refine vr_iaddN (q := 42) dX5_readNumber_41 rfl ⟨by omega, by omega⟩ ?_
    refine vr_bipush (q := 44) dX5_readNumber_42 rfl ⟨by decide, by decide⟩ (by decide) ?_
    refine vr_isubN (q := 45) dX5_readNumber_44 rfl ⟨by omega, by omega⟩ ?_
    refine vr_istore (q := 47) dX5_readNumber_45 rfl (Nat.le_of_ble_eq_true rfl) rfl rfl ?_
    refine vr_iincV (y := 3) (q := 50) dX5_readNumber_47 rfl rfl rfl ⟨by decide, by decide⟩ (Nat.le_of_ble_eq_true rfl) rfl rfl ?_
    refine vr_goto (q := 5) dX5_readNumber_50 (by decide) ?_
    exact l_rn3 (k3 c20)
  · refine vr_if_eq (t := 53) (q := 26) dX5_readNumber_23 (by decide) rfl (fun _ => ?_) (fun c9 => absurd c9 (by omega))
    refine vr_iload_n (q := 54) dX5_readNumber_53 rfl rfl ?_
    refine vr_iconst (q := 55) dX5_readNumber_54 rfl ⟨by decide, by decide⟩ ?_
    refine vr_ic_lt (t := 63) (q := 58) dX5_readNumber_55 (by decide) rfl (fun c9 => absurd c9 (by omega)) (fun _ => ?_)
    refine vr_iload_n (q := 59) dX5_readNumber_58 rfl rfl ?_
    refine vr_iconst (q := 60) dX5_readNumber_59 rfl ⟨by decide, by decide⟩ ?_
    refine vr_ic_le (t := 71) (q := 63) dX5_readNumber_60 (by decide) rfl (fun _ => ?_) (fun c9 => absurd c9 (by omega))
    refine vr_iload (q := 73) dX5_readNumber_71 rfl rfl ?_
    refine vr_iload_n (q := 74) dX5_readNumber_73 rfl rfl ?_
    refine vr_ic_lt (t := 83) (q := 77) dX5_readNumber_74 (by decide) rfl (fun c74 => ?_) (fun c74 => ?_)
    · refine vr_aload_n (q := 84) dX5_readNumber_83 rfl rfl ?_
      refine vr_iconst (q := 85) dX5_readNumber_84 rfl ⟨by decide, by decide⟩ ?_
      refine vr_iv1 (q := 88) dX5_readNumber_85 rfl vX5_33 (Nat.le_of_ble_eq_true rfl) ?_
      refine c_refuse ?_
      refine vr_pop (q := 89) dX5_readNumber_88 rfl rfl ?_
      refine vr_iconst (q := 90) dX5_readNumber_89 rfl ⟨by decide, by decide⟩ ?_
      refine vr_iret dX5_readNumber_90 rfl ?_
      exact k2 c20 (by omega)
    · refine vr_iload (q := 79) dX5_readNumber_77 rfl rfl ?_
      refine vr_iload_n (q := 80) dX5_readNumber_79 rfl rfl ?_
      refine vr_ic_le (t := 91) (q := 83) dX5_readNumber_80 (by decide) rfl (fun c80 => ?_) (fun c80 => ?_)
      · refine vr_aload_n (q := 92) dX5_readNumber_91 rfl rfl ?_
        refine vr_dup (q := 93) dX5_readNumber_92 rfl rfl ?_
        refine vr_getI (ji := 2) (q := 96) dX5_readNumber_93 rfl fX5_17 rfl rfl ?_
        refine vr_iload_n (q := 97) dX5_readNumber_96 rfl rfl ?_
        refine vr_iaddN (q := 98) dX5_readNumber_97 rfl ⟨by omega, by omega⟩ ?_
        refine vr_put (ji := 2) (q := 101) dX5_readNumber_98 rfl pX5_17 rfl rfl ?_
        refine vr_iload (q := 103) dX5_readNumber_101 rfl rfl ?_
        refine vr_iret dX5_readNumber_103 rfl ?_
        exact ko c20 (by omega)
      · refine vr_aload_n (q := 84) dX5_readNumber_83 rfl rfl ?_
        refine vr_iconst (q := 85) dX5_readNumber_84 rfl ⟨by decide, by decide⟩ ?_
        refine vr_iv1 (q := 88) dX5_readNumber_85 rfl vX5_33 (Nat.le_of_ble_eq_true rfl) ?_
        refine c_refuse ?_
        refine vr_pop (q := 89) dX5_readNumber_88 rfl rfl ?_
        refine vr_iconst (q := 90) dX5_readNumber_89 rfl ⟨by decide, by decide⟩ ?_
        refine vr_iret dX5_readNumber_90 rfl ?_
        exact k2 c20 (by omega)
theorem l_rn1 {lo hi v : Int} (hn : 0 ≤ h 5 1 ∧ h 5 1 ≤ 120) (hp : 0 ≤ h 5 2 ∧ h 5 2 ≤ 121) (hv : 0 ≤ v ∧ v ≤ 9)
    (k3 : (48 ≤ bz_ (h 6) (h 5 1) (h 5 2 + 1) ∧ bz_ (h 6) (h 5 1) (h 5 2 + 1) ≤ 57) → (48 ≤ bz_ (h 6) (h 5 1) (h 5 2 + 2) ∧ bz_ (h 6) (h 5 1) (h 5 2 + 2) ≤ 57) → Post (some (sv_i (-1))) (hs_ h 5 3 1))
    (k2 : (48 ≤ bz_ (h 6) (h 5 1) (h 5 2 + 1) ∧ bz_ (h 6) (h 5 1) (h 5 2 + 1) ≤ 57) → ¬ (48 ≤ bz_ (h 6) (h 5 1) (h 5 2 + 2) ∧ bz_ (h 6) (h 5 1) (h 5 2 + 2) ≤ 57) → (10 * v + bz_ (h 6) (h 5 1) (h 5 2 + 1) - 48 < lo ∨ hi < 10 * v + bz_ (h 6) (h 5 1) (h 5 2 + 1) - 48) → Post (some (sv_i (-1))) (hs_ h 5 3 2))
    (ko2 : (48 ≤ bz_ (h 6) (h 5 1) (h 5 2 + 1) ∧ bz_ (h 6) (h 5 1) (h 5 2 + 1) ≤ 57) → ¬ (48 ≤ bz_ (h 6) (h 5 1) (h 5 2 + 2) ∧ bz_ (h 6) (h 5 1) (h 5 2 + 2) ≤ 57) → ¬ (10 * v + bz_ (h 6) (h 5 1) (h 5 2 + 1) - 48 < lo ∨ hi < 10 * v + bz_ (h 6) (h 5 1) (h 5 2 + 1) - 48) → Post (some (sv_i (10 * v + bz_ (h 6) (h 5 1) (h 5 2 + 1) - 48))) (hs_ h 5 2 (h 5 2 + 2)))
    (k1 : ¬ (48 ≤ bz_ (h 6) (h 5 1) (h 5 2 + 1) ∧ bz_ (h 6) (h 5 1) (h 5 2 + 1) ≤ 57) → (v < lo ∨ hi < v) → Post (some (sv_i (-1))) (hs_ h 5 3 2))
    (ko1 : ¬ (48 ≤ bz_ (h 6) (h 5 1) (h 5 2 + 1) ∧ bz_ (h 6) (h 5 1) (h 5 2 + 1) ≤ 57) → ¬ (v < lo ∨ hi < v) → Post (some (sv_i v)) (hs_ h 5 2 (h 5 2 + 1))) : V_ g (d + 1) mX5_readNumber 5 [some (sv_r 4 4 5), some (sv_i lo), some (sv_i hi), some (sv_i 1), some (sv_i v)] [] h Post := by
  refine vr_iload_n (q := 6) dX5_readNumber_5 rfl rfl ?_
  refine vr_iconst (q := 7) dX5_readNumber_6 rfl ⟨by decide, by decide⟩ ?_
  refine vr_ic_ge (t := 53) (q := 10) dX5_readNumber_7 (by decide) rfl (fun c9 => absurd c9 (by omega)) (fun _ => ?_)
  refine vr_aload_n (q := 11) dX5_readNumber_10 rfl rfl ?_
  refine vr_aload_n (q := 12) dX5_readNumber_11 rfl rfl ?_
  refine vr_getI (ji := 2) (q := 15) dX5_readNumber_12 rfl fX5_17 rfl rfl ?_
  refine vr_iload_n (q := 16) dX5_readNumber_15 rfl rfl ?_
  refine vr_iaddN (q := 17) dX5_readNumber_16 rfl ⟨by omega, by omega⟩ ?_
  refine vr_iv1 (q := 20) dX5_readNumber_17 rfl vX5_68 (Nat.le_of_ble_eq_true rfl) ?_
  refine c_byteAt hn ?_
  refine vr_is1 (q := 23) dX5_readNumber_20 rfl vX5_71 (Nat.le_of_ble_eq_true rfl) ?_
  refine c_isFigure (fun c20 => ?_) (fun c20 => ?_)
  · refine vr_if_eq (t := 53) (q := 26) dX5_readNumber_23 (by decide) rfl (fun c9 => absurd c9 (by omega)) (fun _ => ?_)
    refine vr_bipush (q := 28) dX5_readNumber_26 rfl ⟨by decide, by decide⟩ (by decide) ?_
    refine vr_iload (q := 30) dX5_readNumber_28 rfl rfl ?_
    refine vr_imulN (q := 31) dX5_readNumber_30 rfl ⟨by omega, by omega⟩ ?_
    refine vr_aload_n (q := 32) dX5_readNumber_31 rfl rfl ?_
    refine vr_aload_n (q := 33) dX5_readNumber_32 rfl rfl ?_
    refine vr_getI (ji := 2) (q := 36) dX5_readNumber_33 rfl fX5_17 rfl rfl ?_
    refine vr_iload_n (q := 37) dX5_readNumber_36 rfl rfl ?_
    refine vr_iaddN (q := 38) dX5_readNumber_37 rfl ⟨by omega, by omega⟩ ?_
    refine vr_iv1 (q := 41) dX5_readNumber_38 rfl vX5_68 (Nat.le_of_ble_eq_true rfl) ?_
    refine c_byteAt hn ?_
    refine vr_iaddN (q := 42) dX5_readNumber_41 rfl ⟨by omega, by omega⟩ ?_
    refine vr_bipush (q := 44) dX5_readNumber_42 rfl ⟨by decide, by decide⟩ (by decide) ?_
    refine vr_isubN (q := 45) dX5_readNumber_44 rfl ⟨by omega, by omega⟩ ?_
    refine vr_istore (q := 47) dX5_readNumber_45 rfl (Nat.le_of_ble_eq_true rfl) rfl rfl ?_
    refine vr_iincV (y := 2) (q := 50) dX5_readNumber_47 rfl rfl rfl ⟨by decide, by decide⟩ (Nat.le_of_ble_eq_true rfl) rfl rfl ?_
    refine vr_goto (q := 5) dX5_readNumber_50 (by decide) ?_
    exact l_rn2 hn hp ⟨by omega, by omega⟩ (k3 c20) (k2 c20) (ko2 c20)
  · refine vr_if_eq (t := 53) (q := 26) dX5_readNumber_23 (by decide) rfl (fun _ => ?_) (fun c9 => absurd c9 (by omega))
    refine vr_iload_n (q := 54) dX5_readNumber_53 rfl rfl ?_
    refine vr_iconst (q := 55) dX5_readNumber_54 rfl ⟨by decide, by decide⟩ ?_
    refine vr_ic_lt (t := 63) (q := 58) dX5_readNumber_55 (by decide) rfl (fun c9 => absurd c9 (by omega)) (fun _ => ?_)
    refine vr_iload_n (q := 59) dX5_readNumber_58 rfl rfl ?_
    refine vr_iconst (q := 60) dX5_readNumber_59 rfl ⟨by decide, by decide⟩ ?_
    refine vr_ic_le (t := 71) (q := 63) dX5_readNumber_60 (by decide) rfl (fun _ => ?_) (fun c9 => absurd c9 (by omega))
    refine vr_iload (q := 73) dX5_readNumber_71 rfl rfl ?_
    refine vr_iload_n (q := 74) dX5_readNumber_73 rfl rfl ?_
    refine vr_ic_lt (t := 83) (q := 77) dX5_readNumber_74 (by decide) rfl (fun c74 => ?_) (fun c74 => ?_)
    · refine vr_aload_n (q := 84) dX5_readNumber_83 rfl rfl ?_
      refine vr_iconst (q := 85) dX5_readNumber_84 rfl ⟨by decide, by decide⟩ ?_
      refine vr_iv1 (q := 88) dX5_readNumber_85 rfl vX5_33 (Nat.le_of_ble_eq_true rfl) ?_
      refine c_refuse ?_
      refine vr_pop (q := 89) dX5_readNumber_88 rfl rfl ?_
      refine vr_iconst (q := 90) dX5_readNumber_89 rfl ⟨by decide, by decide⟩ ?_
      refine vr_iret dX5_readNumber_90 rfl ?_
      exact k1 c20 (by omega)
    · refine vr_iload (q := 79) dX5_readNumber_77 rfl rfl ?_
      refine vr_iload_n (q := 80) dX5_readNumber_79 rfl rfl ?_
      refine vr_ic_le (t := 91) (q := 83) dX5_readNumber_80 (by decide) rfl (fun c80 => ?_) (fun c80 => ?_)
      · refine vr_aload_n (q := 92) dX5_readNumber_91 rfl rfl ?_
        refine vr_dup (q := 93) dX5_readNumber_92 rfl rfl ?_
        refine vr_getI (ji := 2) (q := 96) dX5_readNumber_93 rfl fX5_17 rfl rfl ?_
        refine vr_iload_n (q := 97) dX5_readNumber_96 rfl rfl ?_
        refine vr_iaddN (q := 98) dX5_readNumber_97 rfl ⟨by omega, by omega⟩ ?_
        refine vr_put (ji := 2) (q := 101) dX5_readNumber_98 rfl pX5_17 rfl rfl ?_
        refine vr_iload (q := 103) dX5_readNumber_101 rfl rfl ?_
        refine vr_iret dX5_readNumber_103 rfl ?_
        exact ko1 c20 (by omega)
      · refine vr_aload_n (q := 84) dX5_readNumber_83 rfl rfl ?_
        refine vr_iconst (q := 85) dX5_readNumber_84 rfl ⟨by decide, by decide⟩ ?_
        refine vr_iv1 (q := 88) dX5_readNumber_85 rfl vX5_33 (Nat.le_of_ble_eq_true rfl) ?_
        refine c_refuse ?_
        refine vr_pop (q := 89) dX5_readNumber_88 rfl rfl ?_
        refine vr_iconst (q := 90) dX5_readNumber_89 rfl ⟨by decide, by decide⟩ ?_
        refine vr_iret dX5_readNumber_90 rfl ?_
        exact k1 c20 (by omega)
theorem c_readNumber {lo hi : Int} (hn : 0 ≤ h 5 1 ∧ h 5 1 ≤ 120) (hp : 0 ≤ h 5 2 ∧ h 5 2 ≤ 121) (ko : ∀ v p, rn_ (bz_ (h 6) (h 5 1)) (h 5 2) lo hi = .ok (v, p) → Post (some (sv_i v)) (hs_ h 5 2 p)) (kf : ∀ k, rn_ (bz_ (h 6) (h 5 1)) (h 5 2) lo hi = .error (h 5 2, k) → Post (some (sv_i (-1))) (hs_ h 5 3 k)) : Ctr_ g (d + 1) mX5_readNumber [sv_r 4 4 5, sv_i lo, sv_i hi] h Post := by
  unfold rn_ at ko kf
  have e0 : h 5 2 + 0 = h 5 2 := by omega
  refine V_mk (by decide +kernel) (Or.inr (Or.inl ⟨rfl, rfl⟩)) (Nat.le_of_ble_eq_true rfl) (by simp [sv_c]) ?_
  show V_ _ _ _ 0 [_, _, _, _, _] [] _ _
  refine vr_iconst (q := 1) dX5_readNumber_0 rfl ⟨by decide, by decide⟩ ?_
  refine vr_istore_n (q := 2) dX5_readNumber_1 rfl rfl (Nat.le_of_ble_eq_true rfl) rfl rfl ?_
  refine vr_iconst (q := 3) dX5_readNumber_2 rfl ⟨by decide, by decide⟩ ?_
  refine vr_istore (q := 5) dX5_readNumber_3 rfl (Nat.le_of_ble_eq_true rfl) rfl rfl ?_
  refine vr_iload_n (q := 6) dX5_readNumber_5 rfl rfl ?_
  refine vr_iconst (q := 7) dX5_readNumber_6 rfl ⟨by decide, by decide⟩ ?_
  refine vr_ic_ge (t := 53) (q := 10) dX5_readNumber_7 (by decide) rfl (fun c9 => absurd c9 (by omega)) (fun _ => ?_)
  refine vr_aload_n (q := 11) dX5_readNumber_10 rfl rfl ?_
  refine vr_aload_n (q := 12) dX5_readNumber_11 rfl rfl ?_
  refine vr_getI (ji := 2) (q := 15) dX5_readNumber_12 rfl fX5_17 rfl rfl ?_
  refine vr_iload_n (q := 16) dX5_readNumber_15 rfl rfl ?_
  refine vr_iaddN (q := 17) dX5_readNumber_16 rfl ⟨by omega, by omega⟩ ?_
  refine vr_iv1 (q := 20) dX5_readNumber_17 rfl vX5_68 (Nat.le_of_ble_eq_true rfl) ?_
  refine c_byteAt hn ?_
  rw [e0]
  refine vr_is1 (q := 23) dX5_readNumber_20 rfl vX5_71 (Nat.le_of_ble_eq_true rfl) ?_
  refine c_isFigure (fun c20 => ?_) (fun c20 => ?_)
  · refine vr_if_eq (t := 53) (q := 26) dX5_readNumber_23 (by decide) rfl (fun c9 => absurd c9 (by omega)) (fun _ => ?_)
    refine vr_bipush (q := 28) dX5_readNumber_26 rfl ⟨by decide, by decide⟩ (by decide) ?_
    refine vr_iload (q := 30) dX5_readNumber_28 rfl rfl ?_
    refine vr_imulV (z := 0) (q := 31) dX5_readNumber_30 rfl (by decide) ⟨by decide, by decide⟩ ?_
    refine vr_aload_n (q := 32) dX5_readNumber_31 rfl rfl ?_
    refine vr_aload_n (q := 33) dX5_readNumber_32 rfl rfl ?_
    refine vr_getI (ji := 2) (q := 36) dX5_readNumber_33 rfl fX5_17 rfl rfl ?_
    refine vr_iload_n (q := 37) dX5_readNumber_36 rfl rfl ?_
    refine vr_iaddN (q := 38) dX5_readNumber_37 rfl ⟨by omega, by omega⟩ ?_
    refine vr_iv1 (q := 41) dX5_readNumber_38 rfl vX5_68 (Nat.le_of_ble_eq_true rfl) ?_
    refine c_byteAt hn ?_
    rw [e0]
    refine vr_iaddN (q := 42) dX5_readNumber_41 rfl ⟨by omega, by omega⟩ ?_
    refine vr_bipush (q := 44) dX5_readNumber_42 rfl ⟨by decide, by decide⟩ (by decide) ?_
    refine vr_isubN (q := 45) dX5_readNumber_44 rfl ⟨by omega, by omega⟩ ?_
    refine vr_istore (q := 47) dX5_readNumber_45 rfl (Nat.le_of_ble_eq_true rfl) rfl rfl ?_
    rw [show 0 + bz_ (h 6) (h 5 1) (h 5 2) - 48 = bz_ (h 6) (h 5 1) (h 5 2) - 48 by omega]
    refine vr_iincV (y := 1) (q := 50) dX5_readNumber_47 rfl rfl rfl ⟨by decide, by decide⟩ (Nat.le_of_ble_eq_true rfl) rfl rfl ?_
    refine vr_goto (q := 5) dX5_readNumber_50 (by decide) ?_
    refine l_rn1 hn hp ⟨by omega, by omega⟩ (fun a1 a2 => kf 1 ?_) (fun a1 a2 a3 => kf 2 ?_) (fun a1 a2 a3 => ko _ _ ?_) (fun a1 a2 => kf 2 ?_) (fun a1 a2 => ko _ _ ?_)
    · rw [if_neg (fun z => z c20), if_neg (fun z => z a1), if_neg (fun z => z a2)]
    · rw [if_neg (fun z => z c20), if_neg (fun z => z a1), if_pos a2, if_pos a3]
    · rw [if_neg (fun z => z c20), if_neg (fun z => z a1), if_pos a2, if_neg a3]
    · rw [if_neg (fun z => z c20), if_pos a1, if_pos a2]
    · rw [if_neg (fun z => z c20), if_pos a1, if_neg a2]
  · refine vr_if_eq (t := 53) (q := 26) dX5_readNumber_23 (by decide) rfl (fun _ => ?_) (fun c9 => absurd c9 (by omega))
    refine vr_iload_n (q := 54) dX5_readNumber_53 rfl rfl ?_
    refine vr_iconst (q := 55) dX5_readNumber_54 rfl ⟨by decide, by decide⟩ ?_
    refine vr_ic_lt (t := 63) (q := 58) dX5_readNumber_55 (by decide) rfl (fun _ => ?_) (fun c9 => absurd c9 (by omega))
    refine vr_aload_n (q := 64) dX5_readNumber_63 rfl rfl ?_
    refine vr_iconst (q := 65) dX5_readNumber_64 rfl ⟨by decide, by decide⟩ ?_
    refine vr_iv1 (q := 68) dX5_readNumber_65 rfl vX5_33 (Nat.le_of_ble_eq_true rfl) ?_
    refine c_refuse ?_
    refine vr_pop (q := 69) dX5_readNumber_68 rfl rfl ?_
    refine vr_iconst (q := 70) dX5_readNumber_69 rfl ⟨by decide, by decide⟩ ?_
    refine vr_iret dX5_readNumber_70 rfl ?_
    exact kf 1 (if_pos c20)
end PRD_
