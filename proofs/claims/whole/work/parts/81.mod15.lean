/-- the class's rows in p are the reference's in h -/
def rcp_ (p h : SH_) : Prop := ∀ r, 0 ≤ r → r < 8 → (0 ≤ p 3 r ∧ p 3 r ≤ 40) ∧ (0 ≤ h 70 r ∧ h 70 r ≤ 40) ∧ ((p 2 r = -1 ∧ h 69 r = -1000000) ∨ ((0 ≤ p 2 r ∧ p 2 r ≤ 2) ∧ h 69 r = p 2 r ∧ h 70 r = p 3 r ∧ ∀ i, 0 ≤ i → i < p 3 r → h 71 (40 * r + i) = p 4 (40 * r + i)))
theorem rcp_k {p h hc : SH_} (e1 : hc 69 = h 69) (e2 : hc 70 = h 70) (e3 : hc 71 = h 71) (c : rcp_ p h) : rcp_ p hc := by
  unfold rcp_ at c ⊢
  rw [e1, e2, e3]
  exact c
theorem rcp_m {p h hc : SH_} (a : msc_ h hc) (c : rcp_ p h) : rcp_ p hc := rcp_k (a.1 69 (by decide) (by decide) (by decide) (by decide)) (a.1 70 (by decide) (by decide) (by decide) (by decide)) (a.1 71 (by decide) (by decide) (by decide) (by decide)) c
/-- all that a row tells are lies -/
def rtl_ (p : SH_) (q n : Int) : Prop := ∀ t, 0 ≤ t → t < n → 0 ≤ p 4 (q + 2 * t) ∧ p 4 (q + 2 * t) < p 7 2
section PM15_
variable {g : SG_} {d : Nat} {h p : SH_} {Post : Option SV_ → SH_ → Prop}
theorem lm_wrongIn {r i n : Int} (c : cpl_ p h) (hr : 0 ≤ r ∧ r < 8) (hi : 0 ≤ i ∧ i + 2 * n ≤ 40) (hn : 0 ≤ n ∧ n ≤ 6) (hI : ∀ t, 0 ≤ t → t < n → h 71 (40 * r + i + 2 * t) = p 4 (r * 40 + i + 2 * t)) (k3 : ¬ rtl_ p (r * 40 + i) n → Post (some (sv_i (-1))) h) (k4 : rtl_ p (r * 40 + i) n → Post (some (sv_i 0)) h) : ∀ (m j : Nat) (v : Int), (j : Int) + m = n → ((v = 1 ∧ ∀ t : Int, 0 ≤ t → t < j → 0 ≤ p 4 (r * 40 + i + 2 * t) ∧ p 4 (r * 40 + i + 2 * t) < p 7 2) ∨ (v = 0 ∧ ¬ rtl_ p (r * 40 + i) n)) → V_ g (d + 2) mX9_wrongIn 30 [some (sv_r 4 8 68), some (sv_i r), some (sv_i i), some (sv_i n), some (sv_i v), some (sv_i j)] [] h Post := by
  intro m
  induction m with
  | zero =>
    intro j v hj hv
    have ej : (j : Int) = n := by omega
    refine vr_iload (q := 32) dX9_wrongIn_30 rfl rfl ?_
    refine vr_iload_n (q := 33) dX9_wrongIn_32 rfl rfl ?_
    -- at X9.wrongIn 33: .if_icmp .ge 44
    refine vr_ic_ge (t := 77) (q := 36) dX9_wrongIn_33 (by decide) rfl (fun _ => ?_) (fun c9 => absurd c9 (by omega))
    rcases hv with ⟨rfl, hv⟩ | ⟨rfl, hv⟩
    · rw [ej] at hv
      refine vr_iload (q := 79) dX9_wrongIn_77 rfl rfl ?_
      refine vr_if_eq (t := 86) (q := 82) dX9_wrongIn_79 (by decide) rfl (fun c9 => absurd c9 (by omega)) (fun _ => ?_)
      refine vr_iconst (q := 83) dX9_wrongIn_82 rfl ⟨by decide, by decide⟩ ?_
      refine vr_goto (q := 87) dX9_wrongIn_83 (by decide) ?_
      refine vr_iret dX9_wrongIn_87 rfl ?_
      exact k4 hv
    · refine vr_iload (q := 79) dX9_wrongIn_77 rfl rfl ?_
      refine vr_if_eq (t := 86) (q := 82) dX9_wrongIn_79 (by decide) rfl (fun _ => ?_) (fun c9 => absurd c9 (by omega))
      refine vr_iconst (q := 87) dX9_wrongIn_86 rfl ⟨by decide, by decide⟩ ?_
      refine vr_iret dX9_wrongIn_87 rfl ?_
      exact k3 hv
  | succ m ih =>
    intro j v hj hv
    have e := hI j (by omega) (by omega)
    refine vr_iload (q := 32) dX9_wrongIn_30 rfl rfl ?_
    refine vr_iload_n (q := 33) dX9_wrongIn_32 rfl rfl ?_
    -- at X9.wrongIn 33: .if_icmp .ge 44
    refine vr_ic_ge (t := 77) (q := 36) dX9_wrongIn_33 (by decide) rfl (fun c9 => absurd c9 (by omega)) (fun _ => ?_)
    refine vr_iload (q := 38) dX9_wrongIn_36 rfl rfl ?_
    -- at X9.wrongIn 38: .ifCond .eq 30
    rcases hv with ⟨rfl, hv⟩ | ⟨rfl, hv⟩
    · refine vr_if_eq (t := 68) (q := 41) dX9_wrongIn_38 (by decide) rfl (fun c9 => absurd c9 (by omega)) (fun _ => ?_)
      refine vr_aload_n (q := 42) dX9_wrongIn_41 rfl rfl ?_
      refine vr_aload_n (q := 43) dX9_wrongIn_42 rfl rfl ?_
      refine vr_getR (q := 46) dX9_wrongIn_43 rfl fX9_16 rfl y_X9_2 (by first | (simp only [Int.reduceAdd]; rfl) | rfl) ?_
      refine vr_bipush (q := 48) dX9_wrongIn_46 rfl ⟨by decide, by decide⟩ (by decide) ?_
      refine vr_iload_n (q := 49) dX9_wrongIn_48 rfl rfl ?_
      refine vr_imulN (q := 50) dX9_wrongIn_49 rfl ⟨by omega, by omega⟩ ?_
      refine vr_iload_n (q := 51) dX9_wrongIn_50 rfl rfl ?_
      refine vr_iaddN (q := 52) dX9_wrongIn_51 rfl ⟨by omega, by omega⟩ ?_
      refine vr_iconst (q := 53) dX9_wrongIn_52 rfl ⟨by decide, by decide⟩ ?_
      refine vr_iload (q := 55) dX9_wrongIn_53 rfl rfl ?_
      refine vr_imulN (q := 56) dX9_wrongIn_55 rfl ⟨by omega, by omega⟩ ?_
      refine vr_iaddN (q := 57) dX9_wrongIn_56 rfl ⟨by omega, by omega⟩ ?_
      refine vr_ialdV (q := 58) dX9_wrongIn_57 rfl ⟨by omega, by omega⟩ e ?_
      -- at X9.wrongIn 58: .invokevirtual 166
      refine vr_iv1 (q := 61) dX9_wrongIn_58 rfl vX9_166 (Nat.le_of_ble_eq_true rfl) ?_
      refine m_isL c (fun c1 => ?_) (fun c1 => ?_)
      · refine vr_if_eq (t := 68) (q := 64) dX9_wrongIn_61 (by decide) rfl (fun c9 => absurd c9 (by omega)) (fun _ => ?_)
        refine vr_iconst (q := 65) dX9_wrongIn_64 rfl ⟨by decide, by decide⟩ ?_
        refine vr_goto (q := 69) dX9_wrongIn_65 (by decide) ?_
        refine vr_istore (q := 71) dX9_wrongIn_69 rfl (Nat.le_of_ble_eq_true rfl) rfl rfl ?_
        refine vr_iinc (q := 74) dX9_wrongIn_71 rfl rfl ⟨by omega, by omega⟩ (Nat.le_of_ble_eq_true rfl) rfl rfl ?_
        refine vr_goto (q := 30) dX9_wrongIn_74 (by decide) ?_
        -- at X9.wrongIn 30: .iload 5
        refine ih (j + 1) 1 (by omega) (Or.inl ⟨rfl, fun t t0 t1 => ?_⟩)
        by_cases ht : t = j
        · rw [ht]; exact c1
        · exact hv t t0 (by omega)
      · refine vr_if_eq (t := 68) (q := 64) dX9_wrongIn_61 (by decide) rfl (fun _ => ?_) (fun c9 => absurd c9 (by omega))
        refine vr_iconst (q := 69) dX9_wrongIn_68 rfl ⟨by decide, by decide⟩ ?_
        refine vr_istore (q := 71) dX9_wrongIn_69 rfl (Nat.le_of_ble_eq_true rfl) rfl rfl ?_
        refine vr_iinc (q := 74) dX9_wrongIn_71 rfl rfl ⟨by omega, by omega⟩ (Nat.le_of_ble_eq_true rfl) rfl rfl ?_
        refine vr_goto (q := 30) dX9_wrongIn_74 (by decide) ?_
        -- at X9.wrongIn 30: .iload 5
        exact ih (j + 1) 0 (by omega) (Or.inr ⟨rfl, fun z => c1 (z j (by omega) (by omega))⟩)
    · refine vr_if_eq (t := 68) (q := 41) dX9_wrongIn_38 (by decide) rfl (fun _ => ?_) (fun c9 => absurd c9 (by omega))
      refine vr_iconst (q := 69) dX9_wrongIn_68 rfl ⟨by decide, by decide⟩ ?_
      refine vr_istore (q := 71) dX9_wrongIn_69 rfl (Nat.le_of_ble_eq_true rfl) rfl rfl ?_
      refine vr_iinc (q := 74) dX9_wrongIn_71 rfl rfl ⟨by omega, by omega⟩ (Nat.le_of_ble_eq_true rfl) rfl rfl ?_
      refine vr_goto (q := 30) dX9_wrongIn_74 (by decide) ?_
      -- at X9.wrongIn 30: .iload 5
      exact ih (j + 1) 0 (by omega) (Or.inr ⟨rfl, hv⟩)
theorem m_wrongIn {r i n : Int} (c : cpl_ p h) (rc : rcp_ p h) (hr : 0 ≤ r ∧ r < 8) (hn : 0 ≤ n ∧ n ≤ 6) (k1 : p 2 r = -1 → Post (some (sv_i 1)) h) (k2 : ¬ p 2 r = -1 → ¬ (0 ≤ i ∧ i + 2 * n ≤ p 3 r) → Post (some (sv_i 2)) h) (k3 : ¬ p 2 r = -1 → (0 ≤ i ∧ i + 2 * n ≤ p 3 r) → ¬ rtl_ p (r * 40 + i) n → Post (some (sv_i (-1))) h) (k4 : ¬ p 2 r = -1 → (0 ≤ i ∧ i + 2 * n ≤ p 3 r) → rtl_ p (r * 40 + i) n → Post (some (sv_i 0)) h) : Ctr_ g (d + 2) mX9_wrongIn [sv_r 4 8 68, sv_i r, sv_i i, sv_i n] h Post := by
  obtain ⟨b1, b2, b3⟩ := rc r hr.1 hr.2
  have r30 : ¬ p 2 r = -1 → (0 ≤ i ∧ i + 2 * n ≤ p 3 r) → V_ g (d + 2) mX9_wrongIn 30 [some (sv_r 4 8 68), some (sv_i r), some (sv_i i), some (sv_i n), some (sv_i 1), some (sv_i 0)] [] h Post := by
    intro q1 q2
    refine lm_wrongIn c hr ⟨q2.1, by omega⟩ hn (fun t t0 t1 => ?_) (k3 q1 q2) (k4 q1 q2) n.toNat 0 1 (by omega) (Or.inl ⟨rfl, fun t t0 t1 => absurd t1 (by omega)⟩)
    rcases b3 with z | ⟨z1, z2, z3, z4⟩
    · exact absurd z.1 q1
    · have z5 := z4 (i + 2 * t) (by omega) (by omega)
      rw [show 40 * r + i + 2 * t = 40 * r + (i + 2 * t) by omega, show r * 40 + i + 2 * t = 40 * r + (i + 2 * t) by omega]
      exact z5
  rcases b3 with ⟨z1, z2⟩ | ⟨z1, z2, z3, z4⟩
  · refine V_mk (by decide +kernel) (Or.inr (Or.inl ⟨rfl, rfl⟩)) (Nat.le_of_ble_eq_true rfl) (by simp [sv_c]) ?_
    show V_ _ _ _ 0 [_, _, _, _, _, _] [] _ _
    refine vr_aload_n (q := 1) dX9_wrongIn_0 rfl rfl ?_
    refine vr_iload_n (q := 2) dX9_wrongIn_1 rfl rfl ?_
    -- at X9.wrongIn 2: .invokevirtual 75
    refine vr_iv1 (q := 5) dX9_wrongIn_2 rfl vX9_75 (Nat.le_of_ble_eq_true rfl) ?_
    refine m_isMissing hr (fun q => ?_) (fun q => absurd z2 q)
    refine vr_if_eq (t := 10) (q := 8) dX9_wrongIn_5 (by decide) rfl (fun c9 => absurd c9 (by omega)) (fun _ => ?_)
    refine vr_iconst (q := 9) dX9_wrongIn_8 rfl ⟨by decide, by decide⟩ ?_
    refine vr_iret dX9_wrongIn_9 rfl ?_
    exact k1 z1
  · have z6 : ¬ p 2 r = -1 := by omega
    refine V_mk (by decide +kernel) (Or.inr (Or.inl ⟨rfl, rfl⟩)) (Nat.le_of_ble_eq_true rfl) (by simp [sv_c]) ?_
    show V_ _ _ _ 0 [_, _, _, _, _, _] [] _ _
    refine vr_aload_n (q := 1) dX9_wrongIn_0 rfl rfl ?_
    refine vr_iload_n (q := 2) dX9_wrongIn_1 rfl rfl ?_
    -- at X9.wrongIn 2: .invokevirtual 75
    refine vr_iv1 (q := 5) dX9_wrongIn_2 rfl vX9_75 (Nat.le_of_ble_eq_true rfl) ?_
    refine m_isMissing hr (fun q => absurd q (by omega)) (fun q => ?_)
    refine vr_if_eq (t := 10) (q := 8) dX9_wrongIn_5 (by decide) rfl (fun _ => ?_) (fun c9 => absurd c9 (by omega))
    refine vr_aload_n (q := 11) dX9_wrongIn_10 rfl rfl ?_
    refine vr_iload_n (q := 12) dX9_wrongIn_11 rfl rfl ?_
    refine vr_iload_n (q := 13) dX9_wrongIn_12 rfl rfl ?_
    refine vr_iconst (q := 14) dX9_wrongIn_13 rfl ⟨by decide, by decide⟩ ?_
    refine vr_iload_n (q := 15) dX9_wrongIn_14 rfl rfl ?_
    refine vr_imulN (q := 16) dX9_wrongIn_15 rfl ⟨by omega, by omega⟩ ?_
    refine vr_iv3 (q := 19) dX9_wrongIn_16 rfl vX9_82 (Nat.le_of_ble_eq_true rfl) ?_
    refine m_isPart hr b2 (fun c16 => ?_) (fun c16 => ?_)
    · refine vr_if_ne (t := 24) (q := 22) dX9_wrongIn_19 (by decide) rfl (fun _ => ?_) (fun c9 => absurd c9 (by omega))
      refine vr_iconst (q := 25) dX9_wrongIn_24 rfl ⟨by decide, by decide⟩ ?_
      refine vr_istore (q := 27) dX9_wrongIn_25 rfl (Nat.le_of_ble_eq_true rfl) rfl rfl ?_
      refine vr_iconst (q := 28) dX9_wrongIn_27 rfl ⟨by decide, by decide⟩ ?_
      refine vr_istore (q := 30) dX9_wrongIn_28 rfl (Nat.le_of_ble_eq_true rfl) rfl rfl ?_
      exact r30 z6 (by omega)
    · refine vr_if_ne (t := 24) (q := 22) dX9_wrongIn_19 (by decide) rfl (fun c9 => absurd c9 (by omega)) (fun _ => ?_)
      refine vr_iconst (q := 23) dX9_wrongIn_22 rfl ⟨by decide, by decide⟩ ?_
      refine vr_iret dX9_wrongIn_23 rfl ?_
      exact k2 z6 (by omega)
theorem lm_goesSo {fr n : Int} {L N : Int → Int} (c : cpl_ p h) (hn : 0 ≤ n ∧ n ≤ 6) (hf : 0 ≤ fr ∧ fr + 2 * n ≤ 320) (hI : ∀ t, 0 ≤ t → t < n → h 71 (fr + 2 * t) = L t ∧ h 71 (fr + 2 * t + 1) = N t) (hL : ∀ t, 0 ≤ t → t < n → 0 ≤ L t ∧ L t < p 7 2) : ∀ (k j : Nat) (v : Int) (m : MU_) (o5 o6 : Option SV_), (j : Int) + k = n → (v = 0 ∨ v = 1) → mo_ (6 + j) m → (∀ m2, Post (some (sv_i (if v = 0 then 0 else gs_ (tf_ p) L N k j m))) (mw_ h m2)) → V_ g (d + 3) mX9_goesSo 5 [some (sv_r 4 8 68), some (sv_i fr), some (sv_i n), some (sv_i v), some (sv_i j), o5, o6] [] (mw_ h m) Post := by
  intro k
  induction k with
  | zero =>
    intro j v m o5 o6 hj hv hm kk
    have k2 : Post (some (sv_i v)) (mw_ h m) := by
      rcases hv with rfl | rfl
      · exact kk m
      · exact kk m
    refine vr_iload (q := 7) dX9_goesSo_5 rfl rfl ?_
    refine vr_iload_n (q := 8) dX9_goesSo_7 rfl rfl ?_
    -- at X9.goesSo 8: .if_icmp .ge 74
    refine vr_ic_ge (t := 82) (q := 11) dX9_goesSo_8 (by decide) rfl (fun _ => ?_) (fun c9 => absurd c9 (by omega))
    refine vr_iload_n (q := 83) dX9_goesSo_82 rfl rfl ?_
    -- at X9.goesSo 83: .ireturn
    refine vr_zret dX9_goesSo_83 rfl ?_ ?_
    · exact hv
    · exact k2
  | succ k ih =>
    intro j v m o5 o6 hj hv hm kk
    have e71 : ∀ m, mw_ h m 71 = h 71 := fun m => mw_n (by decide) (by decide)
    have i1 := hI j (by omega) (by omega)
    have l1 := hL j (by omega) (by omega)
    have hlo := c.1.2.2.2.1 (L j) l1.1 l1.2
    have e : gs_ (tf_ p) L N (k + 1) j m = if nl_ (tf_ p) m (L j) = N j then gs_ (tf_ p) L N k (j + 1) (hl_ (tf_ p) m (L j)) else 0 := rfl
    have hm2 : mo_ (6 + ((j + 1 : Nat) : Int)) (hl_ (tf_ p) m (L j)) := by
      have z := he_mo (b := nl_ (tf_ p) m (L j)) hlo hm
      rw [show (6 : Int) + ((j + 1 : Nat) : Int) = 6 + (j : Int) + 1 by omega]
      exact z
    have ih2 := fun v => ih (j + 1) v (hl_ (tf_ p) m (L j))
    unfold hl_ at hm2 ih2
    rw [e] at kk
    unfold hl_ at kk
    refine vr_iload (q := 7) dX9_goesSo_5 rfl rfl ?_
    refine vr_iload_n (q := 8) dX9_goesSo_7 rfl rfl ?_
    -- at X9.goesSo 8: .if_icmp .ge 74
    refine vr_ic_ge (t := 82) (q := 11) dX9_goesSo_8 (by decide) rfl (fun c9 => absurd c9 (by omega)) (fun _ => ?_)
    refine vr_aload_n (q := 12) dX9_goesSo_11 rfl rfl ?_
    refine vr_getR (q := 15) dX9_goesSo_12 rfl fX9_16 rfl y_X9_2 (by first | (simp only [Int.reduceAdd]; rfl) | rfl) ?_
    refine vr_iload_n (q := 16) dX9_goesSo_15 rfl rfl ?_
    refine vr_iconst (q := 17) dX9_goesSo_16 rfl ⟨by decide, by decide⟩ ?_
    refine vr_iload (q := 19) dX9_goesSo_17 rfl rfl ?_
    refine vr_imulN (q := 20) dX9_goesSo_19 rfl ⟨by omega, by omega⟩ ?_
    refine vr_iaddN (q := 21) dX9_goesSo_20 rfl ⟨by omega, by omega⟩ ?_
    refine vr_ialdV (q := 22) dX9_goesSo_21 rfl ⟨by omega, by omega⟩ (show _ = L j by rw [e71]; exact i1.1) ?_
    refine vr_istore (q := 24) dX9_goesSo_22 rfl (Nat.le_of_ble_eq_true rfl) rfl rfl ?_
    refine vr_aload_n (q := 25) dX9_goesSo_24 rfl rfl ?_
    refine vr_iload (q := 27) dX9_goesSo_25 rfl rfl ?_
    -- at X9.goesSo 27: .invokevirtual 180
    refine vr_iv1 (q := 30) dX9_goesSo_27 rfl vX9_180 (Nat.le_of_ble_eq_true rfl) ?_
    refine m_wnW (n := 6 + j) c l1 hm (by omega) ?_
    generalize N j = nj at i1 kk
    rcases nb_01 (p 8 (L j)) (p 9 (L j)) (p 10 (L j)) m with z | z
    · have z2 : nl_ (tf_ p) m (L j) = 0 := z
      rw [z2] at kk hm2 ih2 ⊢
      rcases hv with rfl | rfl
      · rw [if_pos rfl] at kk
        refine vr_istore (q := 32) dX9_goesSo_30 rfl (Nat.le_of_ble_eq_true rfl) rfl rfl ?_
        refine vr_iload_n (q := 33) dX9_goesSo_32 rfl rfl ?_
        refine vr_if_eq (t := 66) (q := 36) dX9_goesSo_33 (by decide) rfl (fun _ => ?_) (fun c9 => absurd c9 (by omega))
        refine vr_iconst (q := 67) dX9_goesSo_66 rfl ⟨by decide, by decide⟩ ?_
        refine vr_istore_n (q := 68) dX9_goesSo_67 rfl rfl (Nat.le_of_ble_eq_true rfl) rfl rfl ?_
        refine vr_aload_n (q := 69) dX9_goesSo_68 rfl rfl ?_
        refine vr_iload (q := 71) dX9_goesSo_69 rfl rfl ?_
        refine vr_iload (q := 73) dX9_goesSo_71 rfl rfl ?_
        refine vr_iv2 (q := 76) dX9_goesSo_73 rfl vX9_183 (Nat.le_of_ble_eq_true rfl) ?_
        refine m_hrW (n := 6 + j) c l1 hm (by omega) ?_
        refine vr_iinc (q := 79) dX9_goesSo_76 rfl rfl ⟨by omega, by omega⟩ (Nat.le_of_ble_eq_true rfl) rfl rfl ?_
        refine vr_goto (q := 5) dX9_goesSo_79 (by decide) ?_
        exact ih2 0 _ _ (by omega) (Or.inl rfl) hm2 kk
      · rw [if_neg (by decide)] at kk
        by_cases cn : nj = 0
        · rw [if_pos cn.symm] at kk
          refine vr_istore (q := 32) dX9_goesSo_30 rfl (Nat.le_of_ble_eq_true rfl) rfl rfl ?_
          refine vr_iload_n (q := 33) dX9_goesSo_32 rfl rfl ?_
          refine vr_if_eq (t := 66) (q := 36) dX9_goesSo_33 (by decide) rfl (fun c9 => absurd c9 (by omega)) (fun _ => ?_)
          refine vr_aload_n (q := 37) dX9_goesSo_36 rfl rfl ?_
          refine vr_getR (q := 40) dX9_goesSo_37 rfl fX9_16 rfl y_X9_2 (by first | (simp only [Int.reduceAdd]; rfl) | rfl) ?_
          refine vr_iload_n (q := 41) dX9_goesSo_40 rfl rfl ?_
          refine vr_iconst (q := 42) dX9_goesSo_41 rfl ⟨by decide, by decide⟩ ?_
          refine vr_iload (q := 44) dX9_goesSo_42 rfl rfl ?_
          refine vr_imulN (q := 45) dX9_goesSo_44 rfl ⟨by omega, by omega⟩ ?_
          refine vr_iaddN (q := 46) dX9_goesSo_45 rfl ⟨by omega, by omega⟩ ?_
          refine vr_iconst (q := 47) dX9_goesSo_46 rfl ⟨by decide, by decide⟩ ?_
          refine vr_iaddN (q := 48) dX9_goesSo_47 rfl ⟨by omega, by omega⟩ ?_
          refine vr_ialdV (q := 49) dX9_goesSo_48 rfl ⟨by omega, by omega⟩ (show _ = nj by rw [e71]; exact i1.2) ?_
          refine vr_iload (q := 51) dX9_goesSo_49 rfl rfl ?_
          refine vr_if_eq (t := 58) (q := 54) dX9_goesSo_51 (by decide) rfl (fun _ => ?_) (fun c9 => absurd c9 (by omega))
          refine vr_iconst (q := 59) dX9_goesSo_58 rfl ⟨by decide, by decide⟩ ?_
          refine vr_ic_ne (t := 66) (q := 62) dX9_goesSo_59 (by decide) rfl (fun c9 => absurd c9 (by omega)) (fun _ => ?_)
          refine vr_iconst (q := 63) dX9_goesSo_62 rfl ⟨by decide, by decide⟩ ?_
          refine vr_goto (q := 67) dX9_goesSo_63 (by decide) ?_
          refine vr_istore_n (q := 68) dX9_goesSo_67 rfl rfl (Nat.le_of_ble_eq_true rfl) rfl rfl ?_
          refine vr_aload_n (q := 69) dX9_goesSo_68 rfl rfl ?_
          refine vr_iload (q := 71) dX9_goesSo_69 rfl rfl ?_
          refine vr_iload (q := 73) dX9_goesSo_71 rfl rfl ?_
          refine vr_iv2 (q := 76) dX9_goesSo_73 rfl vX9_183 (Nat.le_of_ble_eq_true rfl) ?_
          refine m_hrW (n := 6 + j) c l1 hm (by omega) ?_
          refine vr_iinc (q := 79) dX9_goesSo_76 rfl rfl ⟨by omega, by omega⟩ (Nat.le_of_ble_eq_true rfl) rfl rfl ?_
          refine vr_goto (q := 5) dX9_goesSo_79 (by decide) ?_
          exact ih2 1 _ _ (by omega) (Or.inr rfl) hm2 kk
        · rw [if_neg (fun z => cn z.symm)] at kk
          refine vr_istore (q := 32) dX9_goesSo_30 rfl (Nat.le_of_ble_eq_true rfl) rfl rfl ?_
          refine vr_iload_n (q := 33) dX9_goesSo_32 rfl rfl ?_
          refine vr_if_eq (t := 66) (q := 36) dX9_goesSo_33 (by decide) rfl (fun c9 => absurd c9 (by omega)) (fun _ => ?_)
          refine vr_aload_n (q := 37) dX9_goesSo_36 rfl rfl ?_
          refine vr_getR (q := 40) dX9_goesSo_37 rfl fX9_16 rfl y_X9_2 (by first | (simp only [Int.reduceAdd]; rfl) | rfl) ?_
          refine vr_iload_n (q := 41) dX9_goesSo_40 rfl rfl ?_
          refine vr_iconst (q := 42) dX9_goesSo_41 rfl ⟨by decide, by decide⟩ ?_
          refine vr_iload (q := 44) dX9_goesSo_42 rfl rfl ?_
          refine vr_imulN (q := 45) dX9_goesSo_44 rfl ⟨by omega, by omega⟩ ?_
          refine vr_iaddN (q := 46) dX9_goesSo_45 rfl ⟨by omega, by omega⟩ ?_
          refine vr_iconst (q := 47) dX9_goesSo_46 rfl ⟨by decide, by decide⟩ ?_
          refine vr_iaddN (q := 48) dX9_goesSo_47 rfl ⟨by omega, by omega⟩ ?_
          refine vr_ialdV (q := 49) dX9_goesSo_48 rfl ⟨by omega, by omega⟩ (show _ = nj by rw [e71]; exact i1.2) ?_
          refine vr_iload (q := 51) dX9_goesSo_49 rfl rfl ?_
          refine vr_if_eq (t := 58) (q := 54) dX9_goesSo_51 (by decide) rfl (fun _ => ?_) (fun c9 => absurd c9 (by omega))
          refine vr_iconst (q := 59) dX9_goesSo_58 rfl ⟨by decide, by decide⟩ ?_
          refine vr_ic_ne (t := 66) (q := 62) dX9_goesSo_59 (by decide) rfl (fun _ => ?_) (fun c9 => absurd c9 (by omega))
          refine vr_iconst (q := 67) dX9_goesSo_66 rfl ⟨by decide, by decide⟩ ?_
          refine vr_istore_n (q := 68) dX9_goesSo_67 rfl rfl (Nat.le_of_ble_eq_true rfl) rfl rfl ?_
          refine vr_aload_n (q := 69) dX9_goesSo_68 rfl rfl ?_
          refine vr_iload (q := 71) dX9_goesSo_69 rfl rfl ?_
          refine vr_iload (q := 73) dX9_goesSo_71 rfl rfl ?_
          refine vr_iv2 (q := 76) dX9_goesSo_73 rfl vX9_183 (Nat.le_of_ble_eq_true rfl) ?_
          refine m_hrW (n := 6 + j) c l1 hm (by omega) ?_
          refine vr_iinc (q := 79) dX9_goesSo_76 rfl rfl ⟨by omega, by omega⟩ (Nat.le_of_ble_eq_true rfl) rfl rfl ?_
          refine vr_goto (q := 5) dX9_goesSo_79 (by decide) ?_
          exact ih2 0 _ _ (by omega) (Or.inl rfl) hm2 kk
    · have z2 : nl_ (tf_ p) m (L j) = 1 := z
      rw [z2] at kk hm2 ih2 ⊢
      rcases hv with rfl | rfl
      · rw [if_pos rfl] at kk
        refine vr_istore (q := 32) dX9_goesSo_30 rfl (Nat.le_of_ble_eq_true rfl) rfl rfl ?_
        refine vr_iload_n (q := 33) dX9_goesSo_32 rfl rfl ?_
        refine vr_if_eq (t := 66) (q := 36) dX9_goesSo_33 (by decide) rfl (fun _ => ?_) (fun c9 => absurd c9 (by omega))
        refine vr_iconst (q := 67) dX9_goesSo_66 rfl ⟨by decide, by decide⟩ ?_
        refine vr_istore_n (q := 68) dX9_goesSo_67 rfl rfl (Nat.le_of_ble_eq_true rfl) rfl rfl ?_
        refine vr_aload_n (q := 69) dX9_goesSo_68 rfl rfl ?_
        refine vr_iload (q := 71) dX9_goesSo_69 rfl rfl ?_
        refine vr_iload (q := 73) dX9_goesSo_71 rfl rfl ?_
        refine vr_iv2 (q := 76) dX9_goesSo_73 rfl vX9_183 (Nat.le_of_ble_eq_true rfl) ?_
        refine m_hrW (n := 6 + j) c l1 hm (by omega) ?_
        refine vr_iinc (q := 79) dX9_goesSo_76 rfl rfl ⟨by omega, by omega⟩ (Nat.le_of_ble_eq_true rfl) rfl rfl ?_
        refine vr_goto (q := 5) dX9_goesSo_79 (by decide) ?_
        exact ih2 0 _ _ (by omega) (Or.inl rfl) hm2 kk
      · rw [if_neg (by decide)] at kk
        by_cases cn : nj = 1
        · rw [if_pos cn.symm] at kk
          refine vr_istore (q := 32) dX9_goesSo_30 rfl (Nat.le_of_ble_eq_true rfl) rfl rfl ?_
          refine vr_iload_n (q := 33) dX9_goesSo_32 rfl rfl ?_
          refine vr_if_eq (t := 66) (q := 36) dX9_goesSo_33 (by decide) rfl (fun c9 => absurd c9 (by omega)) (fun _ => ?_)
          refine vr_aload_n (q := 37) dX9_goesSo_36 rfl rfl ?_
          refine vr_getR (q := 40) dX9_goesSo_37 rfl fX9_16 rfl y_X9_2 (by first | (simp only [Int.reduceAdd]; rfl) | rfl) ?_
          refine vr_iload_n (q := 41) dX9_goesSo_40 rfl rfl ?_
          refine vr_iconst (q := 42) dX9_goesSo_41 rfl ⟨by decide, by decide⟩ ?_
          refine vr_iload (q := 44) dX9_goesSo_42 rfl rfl ?_
          refine vr_imulN (q := 45) dX9_goesSo_44 rfl ⟨by omega, by omega⟩ ?_
          refine vr_iaddN (q := 46) dX9_goesSo_45 rfl ⟨by omega, by omega⟩ ?_
          refine vr_iconst (q := 47) dX9_goesSo_46 rfl ⟨by decide, by decide⟩ ?_
          refine vr_iaddN (q := 48) dX9_goesSo_47 rfl ⟨by omega, by omega⟩ ?_
          refine vr_ialdV (q := 49) dX9_goesSo_48 rfl ⟨by omega, by omega⟩ (show _ = nj by rw [e71]; exact i1.2) ?_
          refine vr_iload (q := 51) dX9_goesSo_49 rfl rfl ?_
          refine vr_if_eq (t := 58) (q := 54) dX9_goesSo_51 (by decide) rfl (fun c9 => absurd c9 (by omega)) (fun _ => ?_)
          refine vr_iconst (q := 55) dX9_goesSo_54 rfl ⟨by decide, by decide⟩ ?_
          refine vr_goto (q := 59) dX9_goesSo_55 (by decide) ?_
          refine vr_ic_ne (t := 66) (q := 62) dX9_goesSo_59 (by decide) rfl (fun c9 => absurd c9 (by omega)) (fun _ => ?_)
          refine vr_iconst (q := 63) dX9_goesSo_62 rfl ⟨by decide, by decide⟩ ?_
          refine vr_goto (q := 67) dX9_goesSo_63 (by decide) ?_
          refine vr_istore_n (q := 68) dX9_goesSo_67 rfl rfl (Nat.le_of_ble_eq_true rfl) rfl rfl ?_
          refine vr_aload_n (q := 69) dX9_goesSo_68 rfl rfl ?_
          refine vr_iload (q := 71) dX9_goesSo_69 rfl rfl ?_
          refine vr_iload (q := 73) dX9_goesSo_71 rfl rfl ?_
          refine vr_iv2 (q := 76) dX9_goesSo_73 rfl vX9_183 (Nat.le_of_ble_eq_true rfl) ?_
          refine m_hrW (n := 6 + j) c l1 hm (by omega) ?_
          refine vr_iinc (q := 79) dX9_goesSo_76 rfl rfl ⟨by omega, by omega⟩ (Nat.le_of_ble_eq_true rfl) rfl rfl ?_
          refine vr_goto (q := 5) dX9_goesSo_79 (by decide) ?_
          exact ih2 1 _ _ (by omega) (Or.inr rfl) hm2 kk
        · rw [if_neg (fun z => cn z.symm)] at kk
          refine vr_istore (q := 32) dX9_goesSo_30 rfl (Nat.le_of_ble_eq_true rfl) rfl rfl ?_
          refine vr_iload_n (q := 33) dX9_goesSo_32 rfl rfl ?_
          refine vr_if_eq (t := 66) (q := 36) dX9_goesSo_33 (by decide) rfl (fun c9 => absurd c9 (by omega)) (fun _ => ?_)
          refine vr_aload_n (q := 37) dX9_goesSo_36 rfl rfl ?_
          refine vr_getR (q := 40) dX9_goesSo_37 rfl fX9_16 rfl y_X9_2 (by first | (simp only [Int.reduceAdd]; rfl) | rfl) ?_
          refine vr_iload_n (q := 41) dX9_goesSo_40 rfl rfl ?_
          refine vr_iconst (q := 42) dX9_goesSo_41 rfl ⟨by decide, by decide⟩ ?_
          refine vr_iload (q := 44) dX9_goesSo_42 rfl rfl ?_
          refine vr_imulN (q := 45) dX9_goesSo_44 rfl ⟨by omega, by omega⟩ ?_
          refine vr_iaddN (q := 46) dX9_goesSo_45 rfl ⟨by omega, by omega⟩ ?_
          refine vr_iconst (q := 47) dX9_goesSo_46 rfl ⟨by decide, by decide⟩ ?_
          refine vr_iaddN (q := 48) dX9_goesSo_47 rfl ⟨by omega, by omega⟩ ?_
          refine vr_ialdV (q := 49) dX9_goesSo_48 rfl ⟨by omega, by omega⟩ (show _ = nj by rw [e71]; exact i1.2) ?_
          refine vr_iload (q := 51) dX9_goesSo_49 rfl rfl ?_
          refine vr_if_eq (t := 58) (q := 54) dX9_goesSo_51 (by decide) rfl (fun c9 => absurd c9 (by omega)) (fun _ => ?_)
          refine vr_iconst (q := 55) dX9_goesSo_54 rfl ⟨by decide, by decide⟩ ?_
          refine vr_goto (q := 59) dX9_goesSo_55 (by decide) ?_
          refine vr_ic_ne (t := 66) (q := 62) dX9_goesSo_59 (by decide) rfl (fun _ => ?_) (fun c9 => absurd c9 (by omega))
          refine vr_iconst (q := 67) dX9_goesSo_66 rfl ⟨by decide, by decide⟩ ?_
          refine vr_istore_n (q := 68) dX9_goesSo_67 rfl rfl (Nat.le_of_ble_eq_true rfl) rfl rfl ?_
          refine vr_aload_n (q := 69) dX9_goesSo_68 rfl rfl ?_
          refine vr_iload (q := 71) dX9_goesSo_69 rfl rfl ?_
          refine vr_iload (q := 73) dX9_goesSo_71 rfl rfl ?_
          refine vr_iv2 (q := 76) dX9_goesSo_73 rfl vX9_183 (Nat.le_of_ble_eq_true rfl) ?_
          refine m_hrW (n := 6 + j) c l1 hm (by omega) ?_
          refine vr_iinc (q := 79) dX9_goesSo_76 rfl rfl ⟨by omega, by omega⟩ (Nat.le_of_ble_eq_true rfl) rfl rfl ?_
          refine vr_goto (q := 5) dX9_goesSo_79 (by decide) ?_
          exact ih2 0 _ _ (by omega) (Or.inl rfl) hm2 kk
/-- a row that stands, from i on -/
theorem rcp_i {r i n : Int} (rc : rcp_ p h) (hr : 0 ≤ r ∧ r < 8) (q1 : ¬ p 2 r = -1) (q2 : 0 ≤ i ∧ i + 2 * n ≤ p 3 r) : ∀ t, 0 ≤ t → t < n → h 71 (40 * r + i + 2 * t) = p 4 (r * 40 + i + 2 * t) ∧ h 71 (40 * r + i + 2 * t + 1) = p 4 (r * 40 + i + 2 * t + 1) := by
  obtain ⟨b1, b2, b3⟩ := rc r hr.1 hr.2
  intro t t0 t1
  rcases b3 with z | ⟨z1, z2, z3, z4⟩
  · exact absurd z.1 q1
  · have z5 := z4 (i + 2 * t) (by omega) (by omega)
    have z6 := z4 (i + 2 * t + 1) (by omega) (by omega)
    rw [show 40 * r + i + 2 * t = 40 * r + (i + 2 * t) by omega, show r * 40 + i + 2 * t = 40 * r + (i + 2 * t) by omega, show 40 * r + (i + 2 * t) + 1 = 40 * r + (i + 2 * t + 1) by omega]
    exact ⟨z5, z6⟩
theorem m_goesSo {r i n : Int} {m : MU_} (c : cpl_ p h) (rc : rcp_ p h) (hr : 0 ≤ r ∧ r < 8) (hn : 0 ≤ n ∧ n ≤ 6) (q1 : ¬ p 2 r = -1) (q2 : 0 ≤ i ∧ i + 2 * n ≤ p 3 r) (q3 : rtl_ p (r * 40 + i) n) (hm : mo_ 6 m) (kk : ∀ m2, Post (some (sv_i (go_ p (r * 40 + i) n m))) (mw_ h m2)) : Ctr_ g (d + 3) mX9_goesSo [sv_r 4 8 68, sv_i (40 * r + i), sv_i n] (mw_ h m) Post := by
  have b1 := (rc r hr.1 hr.2).1
  refine V_mk (by decide +kernel) (Or.inr (Or.inr (Or.inl ⟨rfl, rfl⟩))) (Nat.le_of_ble_eq_true rfl) (by simp [sv_c]) ?_
  show V_ _ _ _ 0 [_, _, _, _, _, _, _] [] _ _
  refine vr_iconst (q := 1) dX9_goesSo_0 rfl ⟨by decide, by decide⟩ ?_
  refine vr_istore_n (q := 2) dX9_goesSo_1 rfl rfl (Nat.le_of_ble_eq_true rfl) rfl rfl ?_
  refine vr_iconst (q := 3) dX9_goesSo_2 rfl ⟨by decide, by decide⟩ ?_
  refine vr_istore (q := 5) dX9_goesSo_3 rfl (Nat.le_of_ble_eq_true rfl) rfl rfl ?_
  -- at X9.goesSo 5: .iload 4
  exact lm_goesSo (L := fun t => p 4 (r * 40 + i + 2 * t)) (N := fun t => p 4 (r * 40 + i + 2 * t + 1)) c hn ⟨by omega, by omega⟩ (rcp_i rc hr q1 q2) q3 n.toNat 0 1 m _ _ (by omega) (Or.inr rfl) hm kk
end PM15_
