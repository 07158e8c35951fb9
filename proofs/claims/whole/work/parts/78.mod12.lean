/-- but for what the reference's foretelling scratches, all is as it was -/
def msc_ (h hc : SH_) : Prop := (∀ a, a ≠ 68 → a ≠ 80 → a ≠ 81 → a ≠ 82 → hc a = h a) ∧ ∀ b, (b < 21 ∨ 27 < b ∨ (23 < b ∧ b < 27)) → hc 68 b = h 68 b
theorem msc_r (h : SH_) : msc_ h h := ⟨fun _ _ _ _ _ => rfl, fun _ _ => rfl⟩
theorem msc_t {h h1 h2 : SH_} (a : msc_ h h1) (b : msc_ h1 h2) : msc_ h h2 := ⟨fun x x1 x2 x3 x4 => (b.1 x x1 x2 x3 x4).trans (a.1 x x1 x2 x3 x4), fun x hx => (b.2 x hx).trans (a.2 x hx)⟩
theorem msc_w {h hc : SH_} {m : MU_} (a : msc_ h hc) : msc_ h (mw_ hc m) := ⟨fun x x1 x2 x3 x4 => (mw_n x1 x2).trans (a.1 x x1 x2 x3 x4), fun x hx => (mw_f (by omega)).trans (a.2 x hx)⟩
theorem msc_s {h hc : SH_} {k b v : Int} (hk : k = 80 ∨ k = 81 ∨ k = 82) (a : msc_ h hc) : msc_ h (hs_ hc k b v) := ⟨fun x x1 x2 x3 x4 => (hs_k (by omega)).trans (a.1 x x1 x2 x3 x4), fun x hx => (congrFun (hs_k (by omega)) x).trans (a.2 x hx)⟩
theorem msc_m {h hc : SH_} {v : Int} (a : msc_ h hc) : msc_ h (hs_ hc 68 27 v) := ⟨fun x x1 x2 x3 x4 => (hs_k x1).trans (a.1 x x1 x2 x3 x4), fun x hx => (hs_n (by omega)).trans (a.2 x hx)⟩
/-- the class's town in p is the reference's in h -/
def cpl_ (p h : SH_) : Prop := to_ p ∧ (h 74 0 = p 7 0 ∧ h 74 1 = p 7 1 ∧ h 74 2 = p 7 2 ∧ h 74 3 = p 7 3) ∧ (∀ l, 0 ≤ l → l < p 7 2 → h 74 (4 + 3 * l) = p 8 l ∧ h 74 (4 + 3 * l + 1) = p 9 l ∧ h 74 (4 + 3 * l + 2) = p 10 l) ∧ (∀ s, 0 ≤ s → s < p 7 3 → h 74 (22 + 4 * s) = p 11 s ∧ h 74 (22 + 4 * s + 1) = p 12 s ∧ h 74 (22 + 4 * s + 2) = p 13 s ∧ h 74 (22 + 4 * s + 3) = p 14 s)
theorem cpl_mt {p h : SH_} (c : cpl_ p h) : mt_ h := by
  obtain ⟨⟨o1, o2, o3, o4, o5⟩, ⟨e0, e1, e2, e3⟩, cl, cs⟩ := c
  unfold mt_
  rw [e0, e2, e3]
  refine ⟨o1, o2, o3, fun l l0 l1 => ?_, fun s s0 s1 => ?_⟩
  · obtain ⟨a1, a2, a3⟩ := cl l l0 l1
    rw [a1, a2, a3]; exact o4 l l0 l1
  · obtain ⟨a1, a2, a3, a4⟩ := cs s s0 s1
    rw [a1, a2, a3, a4]; exact o5 s s0 s1
theorem cn_c {f k : Int → Int} {x : Int} : ∀ n : Nat, (∀ l : Int, 0 ≤ l → l < n → f l = k l) → cn_ f x n = cn_ k x n := by
  intro n
  induction n with
  | zero => intro _; rfl
  | succ n ih =>
    intro hh
    show u4_ (cn_ f x n) (f n) (q4_ (cn_ f x n) (f n) + bt_ x n) = u4_ (cn_ k x n) (k n) (q4_ (cn_ k x n) (k n) + bt_ x n)
    rw [ih (fun l a b => hh l a (by omega)), hh n (by omega) (by omega)]
theorem cpl_en {p h : SH_} {s : Int} (c : cpl_ p h) (hs : 0 ≤ s ∧ s < p 7 3) : mne_ h s = en_ p s := by
  obtain ⟨o, ⟨e0, e1, e2, e3⟩, cl, cs⟩ := c
  obtain ⟨a1, a2, a3, a4⟩ := cs s hs.1 hs.2
  unfold mne_ en_
  rw [a1, a2, a3, a4, e2, cn_c (k := p 10) _ (fun l l0 l1 => (cl l l0 (by omega)).2.2)]
theorem cpl_k {p h hc : SH_} (e : hc 74 = h 74) (c : cpl_ p h) : cpl_ p hc := by
  unfold cpl_ at c ⊢
  rw [e]
  exact c
theorem cpl_m {p h hc : SH_} (a : msc_ h hc) (c : cpl_ p h) : cpl_ p hc := cpl_k (a.1 74 (by decide) (by decide) (by decide) (by decide)) c
theorem cpl_w {p h : SH_} {m : MU_} (c : cpl_ p h) : cpl_ p (mw_ h m) := cpl_k (mw_n (by decide) (by decide)) c
theorem io_0 {x : Int} (hx : sr_32 x) : sb_ior x 0 = x := by
  unfold sb_ior
  rw [show Int32.ofInt 0 = 0 from rfl, Int32.or_zero]
  exact si_t hx
theorem ns_sr (F : TF_) (m : MU_) (s : Int) : ∀ n : Nat, sr_32 (ns_ F m s n) := by
  intro n
  induction n with
  | zero => exact sr_320
  | succ n ih =>
    show sr_32 (if bt_ s n = 0 then ns_ F m s n else if nl_ F m n = 0 then ns_ F m s n else sb_ior (ns_ F m s n) (sb_ishl 1 n))
    split
    · exact ih
    · split
      · exact ih
      · exact sr_32t _
section PM12_
variable {g : SG_} {d : Nat} {h p : SH_} {Post : Option SV_ → SH_ → Prop}
theorem m_wn {l n : Int} (c : cpl_ p h) (hl : 0 ≤ l ∧ l < p 7 2) (hm : mo_ n (mm_ h)) (hn : n ≤ 100) (kk : Post (some (sv_i (nl_ (tf_ p) (mm_ h) l))) h) : Ctr_ g (d + 2) mX9_wouldNod [sv_r 4 8 68, sv_i l] h Post := by
  have o := cpl_mt c
  have a := c.2.2.1 l hl.1 hl.2
  have o1 := c.1.1
  have e : nl_ (mf_ h) (mm_ h) l = nl_ (tf_ p) (mm_ h) l := by
    show nb_ (h 74 (4 + 3 * l)) (h 74 (4 + 3 * l + 1)) (h 74 (4 + 3 * l + 2)) (mm_ h) = nb_ (p 8 l) (p 9 l) (p 10 l) (mm_ h)
    rw [a.1, a.2.1, a.2.2]
  rw [← e] at kk
  refine m_wouldNod (n := n) ⟨by omega, by omega⟩ (o.2.2.2.1 l hl.1 (by rw [c.2.1.2.2.1]; exact hl.2)) hm hn (fun z => ?_) (fun z => ?_)
  · rw [z] at kk; exact kk
  · rw [z] at kk; exact kk
theorem m_hr {l n b : Int} (c : cpl_ p h) (hl : 0 ≤ l ∧ l < p 7 2) (hm : mo_ n (mm_ h)) (hn : n ≤ 100) (kk : Post none (mw_ h (he_ (p 9 l) (p 10 l) b (mm_ h)))) : Ctr_ g d mX9_hears [sv_r 4 8 68, sv_i l, sv_i b] h Post := by
  have o := cpl_mt c
  have a := c.2.2.1 l hl.1 hl.2
  have o1 := c.1.1
  refine m_hears (n := n) ⟨by omega, by omega⟩ (o.2.2.2.1 l hl.1 (by rw [c.2.1.2.2.1]; exact hl.2)) hm hn ?_
  rw [a.2.1, a.2.2]
  exact kk
theorem m_tr {s : Int} (c : cpl_ p h) (hs : 0 ≤ s ∧ s < p 7 3) (kk : Post none (mw_ h (en_ p s))) : Ctr_ g (d + 1) mX9_tries [sv_r 4 8 68, sv_i s] h Post := by
  have o := cpl_mt c
  have o2 := c.1.2.1
  refine m_tries ⟨by omega, by omega⟩ o.1 (fun l a b => (o.2.2.2.1 l a b).2.2) (o.2.2.2.2 s hs.1 (by rw [c.2.1.2.2.2]; exact hs.2)).2.2.1 ?_
  rw [cpl_en c hs]
  exact kk
theorem m_wnW {l n : Int} {m : MU_} (c : cpl_ p h) (hl : 0 ≤ l ∧ l < p 7 2) (hm : mo_ n m) (hn : n ≤ 100) (kk : Post (some (sv_i (nl_ (tf_ p) m l))) (mw_ h m)) : Ctr_ g (d + 2) mX9_wouldNod [sv_r 4 8 68, sv_i l] (mw_ h m) Post := by
  refine m_wn (n := n) (cpl_w c) hl (by rw [mm_mw]; exact hm) hn ?_
  rw [mm_mw]
  exact kk
theorem m_hrW {l n b : Int} {m : MU_} (c : cpl_ p h) (hl : 0 ≤ l ∧ l < p 7 2) (hm : mo_ n m) (hn : n ≤ 100) (kk : Post none (mw_ h (he_ (p 9 l) (p 10 l) b m))) : Ctr_ g d mX9_hears [sv_r 4 8 68, sv_i l, sv_i b] (mw_ h m) Post := by
  refine m_hr (n := n) (cpl_w c) hl (by rw [mm_mw]; exact hm) hn ?_
  rw [mm_mw, mw_mw]
  exact kk
theorem m_trW {s : Int} {m : MU_} (c : cpl_ p h) (hs : 0 ≤ s ∧ s < p 7 3) (kk : Post none (mw_ h (en_ p s))) : Ctr_ g (d + 1) mX9_tries [sv_r 4 8 68, sv_i s] (mw_ h m) Post := by
  refine m_tr (cpl_w c) hs ?_
  rw [mw_mw]
  exact kk
theorem m_ut {s : Int} (c : cpl_ p h) (hs : 0 ≤ s ∧ s < p 7 3) (kk : Post (some (sv_i (ut_ (p 7 2) (p 13 s)))) h) : Ctr_ g d mX9_untold [sv_r 4 8 68, sv_i s] h Post := by
  have o1 := c.1.1
  have o2 := c.1.2.1
  refine m_untold ⟨by omega, by omega⟩ (by rw [c.2.1.2.2.1]; exact o1) ?_
  rw [c.2.1.2.2.1, (c.2.2.2 s hs.1 hs.2).2.2.1]
  exact kk
theorem m_isS {s : Int} (c : cpl_ p h) (kt : (0 ≤ s ∧ s < p 7 3) → Post (some (sv_i 1)) h) (kf : ¬ (0 ≤ s ∧ s < p 7 3) → Post (some (sv_i 0)) h) : Ctr_ g (d + 1) mX9_isStranger [sv_r 4 8 68, sv_i s] h Post := by
  have e3 := c.2.1.2.2.2
  refine m_isStranger (by rw [e3]; exact c.1.2.1) (fun z => ?_) (fun z => ?_)
  · rw [e3] at z; exact kt z
  · rw [e3] at z; exact kf z
theorem m_isL {l : Int} (c : cpl_ p h) (kt : (0 ≤ l ∧ l < p 7 2) → Post (some (sv_i 1)) h) (kf : ¬ (0 ≤ l ∧ l < p 7 2) → Post (some (sv_i 0)) h) : Ctr_ g (d + 1) mX9_isLie [sv_r 4 8 68, sv_i l] h Post := by
  have e3 := c.2.1.2.2.1
  refine m_isLie (by rw [e3]; exact c.1.1) (fun z => ?_) (fun z => ?_)
  · rw [e3] at z; exact kt z
  · rw [e3] at z; exact kf z
theorem m_wt {s l : Int} (c : cpl_ p h) (hs : 0 ≤ s ∧ s < p 7 3) (kt : ¬ bt_ (p 13 s) l = 0 → Post (some (sv_i 1)) h) (kf : bt_ (p 13 s) l = 0 → Post (some (sv_i 0)) h) : Ctr_ g (d + 1) mX9_wasTold [sv_r 4 8 68, sv_i s, sv_i l] h Post := by
  have o2 := c.1.2.1
  have e := (c.2.2.2 s hs.1 hs.2).2.2.1
  refine m_wasTold ⟨by omega, by omega⟩ (fun z => ?_) (fun z => ?_)
  · rw [e] at z; exact kt z
  · rw [e] at z; exact kf z
theorem lm_nods {s : Int} (c : cpl_ p h) (hs : 0 ≤ s ∧ s < p 7 3) {m : MU_} (hm : mo_ 6 m) (kk : Post (some (sv_i (ns_ (tf_ p) m (ut_ (p 7 2) (p 13 s)) (p 7 2).toNat))) (mw_ h m)) : ∀ (k i : Nat), (i : Int) + k = p 7 2 → V_ g (d + 3) mX9_nods 20 [some (sv_r 4 8 68), some (sv_i s), some (sv_i (ns_ (tf_ p) m (ut_ (p 7 2) (p 13 s)) i)), some (sv_i i)] [] (mw_ h m) Post := by
  intro k
  have e2 : mw_ h m 74 2 = p 7 2 := by rw [mw_n (by decide) (by decide)]; exact c.2.1.2.2.1
  have o1 := c.1.1
  induction k with
  | zero =>
    intro i hi
    rw [show (p 7 2).toNat = i by omega] at kk
    refine vr_iload_n (q := 21) dX9_nods_20 rfl rfl ?_
    refine vr_aload_n (q := 22) dX9_nods_21 rfl rfl ?_
    refine vr_getR (q := 25) dX9_nods_22 rfl fX9_25 rfl y_X9_13 (by first | (simp only [Int.reduceAdd]; rfl) | rfl) ?_
    refine vr_iconst (q := 26) dX9_nods_25 rfl ⟨by decide, by decide⟩ ?_
    refine vr_ialdV (q := 27) dX9_nods_26 rfl ⟨by omega, by omega⟩ e2 ?_
    -- at X9.nods 27: .if_icmp .ge 39
    refine vr_ic_ge (t := 66) (q := 30) dX9_nods_27 (by decide) rfl (fun _ => ?_) (fun c9 => absurd c9 (by omega))
    refine vr_iload_n (q := 67) dX9_nods_66 rfl rfl ?_
    refine vr_iret dX9_nods_67 rfl ?_
    first | exact kk | (exfalso; omega) | (repeat (first | exact kk | rw [if_pos (by omega)] at kk | rw [if_neg (by omega)] at kk))
  | succ k ih =>
    intro i hi
    have k2 := ih (i + 1) (by omega)
    have e : ns_ (tf_ p) m (ut_ (p 7 2) (p 13 s)) (i + 1) = if bt_ (ut_ (p 7 2) (p 13 s)) i = 0 then ns_ (tf_ p) m (ut_ (p 7 2) (p 13 s)) i else if nl_ (tf_ p) m i = 0 then ns_ (tf_ p) m (ut_ (p 7 2) (p 13 s)) i else sb_ior (ns_ (tf_ p) m (ut_ (p 7 2) (p 13 s)) i) (sb_ishl 1 i) := rfl
    have z0 := io_0 (ns_sr (tf_ p) m (ut_ (p 7 2) (p 13 s)) i)
    rw [e] at k2
    refine vr_iload_n (q := 21) dX9_nods_20 rfl rfl ?_
    refine vr_aload_n (q := 22) dX9_nods_21 rfl rfl ?_
    refine vr_getR (q := 25) dX9_nods_22 rfl fX9_25 rfl y_X9_13 (by first | (simp only [Int.reduceAdd]; rfl) | rfl) ?_
    refine vr_iconst (q := 26) dX9_nods_25 rfl ⟨by decide, by decide⟩ ?_
    refine vr_ialdV (q := 27) dX9_nods_26 rfl ⟨by omega, by omega⟩ e2 ?_
    -- at X9.nods 27: .if_icmp .ge 39
    refine vr_ic_ge (t := 66) (q := 30) dX9_nods_27 (by decide) rfl (fun c9 => absurd c9 (by omega)) (fun _ => ?_)
    refine vr_iload_n (q := 31) dX9_nods_30 rfl rfl ?_
    refine vr_aload_n (q := 32) dX9_nods_31 rfl rfl ?_
    refine vr_iload_n (q := 33) dX9_nods_32 rfl rfl ?_
    -- at X9.nods 33: .invokevirtual 193
    refine vr_iv1 (q := 36) dX9_nods_33 rfl vX9_193 (Nat.le_of_ble_eq_true rfl) ?_
    refine m_ut (cpl_w c) hs ?_
    refine vr_iload_n (q := 37) dX9_nods_36 rfl rfl ?_
    -- at X9.nods 37: .invokestatic 156
    refine vr_is2 (q := 40) dX9_nods_37 rfl vX9_156 (Nat.le_of_ble_eq_true rfl) ?_
    refine m_has (fun c1 => ?_) (fun c1 => ?_)
    · rw [if_neg c1] at k2
      refine vr_if_eq (t := 57) (q := 43) dX9_nods_40 (by decide) rfl (fun c9 => absurd c9 (by omega)) (fun _ => ?_)
      refine vr_aload_n (q := 44) dX9_nods_43 rfl rfl ?_
      refine vr_iload_n (q := 45) dX9_nods_44 rfl rfl ?_
      -- at X9.nods 45: .invokevirtual 180
      refine vr_iv1 (q := 48) dX9_nods_45 rfl vX9_180 (Nat.le_of_ble_eq_true rfl) ?_
      refine m_wnW (n := 6) c ⟨by omega, by omega⟩ hm (by decide) ?_
      refine vr_if_eq (t := 57) (q := 51) dX9_nods_48 (by decide) rfl (fun c3 => ?_) (fun c3 => ?_)
      · rw [if_pos c3] at k2
        refine vr_iconst (q := 58) dX9_nods_57 rfl ⟨by decide, by decide⟩ ?_
        refine vr_ior (q := 59) dX9_nods_58 rfl ?_
        -- at X9.nods 59: .istore_n 2
        rw [z0]
        refine vr_istore_n (q := 60) dX9_nods_59 rfl rfl (Nat.le_of_ble_eq_true rfl) rfl rfl ?_
        refine vr_iinc (q := 63) dX9_nods_60 rfl rfl ⟨by omega, by omega⟩ (Nat.le_of_ble_eq_true rfl) rfl rfl ?_
        refine vr_goto (q := 20) dX9_nods_63 (by decide) ?_
        -- at X9.nods 20: .iload_n 3
        exact k2
      · rw [if_neg c3] at k2
        refine vr_iconst (q := 52) dX9_nods_51 rfl ⟨by decide, by decide⟩ ?_
        refine vr_iload_n (q := 53) dX9_nods_52 rfl rfl ?_
        refine vr_ishl (q := 54) dX9_nods_53 rfl ?_
        refine vr_goto (q := 58) dX9_nods_54 (by decide) ?_
        refine vr_ior (q := 59) dX9_nods_58 rfl ?_
        refine vr_istore_n (q := 60) dX9_nods_59 rfl rfl (Nat.le_of_ble_eq_true rfl) rfl rfl ?_
        refine vr_iinc (q := 63) dX9_nods_60 rfl rfl ⟨by omega, by omega⟩ (Nat.le_of_ble_eq_true rfl) rfl rfl ?_
        refine vr_goto (q := 20) dX9_nods_63 (by decide) ?_
        -- at X9.nods 20: .iload_n 3
        exact k2
    · rw [if_pos c1] at k2
      refine vr_if_eq (t := 57) (q := 43) dX9_nods_40 (by decide) rfl (fun _ => ?_) (fun c9 => absurd c9 (by omega))
      refine vr_iconst (q := 58) dX9_nods_57 rfl ⟨by decide, by decide⟩ ?_
      refine vr_ior (q := 59) dX9_nods_58 rfl ?_
      -- at X9.nods 59: .istore_n 2
      rw [z0]
      refine vr_istore_n (q := 60) dX9_nods_59 rfl rfl (Nat.le_of_ble_eq_true rfl) rfl rfl ?_
      refine vr_iinc (q := 63) dX9_nods_60 rfl rfl ⟨by omega, by omega⟩ (Nat.le_of_ble_eq_true rfl) rfl rfl ?_
      refine vr_goto (q := 20) dX9_nods_63 (by decide) ?_
      -- at X9.nods 20: .iload_n 3
      exact k2
theorem mx_nods {s : Int} (c : cpl_ p h) (k1 : ¬ (0 ≤ s ∧ s < p 7 3) → Post (some (sv_i (-1000001))) h) (k2 : (0 ≤ s ∧ s < p 7 3) → Post (some (sv_i (ns_ (tf_ p) (en_ p s) (ut_ (p 7 2) (p 13 s)) (p 7 2).toNat))) (mw_ h (en_ p s))) : Ctr_ g (d + 3) mX9_nods [sv_r 4 8 68, sv_i s] h Post := by
  have o1 := c.1.1
  refine V_mk (by decide +kernel) (Or.inr (Or.inl ⟨rfl, rfl⟩)) (Nat.le_of_ble_eq_true rfl) (by simp [sv_c]) ?_
  show V_ _ _ _ 0 [_, _, _, _] [] _ _
  refine vr_aload_n (q := 1) dX9_nods_0 rfl rfl ?_
  refine vr_iload_n (q := 2) dX9_nods_1 rfl rfl ?_
  refine vr_iv1 (q := 5) dX9_nods_2 rfl vX9_163 (Nat.le_of_ble_eq_true rfl) ?_
  refine m_isS c (fun c2 => ?_) (fun c2 => ?_)
  · refine vr_if_ne (t := 11) (q := 8) dX9_nods_5 (by decide) rfl (fun _ => ?_) (fun c9 => absurd c9 (by omega))
    refine vr_aload_n (q := 12) dX9_nods_11 rfl rfl ?_
    refine vr_iload_n (q := 13) dX9_nods_12 rfl rfl ?_
    refine vr_iv1 (q := 16) dX9_nods_13 rfl vX9_176 (Nat.le_of_ble_eq_true rfl) ?_
    refine m_tr c ⟨by omega, by omega⟩ ?_
    refine vr_iconst (q := 17) dX9_nods_16 rfl ⟨by decide, by decide⟩ ?_
    refine vr_istore_n (q := 18) dX9_nods_17 rfl rfl (Nat.le_of_ble_eq_true rfl) rfl rfl ?_
    refine vr_iconst (q := 19) dX9_nods_18 rfl ⟨by decide, by decide⟩ ?_
    refine vr_istore_n (q := 20) dX9_nods_19 rfl rfl (Nat.le_of_ble_eq_true rfl) rfl rfl ?_
    exact lm_nods c ⟨by omega, by omega⟩ (en_mo c.1 ⟨by omega, by omega⟩) (k2 ⟨by omega, by omega⟩) (p 7 2).toNat 0 (by omega)
  · refine vr_if_ne (t := 11) (q := 8) dX9_nods_5 (by decide) rfl (fun c9 => absurd c9 (by omega)) (fun _ => ?_)
    refine vr_ldc (x := -1000001) (q := 10) dX9_nods_8 rfl ⟨by decide, by decide⟩ qX9_67 ?_
    refine vr_iret dX9_nods_10 rfl ?_
    exact k1 (by omega)
end PM12_
