/-! which lies are dead: by all orders at once, or lie by lie -/
def exd_ (F : TF_) (n : Nat) (l : Int) : Nat → MU_ → Int → Prop
  | 0, _, _ => False
  | k + 1, m, s => ∃ a : Int, 0 ≤ a ∧ a < n ∧ ¬ bt_ s a = 0 ∧ ((a = l ∧ ¬ nl_ F m a = 0) ∨ exd_ F n l k (hl_ F m a) (dl_ s a))
theorem bt_0c : ∀ l : Fin 6, bt_ 0 ((l : Nat) : Int) = 0 := by decide +kernel
theorem bt_0 {l : Int} (hl : 0 ≤ l ∧ l < 6) : bt_ 0 l = 0 := by
  have e := bt_0c ⟨l.toNat, by omega⟩
  rw [show (((⟨l.toNat, by omega⟩ : Fin 6) : Nat) : Int) = l from Int.toNat_of_nonneg hl.1] at e
  exact e
theorem fd_b {l : Int} (hl : 0 ≤ l ∧ l < 6) {f : Int → Int → Int} {E : Int → Prop} : ∀ (c : Nat) (i x : Int), (∀ a y, i ≤ a → a < i + c → (0 ≤ y ∧ y < 64) → (0 ≤ f a y ∧ f a y < 64) ∧ (bt_ (f a y) l = 0 ↔ bt_ y l = 0 ∨ E a)) → (0 ≤ x ∧ x < 64) → (0 ≤ fd_ f c i x ∧ fd_ f c i x < 64) ∧ (bt_ (fd_ f c i x) l = 0 ↔ bt_ x l = 0 ∨ ∃ a, i ≤ a ∧ a < i + c ∧ E a) := by
  intro c
  induction c with
  | zero =>
    intro i x _ hx
    refine ⟨hx, ⟨fun h => Or.inl h, fun h => ?_⟩⟩
    rcases h with h | ⟨a, h1, h2, _⟩
    · exact h
    · exact absurd h2 (by omega)
  | succ c ih =>
    intro i x hf hx
    show (0 ≤ (if x = 0 then x else fd_ f c (i + 1) (f i x)) ∧ (if x = 0 then x else fd_ f c (i + 1) (f i x)) < 64) ∧ (bt_ (if x = 0 then x else fd_ f c (i + 1) (f i x)) l = 0 ↔ _)
    by_cases c0 : x = 0
    · subst c0
      rw [if_pos rfl]
      exact ⟨hx, ⟨fun h => Or.inl h, fun _ => bt_0 hl⟩⟩
    · rw [if_neg c0]
      have z := hf i x (Int.le_refl i) (by omega) hx
      have y := ih (i + 1) (f i x) (fun a y h1 h2 => hf a y (by omega) (by omega)) z.1
      refine ⟨y.1, ?_⟩
      rw [y.2, z.2]
      constructor
      · rintro ((h | h) | ⟨a, h1, h2, h3⟩)
        · exact Or.inl h
        · exact Or.inr ⟨i, Int.le_refl i, by omega, h⟩
        · exact Or.inr ⟨a, by omega, by omega, h3⟩
      · rintro (h | ⟨a, h1, h2, h3⟩)
        · exact Or.inl (Or.inl h)
        · by_cases e : a = i
          · rw [e] at h3; exact Or.inl (Or.inr h3)
          · exact Or.inr ⟨a, by omega, by omega, h3⟩
theorem df_b (F : TF_) {n : Nat} (hn : n ≤ 6) {l : Int} (hl : 0 ≤ l ∧ l < 6) : ∀ (k : Nat) (m : MU_) (s x : Int), (0 ≤ s ∧ s < 64) → (0 ≤ x ∧ x < 64) → (0 ≤ df_ F n k m s x ∧ df_ F n k m s x < 64) ∧ (bt_ (df_ F n k m s x) l = 0 ↔ bt_ x l = 0 ∨ exd_ F n l k m s) := by
  intro k
  induction k with
  | zero =>
    intro m s x hs hx
    exact ⟨hx, ⟨fun h => Or.inl h, fun h => h.elim id (fun z => False.elim z)⟩⟩
  | succ k ih =>
    intro m s x hs hx
    have z := fd_b hl (f := fun l y => if bt_ s l = 0 then y else df_ F n k (hl_ F m l) (dl_ s l) (if nl_ F m l = 0 then y else dl_ y l)) (E := fun a => ¬ bt_ s a = 0 ∧ ((a = l ∧ ¬ nl_ F m a = 0) ∨ exd_ F n l k (hl_ F m a) (dl_ s a))) n 0 x (fun a y a0 a1 hy => by
      by_cases c0 : bt_ s a = 0
      · rw [if_pos c0]
        exact ⟨hy, ⟨fun h => Or.inl h, fun h => h.elim id (fun w => absurd c0 w.1)⟩⟩
      · rw [if_neg c0]
        have ha : 0 ≤ a ∧ a < 6 := ⟨a0, by omega⟩
        by_cases c1 : nl_ F m a = 0
        · rw [if_pos c1]
          have w := ih (hl_ F m a) (dl_ s a) y (dl_r hs ha) hy
          refine ⟨w.1, ?_⟩
          rw [w.2]
          constructor
          · rintro (h | h)
            · exact Or.inl h
            · exact Or.inr ⟨c0, Or.inr h⟩
          · rintro (h | ⟨_, h | h⟩)
            · exact Or.inl h
            · exact absurd c1 h.2
            · exact Or.inr h
        · rw [if_neg c1]
          have w := ih (hl_ F m a) (dl_ s a) (dl_ y a) (dl_r hs ha) (dl_r hy ha)
          refine ⟨w.1, ?_⟩
          rw [w.2, bt_dl hy ha hl]
          by_cases e : l = a
          · rw [if_pos e]
            exact ⟨fun _ => Or.inr ⟨c0, Or.inl ⟨e.symm, c1⟩⟩, fun _ => Or.inl rfl⟩
          · rw [if_neg e]
            constructor
            · rintro (h | h)
              · exact Or.inl h
              · exact Or.inr ⟨c0, Or.inr h⟩
            · rintro (h | ⟨_, h | h⟩)
              · exact Or.inl h
              · exact absurd h.1.symm e
              · exact Or.inr h) hx
    refine ⟨z.1, ?_⟩
    show bt_ (fd_ (fun l y => if bt_ s l = 0 then y else df_ F n k (hl_ F m l) (dl_ s l) (if nl_ F m l = 0 then y else dl_ y l)) n 0 x) l = 0 ↔ _
    rw [z.2]
    constructor
    · rintro (h | ⟨a, h1, h2, h3, h4⟩)
      · exact Or.inl h
      · exact Or.inr ⟨a, h1, by omega, h3, h4⟩
    · rintro (h | ⟨a, h1, h2, h3, h4⟩)
      · exact Or.inl h
      · exact Or.inr ⟨a, h1, by omega, h3, h4⟩
theorem exd_no (F : TF_) {n : Nat} (hn : n ≤ 6) {l : Int} (hl : 0 ≤ l ∧ l < 6) : ∀ (k : Nat) (m : MU_) (s : Int), (0 ≤ s ∧ s < 64) → bt_ s l = 0 → ¬ exd_ F n l k m s := by
  intro k
  induction k with
  | zero => intro m s _ _ h; exact h
  | succ k ih =>
    rintro m s hs h0 ⟨a, a0, a1, a2, h | h⟩
    · rw [h.1] at a2; exact a2 h0
    · have ha : 0 ≤ a ∧ a < 6 := ⟨a0, by omega⟩
      refine ih _ _ (dl_r hs ha) ?_ h
      rw [bt_dl hs ha hl]
      split
      · rfl
      · exact h0
theorem exd_ar (F : TF_) {n : Nat} (hn : n ≤ 6) {l : Int} (hl : 0 ≤ l ∧ l < n) : ∀ (k : Nat) (m : MU_) (s : Int), (0 ≤ s ∧ s < 64) → ¬ bt_ s l = 0 → (exd_ F n l k m s ↔ ∃ j, j < k ∧ ∃ r ∈ ar_ n j (dl_ s l), ¬ nl_ F (ftm_ F r m) l = 0) := by
  have hl6 : 0 ≤ l ∧ l < 6 := ⟨hl.1, by omega⟩
  intro k
  induction k with
  | zero =>
    intro m s _ _
    exact ⟨fun h => False.elim h, fun ⟨j, hj, _⟩ => absurd hj (by omega)⟩
  | succ k ih =>
    intro m s hs hb
    constructor
    · rintro ⟨a, a0, a1, a2, h | h⟩
      · refine ⟨0, by omega, [], List.mem_singleton.mpr rfl, ?_⟩
        rw [← h.1]
        exact h.2
      · have ha : 0 ≤ a ∧ a < 6 := ⟨a0, by omega⟩
        by_cases e : a = l
        · exfalso
          refine exd_no F hn hl6 k _ _ (dl_r hs ha) ?_ h
          rw [bt_dl hs ha hl6, if_pos e.symm]
        · have hb2 : ¬ bt_ (dl_ s a) l = 0 := by
            rw [bt_dl hs ha hl6, if_neg (fun z => e z.symm)]
            exact hb
          obtain ⟨j, hj, r, hr, hz⟩ := (ih _ _ (dl_r hs ha) hb2).mp h
          refine ⟨j + 1, by omega, a :: r, ar_m.mpr ⟨a, r, rfl, a0, a1, ?_, ?_⟩, hz⟩
          · rw [bt_dl hs hl6 ha, if_neg e]
            exact a2
          · rw [dl_cm hs hl6 ha]
            exact hr
    · rintro ⟨j, hj, r, hr, hz⟩
      cases j with
      | zero =>
        have e : r = [] := List.mem_singleton.mp hr
        subst e
        exact ⟨l, hl.1, hl.2, hb, Or.inl ⟨rfl, hz⟩⟩
      | succ j =>
        obtain ⟨a, r2, rfl, a0, a1, a2, hr2⟩ := ar_m.mp hr
        have ha : 0 ≤ a ∧ a < 6 := ⟨a0, by omega⟩
        have e : ¬ a = l := fun z => by
          rw [bt_dl hs hl6 ha, if_pos z] at a2
          exact a2 rfl
        have a3 : ¬ bt_ s a = 0 := by
          rw [bt_dl hs hl6 ha, if_neg e] at a2
          exact a2
        have hb2 : ¬ bt_ (dl_ s a) l = 0 := by
          rw [bt_dl hs ha hl6, if_neg (fun z => e z.symm)]
          exact hb
        refine ⟨a, a0, a1, a3, Or.inr ((ih _ _ (dl_r hs ha) hb2).mpr ⟨j, by omega, r2, ?_, hz⟩)⟩
        rw [← dl_cm hs hl6 ha]
        exact hr2
theorem ar_pc {n : Nat} (hn : n ≤ 6) : ∀ (k : Nat) (s : Int) (r : List Int), (0 ≤ s ∧ s < 64) → r ∈ ar_ n k s → (k : Int) ≤ pc_ s := by
  intro k
  induction k with
  | zero => intro s r hs _; have := pc_r (x := s); omega
  | succ k ih =>
    intro s r hs hr
    obtain ⟨a, r2, rfl, a0, a1, a2, hr2⟩ := ar_m.mp hr
    have ha : 0 ≤ a ∧ a < 6 := ⟨a0, by omega⟩
    have z := ih _ _ (dl_r hs ha) hr2
    rw [pc_dl hs ha a2] at z
    omega
theorem fa_n {f : Nat → Option (List Int)} : ∀ (c i : Nat), fa_ f c i = none ↔ ∀ k, i ≤ k → k < i + c → f k = none := by
  intro c
  induction c with
  | zero => intro i; exact ⟨fun _ k h1 h2 => absurd h2 (by omega), fun _ => rfl⟩
  | succ c ih =>
    intro i
    show (match f i with | some r => some (i, r) | none => fa_ f c (i + 1)) = none ↔ _
    cases e : f i with
    | some r =>
      refine ⟨fun h => absurd h (by simp), fun h => ?_⟩
      have z := h i (Nat.le_refl i) (by omega)
      rw [e] at z
      exact absurd z (by simp)
    | none =>
      show fa_ f c (i + 1) = none ↔ _
      rw [ih]
      constructor
      · intro h k h1 h2
        by_cases ek : k = i
        · rw [ek]; exact e
        · exact h k (by omega) (by omega)
      · intro h k h1 h2
        exact h k (by omega) (by omega)
theorem fw_n {p : SH_} {s l : Int} (o : to_ p) (hs : 0 ≤ s ∧ s < p 7 3) (hl : 0 ≤ l ∧ l < p 7 2) (hb : ¬ bt_ (ut_ (p 7 2) (p 13 s)) l = 0) : fw_ p s l = none ↔ ¬ exd_ (tf_ p) (p 7 2).toNat l 6 (en_ p s) (ut_ (p 7 2) (p 13 s)) := by
  have o1 := o.1
  have hx13 := (o.2.2.2.2 s hs.1 hs.2).2.2.1
  have hu := ut_r o1 hx13
  have hl6 : 0 ≤ l ∧ l < 6 := ⟨hl.1, by omega⟩
  have hd := dl_r hu hl6
  have hp := pc_r (x := dl_ (ut_ (p 7 2) (p 13 s)) l)
  have hp2 := pc_dl hu hl6 hb
  have hp3 := pc_r (x := ut_ (p 7 2) (p 13 s))
  rw [exd_ar (tf_ p) (n := (p 7 2).toNat) (by omega) (l := l) ⟨hl.1, by omega⟩ 6 (en_ p s) _ hu hb]
  unfold fw_
  rw [fa_n]
  constructor
  · rintro h ⟨j, hj, r, hr, hz⟩
    have z := h j (by omega) (by have := ar_pc (by omega) j _ r hd hr; omega)
    rw [cp_ar, List.find?_eq_none] at z
    exact z r hr (decide_eq_true hz)
  · intro h k k0 k1
    rw [cp_ar, List.find?_eq_none]
    intro r hr hz
    exact h ⟨k, by omega, r, hr, of_decide_eq_true hz⟩
theorem dea_b {p : SH_} {s : Int} (o : to_ p) (hs : 0 ≤ s ∧ s < p 7 3) : ∀ n : Nat, (n : Int) ≤ p 7 2 → (0 ≤ dea_ p s n ∧ dea_ p s n < 64) ∧ ∀ a, 0 ≤ a → a < 6 → (bt_ (dea_ p s n) a = 0 ↔ ¬ (a < n ∧ ¬ bt_ (ut_ (p 7 2) (p 13 s)) a = 0 ∧ fw_ p s a = none)) := by
  have o1 := o.1
  intro n
  induction n with
  | zero =>
    intro _
    refine ⟨⟨Int.le_refl 0, show (0 : Int) < 64 by decide⟩, fun a a0 a1 => ⟨fun _ h => absurd h.1 (by omega), fun _ => bt_0 ⟨a0, a1⟩⟩⟩
  | succ n ih =>
    intro hn
    have z := ih (by omega)
    have hn6 : (0 : Int) ≤ n ∧ (n : Int) < 6 := ⟨by omega, by omega⟩
    show (0 ≤ (if bt_ (ut_ (p 7 2) (p 13 s)) n = 0 then dea_ p s n else if (fw_ p s n).isNone then sb_ior (dea_ p s n) (sb_ishl 1 n) else dea_ p s n) ∧ (if bt_ (ut_ (p 7 2) (p 13 s)) n = 0 then dea_ p s n else if (fw_ p s n).isNone then sb_ior (dea_ p s n) (sb_ishl 1 n) else dea_ p s n) < 64) ∧ ∀ a, 0 ≤ a → a < 6 → (bt_ (if bt_ (ut_ (p 7 2) (p 13 s)) n = 0 then dea_ p s n else if (fw_ p s n).isNone then sb_ior (dea_ p s n) (sb_ishl 1 n) else dea_ p s n) a = 0 ↔ _)
    by_cases c1 : bt_ (ut_ (p 7 2) (p 13 s)) n = 0
    · rw [if_pos c1]
      refine ⟨z.1, fun a a0 a1 => ?_⟩
      rw [z.2 a a0 a1]
      constructor
      · rintro h ⟨h1, h2, h3⟩
        by_cases e : a = n
        · rw [e] at h2; exact h2 c1
        · exact h ⟨by omega, h2, h3⟩
      · rintro h ⟨h1, h2, h3⟩
        exact h ⟨by omega, h2, h3⟩
    · rw [if_neg c1]
      by_cases c2 : fw_ p s n = none
      · rw [if_pos (by rw [c2]; rfl)]
        refine ⟨or_r z.1 hn6, fun a a0 a1 => ?_⟩
        rw [bt_or z.1 hn6 ⟨a0, a1⟩]
        by_cases e : a = n
        · rw [if_pos e]
          refine ⟨fun h => absurd h (by decide), fun h => absurd ⟨by omega, ?_, ?_⟩ h⟩
          · rw [e]; exact c1
          · rw [e]; exact c2
        · rw [if_neg e, z.2 a a0 a1]
          constructor
          · rintro h ⟨h1, h2, h3⟩
            exact h ⟨by omega, h2, h3⟩
          · rintro h ⟨h1, h2, h3⟩
            exact h ⟨by omega, h2, h3⟩
      · rw [if_neg (fun w => c2 (Option.isNone_iff_eq_none.mp w))]
        refine ⟨z.1, fun a a0 a1 => ?_⟩
        rw [z.2 a a0 a1]
        constructor
        · rintro h ⟨h1, h2, h3⟩
          by_cases e : a = n
          · rw [e] at h3; exact c2 h3
          · exact h ⟨by omega, h2, h3⟩
        · rintro h ⟨h1, h2, h3⟩
          exact h ⟨by omega, h2, h3⟩
theorem dd_ea {p : SH_} {s : Int} (o : to_ p) (hs : 0 ≤ s ∧ s < p 7 3) : dea_ p s (p 7 2).toNat = dd_ p s := by
  have o1 := o.1
  have hx13 := (o.2.2.2.2 s hs.1 hs.2).2.2.1
  have hu := ut_r o1 hx13
  have hsb := sbn_u o1 hx13
  have z := dea_b o hs (p 7 2).toNat (by omega)
  have y := fun a (ha : 0 ≤ a ∧ a < 6) => df_b (tf_ p) (n := (p 7 2).toNat) (by omega) ha 6 (en_ p s) (ut_ (p 7 2) (p 13 s)) (ut_ (p 7 2) (p 13 s)) hu hu
  unfold dd_
  refine bt_ext z.1 (y 0 (by decide)).1 (fun a a0 a1 => ?_)
  have z2 := z.2 a a0 a1
  have y2 := (y a ⟨a0, a1⟩).2
  have w1 := bt_01 (dea_ p s (p 7 2).toNat) a
  have w2 := bt_01 (df_ (tf_ p) (p 7 2).toNat 6 (en_ p s) (ut_ (p 7 2) (p 13 s)) (ut_ (p 7 2) (p 13 s))) a
  have key : bt_ (dea_ p s (p 7 2).toNat) a = 0 ↔ bt_ (df_ (tf_ p) (p 7 2).toNat 6 (en_ p s) (ut_ (p 7 2) (p 13 s)) (ut_ (p 7 2) (p 13 s))) a = 0 := by
    rw [z2, y2]
    by_cases cb : bt_ (ut_ (p 7 2) (p 13 s)) a = 0
    · exact ⟨fun _ => Or.inl cb, fun _ h => h.2.1 cb⟩
    · have han : a < p 7 2 := by
        by_cases q : a < p 7 2
        · exact q
        · exact absurd (hsb.2 a (by omega) a1) cb
      have fe := fw_n o hs ⟨a0, han⟩ cb
      constructor
      · intro h
        refine Or.inr ?_
        by_cases q : exd_ (tf_ p) (p 7 2).toNat a 6 (en_ p s) (ut_ (p 7 2) (p 13 s))
        · exact q
        · exact absurd ⟨by omega, cb, fe.mpr q⟩ h
      · rintro (h | h) ⟨h1, h2, h3⟩
        · exact cb h
        · exact fe.mp h3 h
  by_cases q : bt_ (dea_ p s (p 7 2).toNat) a = 0
  · rw [q, key.mp q]
  · have q2 : ¬ bt_ (df_ (tf_ p) (p 7 2).toNat 6 (en_ p s) (ut_ (p 7 2) (p 13 s)) (ut_ (p 7 2) (p 13 s))) a = 0 := fun h => q (key.mpr h)
    omega
theorem mx_dead {g : SG_} {d : Nat} {h p : SH_} {Post : Option SV_ → SH_ → Prop} {s : Int} (c : cpl_ p h) (k1 : ¬ (0 ≤ s ∧ s < p 7 3) → Post (some (sv_i (-1000001))) h) (k2 : (0 ≤ s ∧ s < p 7 3) → ∀ h2, msc_ h h2 → Post (some (sv_i (dd_ p s))) h2) : Ctr_ g (d + 5) mX9_dead [sv_r 4 8 68, sv_i s] h Post := mx_dead0 c k1 (fun q h2 hk => by rw [dd_ea c.1 q]; exact k2 q h2 hk)
