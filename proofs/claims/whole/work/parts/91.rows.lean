/-! rows of lies: what the class looks for among them -/
theorem fn_3 {P : Int → Int → Int → Prop} (h : ∀ s : Fin 64, ∀ l : Fin 6, ∀ a : Fin 6, P ((s : Nat) : Int) ((l : Nat) : Int) ((a : Nat) : Int)) {s l a : Int} (hs : 0 ≤ s ∧ s < 64) (hl : 0 ≤ l ∧ l < 6) (ha : 0 ≤ a ∧ a < 6) : P s l a := by
  have e := h ⟨s.toNat, by omega⟩ ⟨l.toNat, by omega⟩ ⟨a.toNat, by omega⟩
  rw [show (((⟨s.toNat, by omega⟩ : Fin 64) : Nat) : Int) = s from Int.toNat_of_nonneg hs.1, show (((⟨l.toNat, by omega⟩ : Fin 6) : Nat) : Int) = l from Int.toNat_of_nonneg hl.1, show (((⟨a.toNat, by omega⟩ : Fin 6) : Nat) : Int) = a from Int.toNat_of_nonneg ha.1] at e
  exact e
theorem pc_dlc : ∀ s : Fin 64, ∀ l : Fin 6, ∀ a : Fin 1, ¬ bt_ ((s : Nat) : Int) ((l : Nat) : Int) = 0 → pc_ (dl_ ((s : Nat) : Int) ((l : Nat) : Int)) = pc_ ((s : Nat) : Int) - 1 := by decide +kernel
theorem pc_dl {s l : Int} (hs : 0 ≤ s ∧ s < 64) (hl : 0 ≤ l ∧ l < 6) (hb : ¬ bt_ s l = 0) : pc_ (dl_ s l) = pc_ s - 1 := fn_3 (P := fun s l _ => ¬ bt_ s l = 0 → pc_ (dl_ s l) = pc_ s - 1) (fun s l _ => pc_dlc s l 0) hs hl (a := 0) (by decide) hb
theorem bt_dlc : ∀ s : Fin 64, ∀ l : Fin 6, ∀ a : Fin 6, bt_ (dl_ ((s : Nat) : Int) ((l : Nat) : Int)) ((a : Nat) : Int) = if ((a : Nat) : Int) = ((l : Nat) : Int) then 0 else bt_ ((s : Nat) : Int) ((a : Nat) : Int) := by decide +kernel
theorem bt_dl {s l a : Int} (hs : 0 ≤ s ∧ s < 64) (hl : 0 ≤ l ∧ l < 6) (ha : 0 ≤ a ∧ a < 6) : bt_ (dl_ s l) a = if a = l then 0 else bt_ s a := fn_3 (P := fun s l a => bt_ (dl_ s l) a = if a = l then 0 else bt_ s a) bt_dlc hs hl ha
theorem dl_cmc : ∀ s : Fin 64, ∀ l : Fin 6, ∀ a : Fin 6, dl_ (dl_ ((s : Nat) : Int) ((l : Nat) : Int)) ((a : Nat) : Int) = dl_ (dl_ ((s : Nat) : Int) ((a : Nat) : Int)) ((l : Nat) : Int) := by decide +kernel
theorem dl_cm {s l a : Int} (hs : 0 ≤ s ∧ s < 64) (hl : 0 ≤ l ∧ l < 6) (ha : 0 ≤ a ∧ a < 6) : dl_ (dl_ s l) a = dl_ (dl_ s a) l := fn_3 (P := fun s l a => dl_ (dl_ s l) a = dl_ (dl_ s a) l) dl_cmc hs hl ha
theorem bt_orc : ∀ s : Fin 64, ∀ l : Fin 6, ∀ a : Fin 6, bt_ (sb_ior ((s : Nat) : Int) (sb_ishl 1 ((l : Nat) : Int))) ((a : Nat) : Int) = if ((a : Nat) : Int) = ((l : Nat) : Int) then 1 else bt_ ((s : Nat) : Int) ((a : Nat) : Int) := by decide +kernel
theorem bt_or {s l a : Int} (hs : 0 ≤ s ∧ s < 64) (hl : 0 ≤ l ∧ l < 6) (ha : 0 ≤ a ∧ a < 6) : bt_ (sb_ior s (sb_ishl 1 l)) a = if a = l then 1 else bt_ s a := fn_3 (P := fun s l a => bt_ (sb_ior s (sb_ishl 1 l)) a = if a = l then 1 else bt_ s a) bt_orc hs hl ha
theorem or_rc : ∀ s : Fin 64, ∀ l : Fin 6, ∀ a : Fin 1, 0 ≤ sb_ior ((s : Nat) : Int) (sb_ishl 1 ((l : Nat) : Int)) ∧ sb_ior ((s : Nat) : Int) (sb_ishl 1 ((l : Nat) : Int)) < 64 := by decide +kernel
theorem or_r {s l : Int} (hs : 0 ≤ s ∧ s < 64) (hl : 0 ≤ l ∧ l < 6) : 0 ≤ sb_ior s (sb_ishl 1 l) ∧ sb_ior s (sb_ishl 1 l) < 64 := fn_3 (P := fun s l _ => 0 ≤ sb_ior s (sb_ishl 1 l) ∧ sb_ior s (sb_ishl 1 l) < 64) (fun s l _ => or_rc s l 0) hs hl (a := 0) (by decide)
theorem bt_xc : ∀ s : Fin 64, ((s : Nat) : Int) = bt_ ((s : Nat) : Int) 0 + 2 * bt_ ((s : Nat) : Int) 1 + 4 * bt_ ((s : Nat) : Int) 2 + 8 * bt_ ((s : Nat) : Int) 3 + 16 * bt_ ((s : Nat) : Int) 4 + 32 * bt_ ((s : Nat) : Int) 5 := by decide +kernel
theorem bt_x {s : Int} (hs : 0 ≤ s ∧ s < 64) : s = bt_ s 0 + 2 * bt_ s 1 + 4 * bt_ s 2 + 8 * bt_ s 3 + 16 * bt_ s 4 + 32 * bt_ s 5 := fn_3 (P := fun s _ _ => s = bt_ s 0 + 2 * bt_ s 1 + 4 * bt_ s 2 + 8 * bt_ s 3 + 16 * bt_ s 4 + 32 * bt_ s 5) (fun s _ _ => bt_xc s) hs (l := 0) (by decide) (a := 0) (by decide)
theorem bt_ext {s t : Int} (hs : 0 ≤ s ∧ s < 64) (ht : 0 ≤ t ∧ t < 64) (h : ∀ a, 0 ≤ a → a < 6 → bt_ s a = bt_ t a) : s = t := by
  rw [bt_x hs, bt_x ht, h 0 (by decide) (by decide), h 1 (by decide) (by decide), h 2 (by decide) (by decide), h 3 (by decide) (by decide), h 4 (by decide) (by decide), h 5 (by decide) (by decide)]
theorem pc_0c : ∀ s : Fin 64, pc_ ((s : Nat) : Int) = 0 → ((s : Nat) : Int) = 0 := by decide +kernel
theorem pc_0 {s : Int} (hs : 0 ≤ s ∧ s < 64) (h : pc_ s = 0) : s = 0 := fn_3 (P := fun s _ _ => pc_ s = 0 → s = 0) (fun s _ _ => pc_0c s) hs (l := 0) (by decide) (a := 0) (by decide) h
theorem hi_0c : ∀ n : Fin 7, ∀ x : Fin 64, ∀ l : Fin 6, ((x : Nat) : Int) < sb_ishl 1 ((n : Nat) : Int) → (n : Nat) ≤ (l : Nat) → bt_ ((x : Nat) : Int) ((l : Nat) : Int) = 0 := by decide +kernel
/-- a set of lies below n -/
def sbn_ (n : Nat) (s : Int) : Prop := (0 ≤ s ∧ s < 64) ∧ ∀ l : Int, n ≤ l → l < 6 → bt_ s l = 0
theorem hi_0 {n : Nat} {x : Int} (hn : n ≤ 6) (hx : 0 ≤ x) (hl : x < sb_ishl 1 n) : sbn_ n x := by
  have h64 : sb_ishl 1 (n : Int) ≤ 64 := (sh_r ⟨by omega, by omega⟩).2
  refine ⟨⟨hx, by omega⟩, fun l l0 l1 => ?_⟩
  have e := hi_0c ⟨n, by omega⟩ ⟨x.toNat, by omega⟩ ⟨l.toNat, by omega⟩
  rw [show (((⟨x.toNat, by omega⟩ : Fin 64) : Nat) : Int) = x from Int.toNat_of_nonneg hx, show (((⟨l.toNat, by omega⟩ : Fin 6) : Nat) : Int) = l by show (l.toNat : Int) = l; omega] at e
  exact e hl (show n ≤ l.toNat by omega)
theorem sbn_d {n : Nat} {s l : Int} (h : sbn_ n s) (hl : 0 ≤ l ∧ l < 6) : sbn_ n (dl_ s l) := ⟨dl_r h.1 hl, fun a a0 a1 => by
  rw [bt_dl h.1 hl ⟨by omega, a1⟩]
  split
  · rfl
  · exact h.2 a a0 a1⟩
theorem ut_nc : ∀ n : Fin 7, ∀ x : Fin 64, ut_ ((n : Nat) : Int) ((x : Nat) : Int) < sb_ishl 1 ((n : Nat) : Int) := by decide +kernel
theorem sbn_u {n x : Int} (hn : 0 ≤ n ∧ n ≤ 6) (hx : 0 ≤ x ∧ x < 64) : sbn_ n.toNat (ut_ n x) := by
  have e := ut_nc ⟨n.toNat, by omega⟩ ⟨x.toNat, by omega⟩
  rw [show (((⟨n.toNat, by omega⟩ : Fin 7) : Nat) : Int) = n from Int.toNat_of_nonneg hn.1, show (((⟨x.toNat, by omega⟩ : Fin 64) : Nat) : Int) = x from Int.toNat_of_nonneg hx.1] at e
  refine hi_0 (by omega) (ut_r hn hx).1 ?_
  rw [Int.toNat_of_nonneg hn.1]
  exact e
theorem arf_m {f : Int → List (List Int)} {r : List Int} : ∀ (c : Nat) (i : Int), r ∈ arf_ f c i ↔ ∃ a, i ≤ a ∧ a < i + c ∧ r ∈ f a := by
  intro c
  induction c with
  | zero =>
    intro i
    refine ⟨fun h => absurd h (List.not_mem_nil), fun ⟨a, h1, h2, _⟩ => absurd h2 (by omega)⟩
  | succ c ih =>
    intro i
    show r ∈ f i ++ arf_ f c (i + 1) ↔ _
    rw [List.mem_append, ih]
    constructor
    · rintro (h | ⟨a, h1, h2, h3⟩)
      · exact ⟨i, Int.le_refl i, by omega, h⟩
      · exact ⟨a, by omega, by omega, h3⟩
    · rintro ⟨a, h1, h2, h3⟩
      by_cases e : a = i
      · rw [e] at h3; exact Or.inl h3
      · exact Or.inr ⟨a, by omega, by omega, h3⟩
theorem ar_m {n k : Nat} {s : Int} {r : List Int} : r ∈ ar_ n (k + 1) s ↔ ∃ a r2, r = a :: r2 ∧ 0 ≤ a ∧ a < n ∧ ¬ bt_ s a = 0 ∧ r2 ∈ ar_ n k (dl_ s a) := by
  show r ∈ arf_ (fun l => if bt_ s l = 0 then [] else (ar_ n k (dl_ s l)).map (fun r => l :: r)) n 0 ↔ _
  rw [arf_m]
  constructor
  · rintro ⟨a, h1, h2, h3⟩
    by_cases e : bt_ s a = 0
    · rw [if_pos e] at h3
      exact absurd h3 (List.not_mem_nil)
    · rw [if_neg e, List.mem_map] at h3
      obtain ⟨r2, h4, h5⟩ := h3
      exact ⟨a, r2, h5.symm, h1, by omega, e, h4⟩
  · rintro ⟨a, r2, h1, h2, h3, h4, h5⟩
    refine ⟨a, h2, by omega, ?_⟩
    rw [if_neg h4, List.mem_map]
    exact ⟨r2, h5, h1.symm⟩
theorem ar_l {n : Nat} : ∀ (k : Nat) (s : Int) (r : List Int), r ∈ ar_ n k s → r.length = k ∧ ∀ x ∈ r, 0 ≤ x ∧ x < n := by
  intro k
  induction k with
  | zero =>
    intro s r hr
    have e : r = [] := by
      have : r ∈ [([] : List Int)] := hr
      rw [List.mem_singleton] at this
      exact this
    subst e
    exact ⟨rfl, fun x hx => absurd hx (List.not_mem_nil)⟩
  | succ k ih =>
    intro s r hr
    obtain ⟨a, r2, rfl, h2, h3, h4, h5⟩ := ar_m.mp hr
    have z := ih _ _ h5
    refine ⟨by rw [List.length_cons, z.1], fun x hx => ?_⟩
    rcases List.mem_cons.mp hx with rfl | hx
    · exact ⟨h2, h3⟩
    · exact z.2 x hx
theorem arf_c {f k : Int → List (List Int)} : ∀ (c : Nat) (i : Int), (∀ a, i ≤ a → a < i + c → f a = k a) → arf_ f c i = arf_ k c i := by
  intro c
  induction c with
  | zero => intro i _; rfl
  | succ c ih =>
    intro i hh
    show f i ++ arf_ f c (i + 1) = k i ++ arf_ k c (i + 1)
    rw [hh i (Int.le_refl i) (by omega), ih (i + 1) (fun a h1 h2 => hh a (by omega) (by omega))]
theorem arf_p (f : Int → List (List Int)) : ∀ (a b : Nat) (i : Int), (∀ x, i + a ≤ x → x < i + a + b → f x = []) → arf_ f (a + b) i = arf_ f a i := by
  intro a
  induction a with
  | zero =>
    intro b
    induction b with
    | zero => intro i _; rfl
    | succ b ihb =>
      intro i hh
      rw [Nat.zero_add]
      show f i ++ arf_ f b (i + 1) = []
      have z := ihb (i + 1) (fun x h1 h2 => hh x (by omega) (by omega))
      rw [Nat.zero_add] at z
      rw [hh i (by omega) (by omega), z]
      rfl
  | succ a ih =>
    intro b i hh
    rw [show a + 1 + b = (a + b) + 1 by omega]
    show f i ++ arf_ f (a + b) (i + 1) = f i ++ arf_ f a (i + 1)
    rw [ih b (i + 1) (fun x h1 h2 => hh x (by omega) (by omega))]
theorem ar_6 {n : Nat} (hn : n ≤ 6) : ∀ (k : Nat) (s : Int), sbn_ n s → ar_ n k s = ar_ 6 k s := by
  intro k
  induction k with
  | zero => intro s _; rfl
  | succ k ih =>
    intro s hs
    show arf_ (fun l => if bt_ s l = 0 then [] else (ar_ n k (dl_ s l)).map (fun r => l :: r)) n 0 = arf_ (fun l => if bt_ s l = 0 then [] else (ar_ 6 k (dl_ s l)).map (fun r => l :: r)) 6 0
    have e : arf_ (fun l => if bt_ s l = 0 then [] else (ar_ 6 k (dl_ s l)).map (fun r => l :: r)) (n + (6 - n)) 0 = arf_ (fun l => if bt_ s l = 0 then [] else (ar_ 6 k (dl_ s l)).map (fun r => l :: r)) n 0 := arf_p _ n (6 - n) 0 (fun x h1 h2 => by rw [if_pos (hs.2 x (by omega) (by omega))])
    rw [show n + (6 - n) = 6 by omega] at e
    rw [e]
    refine arf_c n 0 (fun a h1 h2 => ?_)
    rw [ih _ (sbn_d hs ⟨h1, by omega⟩)]
/-- the mind behind a row of lies, and how often it nods -/
def ftm_ (F : TF_) : List Int → MU_ → MU_
  | [], m => m
  | l :: r, m => ftm_ F r (hl_ F m l)
def ncn_ (F : TF_) : List Int → MU_ → Int
  | [], _ => 0
  | l :: r, m => nl_ F m l + ncn_ F r (hl_ F m l)
theorem nl_01 (F : TF_) (m : MU_) (l : Int) : nl_ F m l = 0 ∨ nl_ F m l = 1 := nb_01 _ _ _ _
theorem ncn_r (F : TF_) : ∀ (r : List Int) (m : MU_), 0 ≤ ncn_ F r m ∧ ncn_ F r m ≤ r.length := by
  intro r
  induction r with
  | nil => intro m; exact ⟨Int.le_refl 0, Int.le_refl 0⟩
  | cons l r ih =>
    intro m
    have z := ih (hl_ F m l)
    have y := nl_01 F m l
    show 0 ≤ nl_ F m l + ncn_ F r (hl_ F m l) ∧ nl_ F m l + ncn_ F r (hl_ F m l) ≤ ((r.length + 1 : Nat) : Int)
    omega
def obs_ (F : TF_) (m : MU_) (w : Int) (p : List Int) (b : BR_) (r : List Int) : BR_ := if b.2 < w + ncn_ F r m then (p ++ r, w + ncn_ F r m) else b
theorem obs_id {F : TF_} {m : MU_} {w : Int} {p : List Int} : ∀ (L : List (List Int)) (b : BR_), (∀ r ∈ L, ¬ b.2 < w + ncn_ F r m) → L.foldl (obs_ F m w p) b = b := by
  intro L
  induction L with
  | nil => intro b _; rfl
  | cons r L ih =>
    intro b hb
    show L.foldl (obs_ F m w p) (obs_ F m w p b r) = b
    have e : obs_ F m w p b r = b := by
      unfold obs_
      rw [if_neg (hb r (List.mem_cons_self ..))]
    rw [e]
    exact ih b (fun r2 h => hb r2 (List.mem_cons_of_mem _ h))
theorem fo_ar {f : Int → BR_ → BR_} {k : Int → List (List Int)} {O : BR_ → List Int → BR_} : ∀ (c : Nat) (i : Int) (b : BR_), (∀ a b, i ≤ a → a < i + c → f a b = (k a).foldl O b) → fo_ f c i b = (arf_ k c i).foldl O b := by
  intro c
  induction c with
  | zero => intro i b _; rfl
  | succ c ih =>
    intro i b hh
    show fo_ f c (i + 1) (f i b) = (k i ++ arf_ k c (i + 1)).foldl O b
    rw [List.foldl_append, hh i b (Int.le_refl i) (by omega)]
    exact ih (i + 1) _ (fun a b h1 h2 => hh a b (by omega) (by omega))
theorem so_ar (F : TF_) {n : Nat} (hn : n ≤ 6) : ∀ (k : Nat) (m : MU_) (s w : Int) (p : List Int) (b : BR_), (0 ≤ s ∧ s < 64) → pc_ s ≤ k → so_ F n k m s w p b = (ar_ n (pc_ s).toNat s).foldl (obs_ F m w p) b := by
  have z0 : ∀ (m : MU_) (w : Int) (p : List Int) (b : BR_), (if b.2 < w + pc_ 0 then (p, w) else b) = (ar_ n (pc_ 0).toNat 0).foldl (obs_ F m w p) b := by
    intro m w p b
    show (if b.2 < w + 0 then (p, w) else b) = (if b.2 < w + 0 then (p ++ [], w + 0) else b)
    rw [List.append_nil, Int.add_zero]
  intro k
  induction k with
  | zero =>
    intro m s w p b hs hk
    have e : s = 0 := pc_0 hs (by have := pc_r (x := s); omega)
    subst e
    exact z0 m w p b
  | succ k ih =>
    intro m s w p b hs hk
    have hr := pc_r (x := s)
    show (if b.2 < w + pc_ s then (if s = 0 then (p, w) else fo_ (fun l y => if bt_ s l = 0 then y else so_ F n k (hl_ F m l) (dl_ s l) (if nl_ F m l = 0 then w else w + 1) (p ++ [l]) y) n 0 b) else b) = _
    by_cases c1 : b.2 < w + pc_ s
    · rw [if_pos c1]
      by_cases c2 : s = 0
      · subst c2
        rw [if_pos rfl, ← z0, if_pos c1]
      · rw [if_neg c2]
        have hp : ¬ pc_ s = 0 := fun z => c2 (pc_0 hs z)
        obtain ⟨j, hj⟩ : ∃ j, (pc_ s).toNat = j + 1 := ⟨(pc_ s).toNat - 1, by omega⟩
        rw [hj]
        show _ = (arf_ (fun l => if bt_ s l = 0 then [] else (ar_ n j (dl_ s l)).map (fun r => l :: r)) n 0).foldl (obs_ F m w p) b
        refine fo_ar n 0 b (fun l y l0 l1 => ?_)
        by_cases c3 : bt_ s l = 0
        · rw [if_pos c3, if_pos c3]; rfl
        · have hl : 0 ≤ l ∧ l < 6 := ⟨l0, by omega⟩
          have ed := pc_dl hs hl c3
          rw [if_neg c3, if_neg c3, ih _ _ _ _ _ (dl_r hs hl) (by omega), List.foldl_map, ed, show (pc_ s - 1).toNat = j by omega]
          congr 1
          funext b2 r
          unfold obs_
          have en : ncn_ F (l :: r) m = nl_ F m l + ncn_ F r (hl_ F m l) := rfl
          have ew : (if nl_ F m l = 0 then w else w + 1) = w + nl_ F m l := by
            rcases nl_01 F m l with z | z
            · rw [z, if_pos rfl]; omega
            · rw [z, if_neg (by decide)]
          rw [en, ew, List.append_assoc, ← Int.add_assoc]
          rfl
    · rw [if_neg c1, obs_id]
      intro r hr2
      have z := (ar_l _ _ _ hr2).1
      have y := (ncn_r F r m).2
      omega
/-- it nods at a lie behind a row -/
def nzp_ (F : TF_) (lie : Int) (m : MU_) (r : List Int) : Bool := decide (¬ nl_ F (ftm_ F r m) lie = 0)
theorem fl_ar {f : Int → Option (List Int)} {k : Int → List (List Int)} {P : List Int → Bool} : ∀ (c : Nat) (i : Int), (∀ a, i ≤ a → a < i + c → f a = (k a).find? P) → fl_ f c i = (arf_ k c i).find? P := by
  intro c
  induction c with
  | zero => intro i _; rfl
  | succ c ih =>
    intro i hh
    show (match f i with | some r => some r | none => fl_ f c (i + 1)) = (k i ++ arf_ k c (i + 1)).find? P
    rw [List.find?_append, hh i (Int.le_refl i) (by omega), ih (i + 1) (fun a h1 h2 => hh a (by omega) (by omega))]
    cases (k i).find? P with
    | none => rfl
    | some r => rfl
theorem cp_ar (F : TF_) {n : Nat} (lie : Int) : ∀ (k : Nat) (m : MU_) (s : Int), cp_ F n lie k m s = (ar_ n k s).find? (nzp_ F lie m) := by
  intro k
  induction k with
  | zero =>
    intro m s
    show (if nl_ F m lie = 0 then none else some []) = [[]].find? (nzp_ F lie m)
    rw [List.find?_cons]
    by_cases c : nl_ F m lie = 0
    · have e : nzp_ F lie m [] = false := decide_eq_false (fun z => z c)
      rw [if_pos c, e]; rfl
    · have e : nzp_ F lie m [] = true := decide_eq_true c
      rw [if_neg c, e]
  | succ k ih =>
    intro m s
    show fl_ (fun l => if bt_ s l = 0 then none else (cp_ F n lie k (hl_ F m l) (dl_ s l)).map (fun r => l :: r)) n 0 = (arf_ (fun l => if bt_ s l = 0 then [] else (ar_ n k (dl_ s l)).map (fun r => l :: r)) n 0).find? (nzp_ F lie m)
    refine fl_ar n 0 (fun l l0 l1 => ?_)
    by_cases c3 : bt_ s l = 0
    · rw [if_pos c3, if_pos c3]; rfl
    · rw [if_neg c3, if_neg c3, ih, List.find?_map]
      rfl
