section PM_
variable {g : SG_} {d : Nat} {h : SH_} {Post : Option SV_ → SH_ → Prop}
theorem c_max {x y : Int} (k : Post (some (sv_i (if x < y then y else x))) h) : Ctr_ g d mJ9_max_7cf53 [sv_i x, sv_i y] h Post := by
  refine V_mk (by decide) (Or.inr (Or.inl ⟨rfl, rfl⟩)) (Nat.le_of_ble_eq_true rfl) (by simp [sv_c]) ?_
  show V_ _ _ _ 0 [_, _] [] _ _
  refine vr_iload_n (q := 1) dJ9_max_7cf53_0 rfl rfl ?_
  refine vr_iload_n (q := 2) dJ9_max_7cf53_1 rfl rfl ?_
  -- at J9.max 2: .if_icmp .lt 7
  refine vr_ic_lt (t := 9) (q := 5) dJ9_max_7cf53_2 (by decide) rfl (fun c1 => ?_) (fun c1 => ?_)
  · refine vr_iload_n (q := 10) dJ9_max_7cf53_9 rfl rfl ?_
    -- at J9.max 10: .ireturn
    refine vr_iret dJ9_max_7cf53_10 rfl ?_
    rw [if_pos c1] at k
    exact k
  · refine vr_iload_n (q := 6) dJ9_max_7cf53_5 rfl rfl ?_
    refine vr_goto (q := 10) dJ9_max_7cf53_6 (by decide) ?_
    -- at J9.max 10: .ireturn
    refine vr_iret dJ9_max_7cf53_10 rfl ?_
    rw [if_neg c1] at k
    exact k
theorem c_min {x y : Int} (k : Post (some (sv_i (if y < x then y else x))) h) : Ctr_ g d mJ9_min_7cf53 [sv_i x, sv_i y] h Post := by
  refine V_mk (by decide) (Or.inr (Or.inl ⟨rfl, rfl⟩)) (Nat.le_of_ble_eq_true rfl) (by simp [sv_c]) ?_
  show V_ _ _ _ 0 [_, _] [] _ _
  refine vr_iload_n (q := 1) dJ9_min_7cf53_0 rfl rfl ?_
  refine vr_iload_n (q := 2) dJ9_min_7cf53_1 rfl rfl ?_
  -- at J9.min 2: .if_icmp .gt 7
  refine vr_ic_gt (t := 9) (q := 5) dJ9_min_7cf53_2 (by decide) rfl (fun c1 => ?_) (fun c1 => ?_)
  · refine vr_iload_n (q := 10) dJ9_min_7cf53_9 rfl rfl ?_
    -- at J9.min 10: .ireturn
    refine vr_iret dJ9_min_7cf53_10 rfl ?_
    rw [if_pos c1] at k
    exact k
  · refine vr_iload_n (q := 6) dJ9_min_7cf53_5 rfl rfl ?_
    refine vr_goto (q := 10) dJ9_min_7cf53_6 (by decide) ?_
    -- at J9.min 10: .ireturn
    refine vr_iret dJ9_min_7cf53_10 rfl ?_
    rw [if_neg c1] at k
    exact k
theorem c_proofNeed {w n : Int} (hw : 0 ≤ w ∧ w ≤ 20) (k : Post (some (sv_i (if 0 < n then 0 else 20 + w))) h) : Ctr_ g d mX4_proofNeed [sv_i w, sv_i n] h Post := by
  refine V_mk (by decide) (Or.inr (Or.inl ⟨rfl, rfl⟩)) (Nat.le_of_ble_eq_true rfl) (by simp [sv_c]) ?_
  show V_ _ _ _ 0 [_, _] [] _ _
  refine vr_iload_n (q := 1) dX4_proofNeed_0 rfl rfl ?_
  -- at X4.proofNeed 1: .ifCond .le 7
  refine vr_if_le (t := 8) (q := 4) dX4_proofNeed_1 (by decide) rfl (fun c1 => ?_) (fun c1 => ?_)
  · refine vr_bipush (q := 10) dX4_proofNeed_8 rfl ⟨by decide, by decide⟩ (by decide) ?_
    refine vr_iload_n (q := 11) dX4_proofNeed_10 rfl rfl ?_
    refine vr_iaddN (q := 12) dX4_proofNeed_11 rfl ⟨by omega, by omega⟩ ?_
    -- at X4.proofNeed 12: .ireturn
    refine vr_iret dX4_proofNeed_12 rfl ?_
    rw [if_neg (by omega)] at k
    exact k
  · refine vr_iconst (q := 5) dX4_proofNeed_4 rfl ⟨by decide, by decide⟩ ?_
    refine vr_goto (q := 12) dX4_proofNeed_5 (by decide) ?_
    -- at X4.proofNeed 12: .ireturn
    refine vr_iret dX4_proofNeed_12 rfl ?_
    rw [if_pos (by omega)] at k
    exact k
end PM_
