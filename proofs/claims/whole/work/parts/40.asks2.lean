theorem lt_7 (h : SH_) (b : Int) : lt_ h b 7 = h 7 := lt_k (by decide) (by decide)
theorem lt_8 (h : SH_) (b : Int) : lt_ h b 8 = h 8 := lt_k (by decide) (by decide)
theorem lt_9 (h : SH_) (b : Int) : lt_ h b 9 = h 9 := lt_k (by decide) (by decide)
theorem lt_14 (h : SH_) (b : Int) : lt_ h b 14 = h 14 := lt_k (by decide) (by decide)
/-- what an ask of a lie may look at -/
def ao_ (h : SH_) (l : Int) : Prop := (0 ≤ l ∧ l < 6) ∧ (1 ≤ h 9 l ∧ h 9 l ≤ 20) ∧ (0 ≤ h 7 3 ∧ h 7 3 ≤ 4) ∧ (0 ≤ h 66 1 ∧ h 66 1 ≤ 16)
theorem ao_l {h : SH_} {l b : Int} (o : ao_ h l) : ao_ (lt_ h b) l := by
  obtain ⟨o1, o2, o3, o4⟩ := o
  refine ⟨o1, ?_, ?_, lt_r o4⟩
  · rw [lt_9]; exact o2
  · rw [lt_7]; exact o3
/-- at how many strangers' nods lie l was told -/
def nn_ (h : SH_) (l : Int) : Int := ws_ (h 14) l (h 7 3).toNat
theorem nn_l (h : SH_) (l b : Int) : nn_ (lt_ h b) l = nn_ h l := by
  unfold nn_
  rw [lt_14, lt_7]
theorem nn_r {h : SH_} {l : Int} (o : ao_ h l) : 0 ≤ nn_ h l ∧ nn_ h l ≤ 4 := by
  have h1 := ws_r (h 14) l (h 7 3).toNat
  have h2 := o.2.2.1
  unfold nn_
  omega
section PA2_
variable {g : SG_} {d : Nat} {h : SH_} {Post : Option SV_ → SH_ → Prop}
theorem c_run10 {l e : Int} (o : ao_ h l) (he : 0 ≤ e ∧ e ≤ 20) (kk : Post (some (sv_i (h 9 l))) (lt_ h 10)) : Ctr_ g (d + 1) mX1_run [sv_r 4 1 66, sv_r 4 6 7, sv_i 10, sv_i l, sv_i e] h Post := by
  have o1 := o.1
  refine V_mk (by decide +kernel) (Or.inr (Or.inl ⟨rfl, rfl⟩)) (Nat.le_of_ble_eq_true rfl) (by simp [sv_c]) ?_
  show V_ _ _ _ 0 [_, _, _, _, _, _] [] _ _
  refine vr_iload (q := 2) dX1_run_0 rfl rfl ?_
  refine vr_bipush (q := 4) dX1_run_2 rfl ⟨by decide, by decide⟩ (by decide) ?_
  refine vr_ic_le (t := 9) (q := 7) dX1_run_4 (by decide) rfl (fun _ => ?_) (fun c9 => absurd c9 (by omega))
  refine vr_aload_n (q := 10) dX1_run_9 rfl rfl ?_
  refine vr_iload_n (q := 11) dX1_run_10 rfl rfl ?_
  refine vr_iv1 (q := 14) dX1_run_11 rfl vX1_52 (Nat.le_of_ble_eq_true rfl) ?_
  refine c_leaveTrace o.2.2.2 ?_
  refine vr_iload (q := 16) dX1_run_14 rfl rfl ?_
  refine vr_iconst (q := 17) dX1_run_16 rfl ⟨by decide, by decide⟩ ?_
  refine vr_iaddN (q := 18) dX1_run_17 rfl ⟨by omega, by omega⟩ ?_
  refine vr_istore (q := 20) dX1_run_18 rfl (Nat.le_of_ble_eq_true rfl) rfl rfl ?_
  refine vr_iload_n (q := 21) dX1_run_20 rfl rfl ?_
  skip
  refine vr_tsI (q := 96) dX1_run_21 (by decide) (by decide) rfl (by decide) ?_
  refine vr_aload_n (q := 97) dX1_run_96 rfl rfl ?_
  refine vr_getR (q := 100) dX1_run_97 rfl fX1_56 rfl y_X7_5 (by first | (simp only [Int.reduceAdd]; rfl) | rfl) ?_
  refine vr_iload_n (q := 101) dX1_run_100 rfl rfl ?_
  refine vr_ialdV (q := 102) dX1_run_101 rfl ⟨by omega, by omega⟩ (by rw [lt_9]) ?_
  refine vr_iret dX1_run_102 rfl ?_
  first | exact kk | (exfalso; omega) | (repeat (first | exact kk | rw [if_pos (by omega)] at kk | rw [if_neg (by omega)] at kk))
theorem c_run20 {l e : Int} (o : ao_ h l) (he : 0 ≤ e ∧ e ≤ 20) (kk : Post (some (sv_i l)) (lt_ h 20)) : Ctr_ g (d + 1) mX1_run [sv_r 4 1 66, sv_r 4 6 7, sv_i 20, sv_i l, sv_i e] h Post := by
  refine V_mk (by decide +kernel) (Or.inr (Or.inl ⟨rfl, rfl⟩)) (Nat.le_of_ble_eq_true rfl) (by simp [sv_c]) ?_
  show V_ _ _ _ 0 [_, _, _, _, _, _] [] _ _
  refine vr_iload (q := 2) dX1_run_0 rfl rfl ?_
  refine vr_bipush (q := 4) dX1_run_2 rfl ⟨by decide, by decide⟩ (by decide) ?_
  refine vr_ic_le (t := 9) (q := 7) dX1_run_4 (by decide) rfl (fun _ => ?_) (fun c9 => absurd c9 (by omega))
  refine vr_aload_n (q := 10) dX1_run_9 rfl rfl ?_
  refine vr_iload_n (q := 11) dX1_run_10 rfl rfl ?_
  refine vr_iv1 (q := 14) dX1_run_11 rfl vX1_52 (Nat.le_of_ble_eq_true rfl) ?_
  refine c_leaveTrace o.2.2.2 ?_
  refine vr_iload (q := 16) dX1_run_14 rfl rfl ?_
  refine vr_iconst (q := 17) dX1_run_16 rfl ⟨by decide, by decide⟩ ?_
  refine vr_iaddN (q := 18) dX1_run_17 rfl ⟨by omega, by omega⟩ ?_
  refine vr_istore (q := 20) dX1_run_18 rfl (Nat.le_of_ble_eq_true rfl) rfl rfl ?_
  refine vr_iload_n (q := 21) dX1_run_20 rfl rfl ?_
  skip
  refine vr_tsI (q := 162) dX1_run_21 (by decide) (by decide) rfl (by decide) ?_
  refine vr_iload_n (q := 163) dX1_run_162 rfl rfl ?_
  refine vr_iret dX1_run_163 rfl ?_
  first | exact kk | (exfalso; omega) | (repeat (first | exact kk | rw [if_pos (by omega)] at kk | rw [if_neg (by omega)] at kk))
theorem c_run21 {l e : Int} (o : ao_ h l) (he : 0 ≤ e ∧ e < 20) (kk : Post (some (sv_i (l + nn_ h l))) (lt_ (lt_ h 21) 20)) : Ctr_ g (d + 2) mX1_run [sv_r 4 1 66, sv_r 4 6 7, sv_i 21, sv_i l, sv_i e] h Post := by
  have o1 := o.1
  have o2 := nn_r o
  refine V_mk (by decide +kernel) (Or.inr (Or.inl ⟨rfl, rfl⟩)) (Nat.le_of_ble_eq_true rfl) (by simp [sv_c]) ?_
  show V_ _ _ _ 0 [_, _, _, _, _, _] [] _ _
  refine vr_iload (q := 2) dX1_run_0 rfl rfl ?_
  refine vr_bipush (q := 4) dX1_run_2 rfl ⟨by decide, by decide⟩ (by decide) ?_
  refine vr_ic_le (t := 9) (q := 7) dX1_run_4 (by decide) rfl (fun _ => ?_) (fun c9 => absurd c9 (by omega))
  refine vr_aload_n (q := 10) dX1_run_9 rfl rfl ?_
  refine vr_iload_n (q := 11) dX1_run_10 rfl rfl ?_
  refine vr_iv1 (q := 14) dX1_run_11 rfl vX1_52 (Nat.le_of_ble_eq_true rfl) ?_
  refine c_leaveTrace o.2.2.2 ?_
  refine vr_iload (q := 16) dX1_run_14 rfl rfl ?_
  refine vr_iconst (q := 17) dX1_run_16 rfl ⟨by decide, by decide⟩ ?_
  refine vr_iaddN (q := 18) dX1_run_17 rfl ⟨by omega, by omega⟩ ?_
  refine vr_istore (q := 20) dX1_run_18 rfl (Nat.le_of_ble_eq_true rfl) rfl rfl ?_
  refine vr_iload_n (q := 21) dX1_run_20 rfl rfl ?_
  skip
  refine vr_tsI (q := 164) dX1_run_21 (by decide) (by decide) rfl (by decide) ?_
  refine vr_aload_n (q := 165) dX1_run_164 rfl rfl ?_
  refine vr_aload_n (q := 166) dX1_run_165 rfl rfl ?_
  refine vr_bipush (q := 168) dX1_run_166 rfl ⟨by decide, by decide⟩ (by decide) ?_
  refine vr_iload_n (q := 169) dX1_run_168 rfl rfl ?_
  refine vr_iload (q := 171) dX1_run_169 rfl rfl ?_
  refine vr_iv4 (q := 174) dX1_run_171 rfl vX1_39 (Nat.le_of_ble_eq_true rfl) ?_
  refine c_run20 (ao_l o) ⟨by omega, by omega⟩ ?_
  refine vr_aload_n (q := 175) dX1_run_174 rfl rfl ?_
  refine vr_aload_n (q := 176) dX1_run_175 rfl rfl ?_
  refine vr_getR (q := 179) dX1_run_176 rfl fX1_59 rfl y_X7_10 (by first | (simp only [Int.reduceAdd]; rfl) | rfl) ?_
  refine vr_iload_n (q := 180) dX1_run_179 rfl rfl ?_
  refine vr_iv2 (q := 183) dX1_run_180 rfl vX1_62 (Nat.le_of_ble_eq_true rfl) ?_
  refine c_strangersWith (ao_l (ao_l o)).2.2.1 ?_
  have e3 : ws_ (lt_ (lt_ h 21) 20 14) l (lt_ (lt_ h 21) 20 7 3).toNat = nn_ h l := by rw [lt_14, lt_14, lt_7, lt_7]; rfl
  rw [e3]
  refine vr_iaddN (q := 184) dX1_run_183 rfl ⟨by omega, by omega⟩ ?_
  refine vr_iret dX1_run_184 rfl ?_
  first | exact kk | (exfalso; omega) | (repeat (first | exact kk | rw [if_pos (by omega)] at kk | rw [if_neg (by omega)] at kk))
theorem c_run22 {l e : Int} (o : ao_ h l) (he : 0 ≤ e ∧ e < 19) (kk : Post (some (sv_i (l + nn_ h l - 1000))) (lt_ (lt_ (lt_ h 22) 21) 20)) : Ctr_ g (d + 3) mX1_run [sv_r 4 1 66, sv_r 4 6 7, sv_i 22, sv_i l, sv_i e] h Post := by
  have o1 := o.1
  have o2 := nn_r o
  refine V_mk (by decide +kernel) (Or.inr (Or.inl ⟨rfl, rfl⟩)) (Nat.le_of_ble_eq_true rfl) (by simp [sv_c]) ?_
  show V_ _ _ _ 0 [_, _, _, _, _, _] [] _ _
  refine vr_iload (q := 2) dX1_run_0 rfl rfl ?_
  refine vr_bipush (q := 4) dX1_run_2 rfl ⟨by decide, by decide⟩ (by decide) ?_
  refine vr_ic_le (t := 9) (q := 7) dX1_run_4 (by decide) rfl (fun _ => ?_) (fun c9 => absurd c9 (by omega))
  refine vr_aload_n (q := 10) dX1_run_9 rfl rfl ?_
  refine vr_iload_n (q := 11) dX1_run_10 rfl rfl ?_
  refine vr_iv1 (q := 14) dX1_run_11 rfl vX1_52 (Nat.le_of_ble_eq_true rfl) ?_
  refine c_leaveTrace o.2.2.2 ?_
  refine vr_iload (q := 16) dX1_run_14 rfl rfl ?_
  refine vr_iconst (q := 17) dX1_run_16 rfl ⟨by decide, by decide⟩ ?_
  refine vr_iaddN (q := 18) dX1_run_17 rfl ⟨by omega, by omega⟩ ?_
  refine vr_istore (q := 20) dX1_run_18 rfl (Nat.le_of_ble_eq_true rfl) rfl rfl ?_
  refine vr_iload_n (q := 21) dX1_run_20 rfl rfl ?_
  skip
  refine vr_tsI (q := 185) dX1_run_21 (by decide) (by decide) rfl (by decide) ?_
  refine vr_aload_n (q := 186) dX1_run_185 rfl rfl ?_
  refine vr_aload_n (q := 187) dX1_run_186 rfl rfl ?_
  refine vr_bipush (q := 189) dX1_run_187 rfl ⟨by decide, by decide⟩ (by decide) ?_
  refine vr_iload_n (q := 190) dX1_run_189 rfl rfl ?_
  refine vr_iload (q := 192) dX1_run_190 rfl rfl ?_
  refine vr_iv4 (q := 195) dX1_run_192 rfl vX1_39 (Nat.le_of_ble_eq_true rfl) ?_
  refine c_run21 (ao_l o) ⟨by omega, by omega⟩ ?_
  rw [nn_l]
  refine vr_sipush (q := 198) dX1_run_195 rfl ⟨by decide, by decide⟩ (by decide) ?_
  refine vr_isubN (q := 199) dX1_run_198 rfl ⟨by omega, by omega⟩ ?_
  refine vr_iret dX1_run_199 rfl ?_
  first | exact kk | (exfalso; omega) | (repeat (first | exact kk | rw [if_pos (by omega)] at kk | rw [if_neg (by omega)] at kk))
theorem c_run24 {l e : Int} (o : ao_ h l) (he : 0 ≤ e ∧ e < 19) (kk : Post (some (sv_i (2 * (l + nn_ h l)))) (lt_ (lt_ (lt_ h 24) 21) 20)) : Ctr_ g (d + 3) mX1_run [sv_r 4 1 66, sv_r 4 6 7, sv_i 24, sv_i l, sv_i e] h Post := by
  have o1 := o.1
  have o2 := nn_r o
  refine V_mk (by decide +kernel) (Or.inr (Or.inl ⟨rfl, rfl⟩)) (Nat.le_of_ble_eq_true rfl) (by simp [sv_c]) ?_
  show V_ _ _ _ 0 [_, _, _, _, _, _] [] _ _
  refine vr_iload (q := 2) dX1_run_0 rfl rfl ?_
  refine vr_bipush (q := 4) dX1_run_2 rfl ⟨by decide, by decide⟩ (by decide) ?_
  refine vr_ic_le (t := 9) (q := 7) dX1_run_4 (by decide) rfl (fun _ => ?_) (fun c9 => absurd c9 (by omega))
  refine vr_aload_n (q := 10) dX1_run_9 rfl rfl ?_
  refine vr_iload_n (q := 11) dX1_run_10 rfl rfl ?_
  refine vr_iv1 (q := 14) dX1_run_11 rfl vX1_52 (Nat.le_of_ble_eq_true rfl) ?_
  refine c_leaveTrace o.2.2.2 ?_
  refine vr_iload (q := 16) dX1_run_14 rfl rfl ?_
  refine vr_iconst (q := 17) dX1_run_16 rfl ⟨by decide, by decide⟩ ?_
  refine vr_iaddN (q := 18) dX1_run_17 rfl ⟨by omega, by omega⟩ ?_
  refine vr_istore (q := 20) dX1_run_18 rfl (Nat.le_of_ble_eq_true rfl) rfl rfl ?_
  refine vr_iload_n (q := 21) dX1_run_20 rfl rfl ?_
  skip
  refine vr_tsI (q := 220) dX1_run_21 (by decide) (by decide) rfl (by decide) ?_
  refine vr_iconst (q := 221) dX1_run_220 rfl ⟨by decide, by decide⟩ ?_
  refine vr_aload_n (q := 222) dX1_run_221 rfl rfl ?_
  refine vr_aload_n (q := 223) dX1_run_222 rfl rfl ?_
  refine vr_bipush (q := 225) dX1_run_223 rfl ⟨by decide, by decide⟩ (by decide) ?_
  refine vr_iload_n (q := 226) dX1_run_225 rfl rfl ?_
  refine vr_iload (q := 228) dX1_run_226 rfl rfl ?_
  refine vr_iv4 (q := 231) dX1_run_228 rfl vX1_39 (Nat.le_of_ble_eq_true rfl) ?_
  refine c_run21 (ao_l o) ⟨by omega, by omega⟩ ?_
  rw [nn_l]
  refine vr_imulN (q := 232) dX1_run_231 rfl ⟨by omega, by omega⟩ ?_
  refine vr_iret dX1_run_232 rfl ?_
  first | exact kk | (exfalso; omega) | (repeat (first | exact kk | rw [if_pos (by omega)] at kk | rw [if_neg (by omega)] at kk))
theorem c_run13 {l e : Int} (o : ao_ h l) (he : 0 ≤ e ∧ e < 20) (kk : Post (some (sv_i (h 9 l - 100))) (lt_ (lt_ h 13) 10)) : Ctr_ g (d + 2) mX1_run [sv_r 4 1 66, sv_r 4 6 7, sv_i 13, sv_i l, sv_i e] h Post := by
  have o2 := o.2.1
  refine V_mk (by decide +kernel) (Or.inr (Or.inl ⟨rfl, rfl⟩)) (Nat.le_of_ble_eq_true rfl) (by simp [sv_c]) ?_
  show V_ _ _ _ 0 [_, _, _, _, _, _] [] _ _
  refine vr_iload (q := 2) dX1_run_0 rfl rfl ?_
  refine vr_bipush (q := 4) dX1_run_2 rfl ⟨by decide, by decide⟩ (by decide) ?_
  refine vr_ic_le (t := 9) (q := 7) dX1_run_4 (by decide) rfl (fun _ => ?_) (fun c9 => absurd c9 (by omega))
  refine vr_aload_n (q := 10) dX1_run_9 rfl rfl ?_
  refine vr_iload_n (q := 11) dX1_run_10 rfl rfl ?_
  refine vr_iv1 (q := 14) dX1_run_11 rfl vX1_52 (Nat.le_of_ble_eq_true rfl) ?_
  refine c_leaveTrace o.2.2.2 ?_
  refine vr_iload (q := 16) dX1_run_14 rfl rfl ?_
  refine vr_iconst (q := 17) dX1_run_16 rfl ⟨by decide, by decide⟩ ?_
  refine vr_iaddN (q := 18) dX1_run_17 rfl ⟨by omega, by omega⟩ ?_
  refine vr_istore (q := 20) dX1_run_18 rfl (Nat.le_of_ble_eq_true rfl) rfl rfl ?_
  refine vr_iload_n (q := 21) dX1_run_20 rfl rfl ?_
  skip
  refine vr_tsI (q := 135) dX1_run_21 (by decide) (by decide) rfl (by decide) ?_
  refine vr_aload_n (q := 136) dX1_run_135 rfl rfl ?_
  refine vr_aload_n (q := 137) dX1_run_136 rfl rfl ?_
  refine vr_bipush (q := 139) dX1_run_137 rfl ⟨by decide, by decide⟩ (by decide) ?_
  refine vr_iload_n (q := 140) dX1_run_139 rfl rfl ?_
  refine vr_iload (q := 142) dX1_run_140 rfl rfl ?_
  refine vr_iv4 (q := 145) dX1_run_142 rfl vX1_39 (Nat.le_of_ble_eq_true rfl) ?_
  refine c_run10 (ao_l o) ⟨by omega, by omega⟩ ?_
  rw [lt_9]
  refine vr_bipush (q := 147) dX1_run_145 rfl ⟨by decide, by decide⟩ (by decide) ?_
  refine vr_isubN (q := 148) dX1_run_147 rfl ⟨by omega, by omega⟩ ?_
  refine vr_iret dX1_run_148 rfl ?_
  first | exact kk | (exfalso; omega) | (repeat (first | exact kk | rw [if_pos (by omega)] at kk | rw [if_neg (by omega)] at kk))
theorem c_run14 {l e : Int} (o : ao_ h l) (he : 0 ≤ e ∧ e < 19) (kk : Post (some (sv_i (2 * (h 9 l - 100)))) (lt_ (lt_ (lt_ h 14) 13) 10)) : Ctr_ g (d + 3) mX1_run [sv_r 4 1 66, sv_r 4 6 7, sv_i 14, sv_i l, sv_i e] h Post := by
  have o2 := o.2.1
  refine V_mk (by decide +kernel) (Or.inr (Or.inl ⟨rfl, rfl⟩)) (Nat.le_of_ble_eq_true rfl) (by simp [sv_c]) ?_
  show V_ _ _ _ 0 [_, _, _, _, _, _] [] _ _
  refine vr_iload (q := 2) dX1_run_0 rfl rfl ?_
  refine vr_bipush (q := 4) dX1_run_2 rfl ⟨by decide, by decide⟩ (by decide) ?_
  refine vr_ic_le (t := 9) (q := 7) dX1_run_4 (by decide) rfl (fun _ => ?_) (fun c9 => absurd c9 (by omega))
  refine vr_aload_n (q := 10) dX1_run_9 rfl rfl ?_
  refine vr_iload_n (q := 11) dX1_run_10 rfl rfl ?_
  refine vr_iv1 (q := 14) dX1_run_11 rfl vX1_52 (Nat.le_of_ble_eq_true rfl) ?_
  refine c_leaveTrace o.2.2.2 ?_
  refine vr_iload (q := 16) dX1_run_14 rfl rfl ?_
  refine vr_iconst (q := 17) dX1_run_16 rfl ⟨by decide, by decide⟩ ?_
  refine vr_iaddN (q := 18) dX1_run_17 rfl ⟨by omega, by omega⟩ ?_
  refine vr_istore (q := 20) dX1_run_18 rfl (Nat.le_of_ble_eq_true rfl) rfl rfl ?_
  refine vr_iload_n (q := 21) dX1_run_20 rfl rfl ?_
  skip
  refine vr_tsI (q := 149) dX1_run_21 (by decide) (by decide) rfl (by decide) ?_
  refine vr_iconst (q := 150) dX1_run_149 rfl ⟨by decide, by decide⟩ ?_
  refine vr_aload_n (q := 151) dX1_run_150 rfl rfl ?_
  refine vr_aload_n (q := 152) dX1_run_151 rfl rfl ?_
  refine vr_bipush (q := 154) dX1_run_152 rfl ⟨by decide, by decide⟩ (by decide) ?_
  refine vr_iload_n (q := 155) dX1_run_154 rfl rfl ?_
  refine vr_iload (q := 157) dX1_run_155 rfl rfl ?_
  refine vr_iv4 (q := 160) dX1_run_157 rfl vX1_39 (Nat.le_of_ble_eq_true rfl) ?_
  refine c_run13 (ao_l o) ⟨by omega, by omega⟩ ?_
  rw [lt_9]
  refine vr_imulN (q := 161) dX1_run_160 rfl ⟨by omega, by omega⟩ ?_
  refine vr_iret dX1_run_161 rfl ?_
  first | exact kk | (exfalso; omega) | (repeat (first | exact kk | rw [if_pos (by omega)] at kk | rw [if_neg (by omega)] at kk))
/-- MARK of an easy one: its trace, its value -/
def me_ (h : SH_) (l : Int) : SH_ := if h 8 l = 1 then lt_ (lt_ h 21) 20 else if h 8 l = 2 then lt_ (lt_ (lt_ h 24) 21) 20 else lt_ (lt_ (lt_ h 22) 21) 20
def ve_ (h : SH_) (l : Int) : Int := if h 8 l = 1 then l + nn_ h l else if h 8 l = 2 then 2 * (l + nn_ h l) else l + nn_ h l - 1000
theorem c_markE {l e : Int} (hX : sx_ g) (o : ao_ h l) (hk : 1 ≤ h 8 l ∧ h 8 l ≤ 3) (he : 0 ≤ e ∧ e < 19) (kk : Post (some (sv_i (ve_ h l))) (me_ h l)) : Ctr_ g (d + 4) mX1_markOf [sv_r 4 1 66, sv_r 4 6 7, sv_i l, sv_i e] h Post := by
  have o1 := o.1
  unfold ve_ me_ at kk
  refine V_mk (by decide +kernel) (Or.inr (Or.inl ⟨rfl, rfl⟩)) (Nat.le_of_ble_eq_true rfl) (by simp [sv_c]) ?_
  show V_ _ _ _ 0 [_, _, _, _] [] _ _
  refine vr_aload_n (q := 1) dX1_markOf_0 rfl rfl ?_
  refine vr_aload_n (q := 2) dX1_markOf_1 rfl rfl ?_
  refine vr_gets (i := 2) (q := 5) dX1_markOf_2 rfl (by decide) gX1_43 ?_
  refine vr_aload_n (q := 6) dX1_markOf_5 rfl rfl ?_
  refine vr_getR (q := 9) dX1_markOf_6 rfl fX1_30 rfl y_X7_4 (by first | (simp only [Int.reduceAdd]; rfl) | rfl) ?_
  refine vr_iload_n (q := 10) dX1_markOf_9 rfl rfl ?_
  refine vr_iald (q := 11) dX1_markOf_10 rfl ⟨by omega, by omega⟩ ?_
  refine vr_is2 (q := 14) dX1_markOf_11 rfl vX1_35 (Nat.le_of_ble_eq_true rfl) ?_
  refine c_nearM hX ⟨by omega, by omega⟩ ?_
  skip
  rcases (by omega : h 8 l = 1 ∨ h 8 l = 2 ∨ h 8 l = 3) with c1 | c1 | c1
  · rw [c1] at kk ⊢
    refine vr_iload_n (q := 15) dX1_markOf_14 rfl rfl ?_
    refine vr_iload_n (q := 16) dX1_markOf_15 rfl rfl ?_
    refine vr_iv4 (q := 19) dX1_markOf_16 rfl vX1_39 (Nat.le_of_ble_eq_true rfl) ?_
    refine c_run21 o ⟨by omega, by omega⟩ ?_
    refine vr_iret dX1_markOf_19 rfl ?_
    first | exact kk | (exfalso; omega) | (repeat (first | exact kk | rw [if_pos (by omega)] at kk | rw [if_neg (by omega)] at kk))
  · rw [c1] at kk ⊢
    refine vr_iload_n (q := 15) dX1_markOf_14 rfl rfl ?_
    refine vr_iload_n (q := 16) dX1_markOf_15 rfl rfl ?_
    refine vr_iv4 (q := 19) dX1_markOf_16 rfl vX1_39 (Nat.le_of_ble_eq_true rfl) ?_
    refine c_run24 o ⟨by omega, by omega⟩ ?_
    refine vr_iret dX1_markOf_19 rfl ?_
    first | exact kk | (exfalso; omega) | (repeat (first | exact kk | rw [if_pos (by omega)] at kk | rw [if_neg (by omega)] at kk))
  · rw [c1] at kk ⊢
    refine vr_iload_n (q := 15) dX1_markOf_14 rfl rfl ?_
    refine vr_iload_n (q := 16) dX1_markOf_15 rfl rfl ?_
    refine vr_iv4 (q := 19) dX1_markOf_16 rfl vX1_39 (Nat.le_of_ble_eq_true rfl) ?_
    refine c_run22 o ⟨by omega, by omega⟩ ?_
    refine vr_iret dX1_markOf_19 rfl ?_
    first | exact kk | (exfalso; omega) | (repeat (first | exact kk | rw [if_pos (by omega)] at kk | rw [if_neg (by omega)] at kk))
/-- SIZE of a proof -/
def mp_ (h : SH_) (l : Int) : SH_ := if h 8 l = 5 then lt_ (lt_ (lt_ h 14) 13) 10 else lt_ (lt_ h 13) 10
def vp_ (h : SH_) (l : Int) : Int := if h 8 l = 5 then 2 * (h 9 l - 100) else h 9 l - 100
theorem c_sizeP {l e : Int} (hX : sx_ g) (o : ao_ h l) (hk : 4 ≤ h 8 l ∧ h 8 l ≤ 5) (he : 0 ≤ e ∧ e < 19) (kk : Post (some (sv_i (vp_ h l))) (mp_ h l)) : Ctr_ g (d + 4) mX1_sizeOf [sv_r 4 1 66, sv_r 4 6 7, sv_i l, sv_i e] h Post := by
  have o1 := o.1
  unfold vp_ mp_ at kk
  refine V_mk (by decide +kernel) (Or.inr (Or.inl ⟨rfl, rfl⟩)) (Nat.le_of_ble_eq_true rfl) (by simp [sv_c]) ?_
  show V_ _ _ _ 0 [_, _, _, _] [] _ _
  refine vr_aload_n (q := 1) dX1_sizeOf_0 rfl rfl ?_
  refine vr_aload_n (q := 2) dX1_sizeOf_1 rfl rfl ?_
  refine vr_gets (i := 1) (q := 5) dX1_sizeOf_2 rfl (by decide) gX1_27 ?_
  refine vr_aload_n (q := 6) dX1_sizeOf_5 rfl rfl ?_
  refine vr_getR (q := 9) dX1_sizeOf_6 rfl fX1_30 rfl y_X7_4 (by first | (simp only [Int.reduceAdd]; rfl) | rfl) ?_
  refine vr_iload_n (q := 10) dX1_sizeOf_9 rfl rfl ?_
  refine vr_iald (q := 11) dX1_sizeOf_10 rfl ⟨by omega, by omega⟩ ?_
  refine vr_is2 (q := 14) dX1_sizeOf_11 rfl vX1_35 (Nat.le_of_ble_eq_true rfl) ?_
  refine c_nearS hX ⟨by omega, by omega⟩ ?_
  skip
  rcases (by omega : h 8 l = 4 ∨ h 8 l = 5) with c1 | c1
  · rw [c1] at kk ⊢
    refine vr_iload_n (q := 15) dX1_sizeOf_14 rfl rfl ?_
    refine vr_iload_n (q := 16) dX1_sizeOf_15 rfl rfl ?_
    refine vr_iv4 (q := 19) dX1_sizeOf_16 rfl vX1_39 (Nat.le_of_ble_eq_true rfl) ?_
    refine c_run13 o ⟨by omega, by omega⟩ ?_
    refine vr_iret dX1_sizeOf_19 rfl ?_
    first | exact kk | (exfalso; omega) | (repeat (first | exact kk | rw [if_pos (by omega)] at kk | rw [if_neg (by omega)] at kk))
  · rw [c1] at kk ⊢
    refine vr_iload_n (q := 15) dX1_sizeOf_14 rfl rfl ?_
    refine vr_iload_n (q := 16) dX1_sizeOf_15 rfl rfl ?_
    refine vr_iv4 (q := 19) dX1_sizeOf_16 rfl vX1_39 (Nat.le_of_ble_eq_true rfl) ?_
    refine c_run14 o ⟨by omega, by omega⟩ ?_
    refine vr_iret dX1_sizeOf_19 rfl ?_
    first | exact kk | (exfalso; omega) | (repeat (first | exact kk | rw [if_pos (by omega)] at kk | rw [if_neg (by omega)] at kk))
theorem vp_r {h : SH_} {l : Int} (o : ao_ h l) : -1000 ≤ vp_ h l ∧ vp_ h l ≤ 0 := by
  have o2 := o.2.1
  unfold vp_
  split <;> omega
theorem ve_r {h : SH_} {l : Int} (o : ao_ h l) : -1000 ≤ ve_ h l ∧ ve_ h l ≤ 18 := by
  have o2 := nn_r o
  have o1 := o.1
  unfold ve_
  repeat' split
  all_goals omega
theorem c_run23 {l e : Int} (hX : sx_ g) (o : ao_ h l) (hk : 4 ≤ h 8 l ∧ h 8 l ≤ 5) (he : 0 ≤ e ∧ e < 18) (kk : Post (some (sv_i (l - vp_ h l))) (mp_ (lt_ (lt_ h 23) 20) l)) : Ctr_ g (d + 5) mX1_run [sv_r 4 1 66, sv_r 4 6 7, sv_i 23, sv_i l, sv_i e] h Post := by
  have o1 := o.1
  have o2 := vp_r o
  have e8 : lt_ (lt_ h 23) 20 8 l = h 8 l := by rw [lt_8, lt_8]
  have ev : vp_ (lt_ (lt_ h 23) 20) l = vp_ h l := by unfold vp_; rw [e8, lt_9, lt_9]
  refine V_mk (by decide +kernel) (Or.inr (Or.inl ⟨rfl, rfl⟩)) (Nat.le_of_ble_eq_true rfl) (by simp [sv_c]) ?_
  show V_ _ _ _ 0 [_, _, _, _, _, _] [] _ _
  refine vr_iload (q := 2) dX1_run_0 rfl rfl ?_
  refine vr_bipush (q := 4) dX1_run_2 rfl ⟨by decide, by decide⟩ (by decide) ?_
  refine vr_ic_le (t := 9) (q := 7) dX1_run_4 (by decide) rfl (fun _ => ?_) (fun c9 => absurd c9 (by omega))
  refine vr_aload_n (q := 10) dX1_run_9 rfl rfl ?_
  refine vr_iload_n (q := 11) dX1_run_10 rfl rfl ?_
  refine vr_iv1 (q := 14) dX1_run_11 rfl vX1_52 (Nat.le_of_ble_eq_true rfl) ?_
  refine c_leaveTrace o.2.2.2 ?_
  refine vr_iload (q := 16) dX1_run_14 rfl rfl ?_
  refine vr_iconst (q := 17) dX1_run_16 rfl ⟨by decide, by decide⟩ ?_
  refine vr_iaddN (q := 18) dX1_run_17 rfl ⟨by omega, by omega⟩ ?_
  refine vr_istore (q := 20) dX1_run_18 rfl (Nat.le_of_ble_eq_true rfl) rfl rfl ?_
  refine vr_iload_n (q := 21) dX1_run_20 rfl rfl ?_
  skip
  refine vr_tsI (q := 200) dX1_run_21 (by decide) (by decide) rfl (by decide) ?_
  refine vr_aload_n (q := 201) dX1_run_200 rfl rfl ?_
  refine vr_aload_n (q := 202) dX1_run_201 rfl rfl ?_
  refine vr_bipush (q := 204) dX1_run_202 rfl ⟨by decide, by decide⟩ (by decide) ?_
  refine vr_iload_n (q := 205) dX1_run_204 rfl rfl ?_
  refine vr_iload (q := 207) dX1_run_205 rfl rfl ?_
  refine vr_iv4 (q := 210) dX1_run_207 rfl vX1_39 (Nat.le_of_ble_eq_true rfl) ?_
  refine c_run20 (ao_l o) ⟨by omega, by omega⟩ ?_
  refine vr_aload_n (q := 211) dX1_run_210 rfl rfl ?_
  refine vr_aload_n (q := 212) dX1_run_211 rfl rfl ?_
  refine vr_iload_n (q := 213) dX1_run_212 rfl rfl ?_
  refine vr_iload (q := 215) dX1_run_213 rfl rfl ?_
  refine vr_iv3 (q := 218) dX1_run_215 rfl vX1_19 (Nat.le_of_ble_eq_true rfl) ?_
  refine c_sizeP hX (ao_l (ao_l o)) (by rw [e8]; exact hk) ⟨by omega, by omega⟩ ?_
  rw [ev]
  refine vr_isubN (q := 219) dX1_run_218 rfl ⟨by omega, by omega⟩ ?_
  refine vr_iret dX1_run_219 rfl ?_
  first | exact kk | (exfalso; omega) | (repeat (first | exact kk | rw [if_pos (by omega)] at kk | rw [if_neg (by omega)] at kk))
theorem c_run11 {l e : Int} (hX : sx_ g) (o : ao_ h l) (hk : 1 ≤ h 8 l ∧ h 8 l ≤ 3) (he : 0 ≤ e ∧ e < 18) (kk : Post (some (sv_i (h 9 l + ve_ h l))) (me_ (lt_ (lt_ h 11) 10) l)) : Ctr_ g (d + 5) mX1_run [sv_r 4 1 66, sv_r 4 6 7, sv_i 11, sv_i l, sv_i e] h Post := by
  have o1 := o.1
  have o2 := ve_r o
  have o3 := o.2.1
  have e8 : lt_ (lt_ h 11) 10 8 l = h 8 l := by rw [lt_8, lt_8]
  have ev : ve_ (lt_ (lt_ h 11) 10) l = ve_ h l := by unfold ve_; rw [e8, nn_l, nn_l]
  refine V_mk (by decide +kernel) (Or.inr (Or.inl ⟨rfl, rfl⟩)) (Nat.le_of_ble_eq_true rfl) (by simp [sv_c]) ?_
  show V_ _ _ _ 0 [_, _, _, _, _, _] [] _ _
  refine vr_iload (q := 2) dX1_run_0 rfl rfl ?_
  refine vr_bipush (q := 4) dX1_run_2 rfl ⟨by decide, by decide⟩ (by decide) ?_
  refine vr_ic_le (t := 9) (q := 7) dX1_run_4 (by decide) rfl (fun _ => ?_) (fun c9 => absurd c9 (by omega))
  refine vr_aload_n (q := 10) dX1_run_9 rfl rfl ?_
  refine vr_iload_n (q := 11) dX1_run_10 rfl rfl ?_
  refine vr_iv1 (q := 14) dX1_run_11 rfl vX1_52 (Nat.le_of_ble_eq_true rfl) ?_
  refine c_leaveTrace o.2.2.2 ?_
  refine vr_iload (q := 16) dX1_run_14 rfl rfl ?_
  refine vr_iconst (q := 17) dX1_run_16 rfl ⟨by decide, by decide⟩ ?_
  refine vr_iaddN (q := 18) dX1_run_17 rfl ⟨by omega, by omega⟩ ?_
  refine vr_istore (q := 20) dX1_run_18 rfl (Nat.le_of_ble_eq_true rfl) rfl rfl ?_
  refine vr_iload_n (q := 21) dX1_run_20 rfl rfl ?_
  skip
  refine vr_tsI (q := 103) dX1_run_21 (by decide) (by decide) rfl (by decide) ?_
  refine vr_aload_n (q := 104) dX1_run_103 rfl rfl ?_
  refine vr_aload_n (q := 105) dX1_run_104 rfl rfl ?_
  refine vr_bipush (q := 107) dX1_run_105 rfl ⟨by decide, by decide⟩ (by decide) ?_
  refine vr_iload_n (q := 108) dX1_run_107 rfl rfl ?_
  refine vr_iload (q := 110) dX1_run_108 rfl rfl ?_
  refine vr_iv4 (q := 113) dX1_run_110 rfl vX1_39 (Nat.le_of_ble_eq_true rfl) ?_
  refine c_run10 (ao_l o) ⟨by omega, by omega⟩ ?_
  rw [lt_9]
  refine vr_aload_n (q := 114) dX1_run_113 rfl rfl ?_
  refine vr_aload_n (q := 115) dX1_run_114 rfl rfl ?_
  refine vr_iload_n (q := 116) dX1_run_115 rfl rfl ?_
  refine vr_iload (q := 118) dX1_run_116 rfl rfl ?_
  refine vr_iv3 (q := 121) dX1_run_118 rfl vX1_23 (Nat.le_of_ble_eq_true rfl) ?_
  refine c_markE hX (ao_l (ao_l o)) (by rw [e8]; exact hk) ⟨by omega, by omega⟩ ?_
  rw [ev]
  refine vr_iaddN (q := 122) dX1_run_121 rfl ⟨by omega, by omega⟩ ?_
  refine vr_iret dX1_run_122 rfl ?_
  first | exact kk | (exfalso; omega) | (repeat (first | exact kk | rw [if_pos (by omega)] at kk | rw [if_neg (by omega)] at kk))
theorem c_run12 {l e : Int} (hX : sx_ g) (o : ao_ h l) (hk : 1 ≤ h 8 l ∧ h 8 l ≤ 3) (he : 0 ≤ e ∧ e < 17) (kk : Post (some (sv_i (-(h 9 l + ve_ h l)))) (me_ (lt_ (lt_ (lt_ h 12) 11) 10) l)) : Ctr_ g (d + 6) mX1_run [sv_r 4 1 66, sv_r 4 6 7, sv_i 12, sv_i l, sv_i e] h Post := by
  have o1 := o.1
  have o2 := ve_r o
  have o3 := o.2.1
  have ev : ve_ (lt_ h 12) l = ve_ h l := by unfold ve_; rw [lt_8, nn_l]
  refine V_mk (by decide +kernel) (Or.inr (Or.inl ⟨rfl, rfl⟩)) (Nat.le_of_ble_eq_true rfl) (by simp [sv_c]) ?_
  show V_ _ _ _ 0 [_, _, _, _, _, _] [] _ _
  refine vr_iload (q := 2) dX1_run_0 rfl rfl ?_
  refine vr_bipush (q := 4) dX1_run_2 rfl ⟨by decide, by decide⟩ (by decide) ?_
  refine vr_ic_le (t := 9) (q := 7) dX1_run_4 (by decide) rfl (fun _ => ?_) (fun c9 => absurd c9 (by omega))
  refine vr_aload_n (q := 10) dX1_run_9 rfl rfl ?_
  refine vr_iload_n (q := 11) dX1_run_10 rfl rfl ?_
  refine vr_iv1 (q := 14) dX1_run_11 rfl vX1_52 (Nat.le_of_ble_eq_true rfl) ?_
  refine c_leaveTrace o.2.2.2 ?_
  refine vr_iload (q := 16) dX1_run_14 rfl rfl ?_
  refine vr_iconst (q := 17) dX1_run_16 rfl ⟨by decide, by decide⟩ ?_
  refine vr_iaddN (q := 18) dX1_run_17 rfl ⟨by omega, by omega⟩ ?_
  refine vr_istore (q := 20) dX1_run_18 rfl (Nat.le_of_ble_eq_true rfl) rfl rfl ?_
  refine vr_iload_n (q := 21) dX1_run_20 rfl rfl ?_
  skip
  refine vr_tsI (q := 123) dX1_run_21 (by decide) (by decide) rfl (by decide) ?_
  refine vr_aload_n (q := 124) dX1_run_123 rfl rfl ?_
  refine vr_aload_n (q := 125) dX1_run_124 rfl rfl ?_
  refine vr_bipush (q := 127) dX1_run_125 rfl ⟨by decide, by decide⟩ (by decide) ?_
  refine vr_iload_n (q := 128) dX1_run_127 rfl rfl ?_
  refine vr_iload (q := 130) dX1_run_128 rfl rfl ?_
  refine vr_iv4 (q := 133) dX1_run_130 rfl vX1_39 (Nat.le_of_ble_eq_true rfl) ?_
  refine c_run11 hX (ao_l o) (by rw [lt_8]; exact hk) ⟨by omega, by omega⟩ ?_
  rw [ev, lt_9]
  refine vr_ineg (q := 134) dX1_run_133 rfl ⟨by omega, by omega⟩ ?_
  refine vr_iret dX1_run_134 rfl ?_
  first | exact kk | (exfalso; omega) | (repeat (first | exact kk | rw [if_pos (by omega)] at kk | rw [if_neg (by omega)] at kk))
/-- SIZE and MARK of a lie, the trace then -/
def zs_ (h : SH_) (l : Int) : SH_ := if 4 ≤ h 8 l then mp_ h l else if h 8 l = 2 then me_ (lt_ (lt_ (lt_ h 12) 11) 10) l else me_ (lt_ (lt_ h 11) 10) l
def vs_ (h : SH_) (l : Int) : Int := if 4 ≤ h 8 l then vp_ h l else if h 8 l = 2 then -(h 9 l + ve_ h l) else h 9 l + ve_ h l
def zm_ (h : SH_) (l : Int) : SH_ := if 4 ≤ h 8 l then mp_ (lt_ (lt_ h 23) 20) l else me_ h l
def vm_ (h : SH_) (l : Int) : Int := if 4 ≤ h 8 l then l - vp_ h l else ve_ h l
theorem c_sizeOf {l e : Int} (hX : sx_ g) (o : ao_ h l) (hk : 1 ≤ h 8 l ∧ h 8 l ≤ 5) (he : 0 ≤ e ∧ e < 17) (kk : Post (some (sv_i (vs_ h l))) (zs_ h l)) : Ctr_ g (d + 7) mX1_sizeOf [sv_r 4 1 66, sv_r 4 6 7, sv_i l, sv_i e] h Post := by
  have o1 := o.1
  unfold vs_ zs_ at kk
  by_cases c4 : 4 ≤ h 8 l
  · rw [if_pos c4, if_pos c4] at kk
    exact c_sizeP hX o ⟨c4, hk.2⟩ ⟨by omega, by omega⟩ kk
  rw [if_neg c4, if_neg c4] at kk
  refine V_mk (by decide +kernel) (Or.inr (Or.inl ⟨rfl, rfl⟩)) (Nat.le_of_ble_eq_true rfl) (by simp [sv_c]) ?_
  show V_ _ _ _ 0 [_, _, _, _] [] _ _
  refine vr_aload_n (q := 1) dX1_sizeOf_0 rfl rfl ?_
  refine vr_aload_n (q := 2) dX1_sizeOf_1 rfl rfl ?_
  refine vr_gets (i := 1) (q := 5) dX1_sizeOf_2 rfl (by decide) gX1_27 ?_
  refine vr_aload_n (q := 6) dX1_sizeOf_5 rfl rfl ?_
  refine vr_getR (q := 9) dX1_sizeOf_6 rfl fX1_30 rfl y_X7_4 (by first | (simp only [Int.reduceAdd]; rfl) | rfl) ?_
  refine vr_iload_n (q := 10) dX1_sizeOf_9 rfl rfl ?_
  refine vr_iald (q := 11) dX1_sizeOf_10 rfl ⟨by omega, by omega⟩ ?_
  refine vr_is2 (q := 14) dX1_sizeOf_11 rfl vX1_35 (Nat.le_of_ble_eq_true rfl) ?_
  refine c_nearS hX hk ?_
  skip
  by_cases c1 : h 8 l = 2
  · rw [if_pos c1, if_pos c1] at kk
    rw [if_pos c1]
    refine vr_iload_n (q := 15) dX1_sizeOf_14 rfl rfl ?_
    refine vr_iload_n (q := 16) dX1_sizeOf_15 rfl rfl ?_
    refine vr_iv4 (q := 19) dX1_sizeOf_16 rfl vX1_39 (Nat.le_of_ble_eq_true rfl) ?_
    refine c_run12 hX o ⟨by omega, by omega⟩ ⟨by omega, by omega⟩ ?_
    refine vr_iret dX1_sizeOf_19 rfl ?_
    first | exact kk | (exfalso; omega) | (repeat (first | exact kk | rw [if_pos (by omega)] at kk | rw [if_neg (by omega)] at kk))
  · rw [if_neg c1, if_neg c1] at kk
    rw [if_neg c1, if_neg (by omega), if_neg (by omega)]
    refine vr_iload_n (q := 15) dX1_sizeOf_14 rfl rfl ?_
    refine vr_iload_n (q := 16) dX1_sizeOf_15 rfl rfl ?_
    refine vr_iv4 (q := 19) dX1_sizeOf_16 rfl vX1_39 (Nat.le_of_ble_eq_true rfl) ?_
    refine c_run11 hX o ⟨by omega, by omega⟩ ⟨by omega, by omega⟩ ?_
    refine vr_iret dX1_sizeOf_19 rfl ?_
    first | exact kk | (exfalso; omega) | (repeat (first | exact kk | rw [if_pos (by omega)] at kk | rw [if_neg (by omega)] at kk))
theorem c_markOf {l e : Int} (hX : sx_ g) (o : ao_ h l) (hk : 1 ≤ h 8 l ∧ h 8 l ≤ 5) (he : 0 ≤ e ∧ e < 17) (kk : Post (some (sv_i (vm_ h l))) (zm_ h l)) : Ctr_ g (d + 6) mX1_markOf [sv_r 4 1 66, sv_r 4 6 7, sv_i l, sv_i e] h Post := by
  have o1 := o.1
  unfold vm_ zm_ at kk
  by_cases c4 : 4 ≤ h 8 l
  · rw [if_pos c4, if_pos c4] at kk
    refine V_mk (by decide +kernel) (Or.inr (Or.inl ⟨rfl, rfl⟩)) (Nat.le_of_ble_eq_true rfl) (by simp [sv_c]) ?_
    show V_ _ _ _ 0 [_, _, _, _] [] _ _
    refine vr_aload_n (q := 1) dX1_markOf_0 rfl rfl ?_
    refine vr_aload_n (q := 2) dX1_markOf_1 rfl rfl ?_
    refine vr_gets (i := 2) (q := 5) dX1_markOf_2 rfl (by decide) gX1_43 ?_
    refine vr_aload_n (q := 6) dX1_markOf_5 rfl rfl ?_
    refine vr_getR (q := 9) dX1_markOf_6 rfl fX1_30 rfl y_X7_4 (by first | (simp only [Int.reduceAdd]; rfl) | rfl) ?_
    refine vr_iload_n (q := 10) dX1_markOf_9 rfl rfl ?_
    refine vr_iald (q := 11) dX1_markOf_10 rfl ⟨by omega, by omega⟩ ?_
    refine vr_is2 (q := 14) dX1_markOf_11 rfl vX1_35 (Nat.le_of_ble_eq_true rfl) ?_
    refine c_nearM hX hk ?_
    skip
    rw [if_neg (by omega), if_neg (by omega), if_neg (by omega)]
    refine vr_iload_n (q := 15) dX1_markOf_14 rfl rfl ?_
    refine vr_iload_n (q := 16) dX1_markOf_15 rfl rfl ?_
    refine vr_iv4 (q := 19) dX1_markOf_16 rfl vX1_39 (Nat.le_of_ble_eq_true rfl) ?_
    refine c_run23 hX o ⟨by omega, by omega⟩ ⟨by omega, by omega⟩ ?_
    refine vr_iret dX1_markOf_19 rfl ?_
    first | exact kk | (exfalso; omega) | (repeat (first | exact kk | rw [if_pos (by omega)] at kk | rw [if_neg (by omega)] at kk))
  · rw [if_neg c4, if_neg c4] at kk
    exact c_markE hX o ⟨hk.1, by omega⟩ ⟨by omega, by omega⟩ kk
theorem c_answer {l w : Int} (hX : sx_ g) (o : ao_ h l) (hk : 1 ≤ h 8 l ∧ h 8 l ≤ 5) (kk : Post (some (sv_i (if w = 0 then vs_ (hs_ h 66 1 0) l else vm_ (hs_ h 66 1 0) l))) (if w = 0 then zs_ (hs_ h 66 1 0) l else zm_ (hs_ h 66 1 0) l)) : Ctr_ g (d + 8) mX1_answer [sv_r 4 1 66, sv_r 4 6 7, sv_i l, sv_i w] h Post := by
  have e8 : hs_ h 66 1 0 8 l = h 8 l := by rw [hs_k (by decide)]
  have o2 : ao_ (hs_ h 66 1 0) l := by
    obtain ⟨o1, o2, o3, o4⟩ := o
    refine ⟨o1, ?_, ?_, ?_⟩
    · rw [hs_k (by decide)]; exact o2
    · rw [hs_k (by decide)]; exact o3
    · rw [hs_e]; exact ⟨by decide, by decide⟩
  refine V_mk (by decide +kernel) (Or.inr (Or.inl ⟨rfl, rfl⟩)) (Nat.le_of_ble_eq_true rfl) (by simp [sv_c]) ?_
  show V_ _ _ _ 0 [_, _, _, _] [] _ _
  refine vr_aload_n (q := 1) dX1_answer_0 rfl rfl ?_
  refine vr_iconst (q := 2) dX1_answer_1 rfl ⟨by decide, by decide⟩ ?_
  refine vr_put (ji := 1) (q := 5) dX1_answer_2 rfl pX1_15 rfl rfl ?_
  refine vr_iload_n (q := 6) dX1_answer_5 rfl rfl ?_
  refine vr_if_ne (t := 19) (q := 9) dX1_answer_6 (by decide) rfl (fun c6 => ?_) (fun c6 => ?_)
  · refine vr_aload_n (q := 20) dX1_answer_19 rfl rfl ?_
    refine vr_aload_n (q := 21) dX1_answer_20 rfl rfl ?_
    refine vr_iload_n (q := 22) dX1_answer_21 rfl rfl ?_
    refine vr_iconst (q := 23) dX1_answer_22 rfl ⟨by decide, by decide⟩ ?_
    refine vr_iv3 (q := 26) dX1_answer_23 rfl vX1_23 (Nat.le_of_ble_eq_true rfl) ?_
    refine c_markOf hX o2 (by rw [e8]; exact hk) ⟨by decide, by decide⟩ ?_
    refine vr_iret dX1_answer_26 rfl ?_
    first | exact kk | (exfalso; omega) | (repeat (first | exact kk | rw [if_pos (by omega)] at kk | rw [if_neg (by omega)] at kk))
  · refine vr_aload_n (q := 10) dX1_answer_9 rfl rfl ?_
    refine vr_aload_n (q := 11) dX1_answer_10 rfl rfl ?_
    refine vr_iload_n (q := 12) dX1_answer_11 rfl rfl ?_
    refine vr_iconst (q := 13) dX1_answer_12 rfl ⟨by decide, by decide⟩ ?_
    refine vr_iv3 (q := 16) dX1_answer_13 rfl vX1_19 (Nat.le_of_ble_eq_true rfl) ?_
    refine c_sizeOf hX o2 (by rw [e8]; exact hk) ⟨by decide, by decide⟩ ?_
    refine vr_goto (q := 26) dX1_answer_16 (by decide) ?_
    refine vr_iret dX1_answer_26 rfl ?_
    first | exact kk | (exfalso; omega) | (repeat (first | exact kk | rw [if_pos (by omega)] at kk | rw [if_neg (by omega)] at kk))
end PA2_
