abbrev mL_law : MD_ := (yL_law, cL_law, 4, some .boolean, 2)
theorem nd_31 (x : Int) : 0 ≤ sb_iand x 31 ∧ sb_iand x 31 ≤ 31 := by
  have h1 : (Int32.ofInt x &&& Int32.ofInt 31).toBitVec = (Int32.ofInt x).toBitVec &&& 31#32 := rfl
  have e : sb_iand x 31 = ((Int32.ofInt x).toBitVec &&& 31#32).toInt := by
    show (Int32.ofInt x &&& Int32.ofInt 31).toInt = _
    rw [← h1]; rfl
  rw [e]
  generalize (Int32.ofInt x).toBitVec = y
  have h2 : (y &&& 31#32).toNat ≤ 31 := by
    rw [BitVec.toNat_and]
    exact Nat.and_le_right
  rw [BitVec.toInt_eq_toNat_of_lt (by omega)]
  omega
section PL_
variable {g : SG_} {d : Nat} {h : SH_} {Post : Option SV_ → SH_ → Prop}
theorem w_row {i : Int} (hX : sx_ g) (i0 : 0 ≤ i) (i8 : i + 8 ≤ ((sg_X g 3).1 : Int)) (hL : ((sg_X g 3).1 : Int) ≤ 512) (j : J_ h) (nx : ∀ h2, J_ h2 → V_ g (d + 15) mL_law 1236 [some (sv_r 5 3 0), some (sv_r 4 7 0), some (sv_r 4 8 68), some (sv_i i)] [] h2 Post) : V_ g (d + 15) mL_law 176 [some (sv_r 5 3 0), some (sv_r 4 7 0), some (sv_r 4 8 68), some (sv_i i)] [] h Post := by
  refine vr_aload_n (q := 177) dL_law_176 rfl rfl ?_
  refine vr_aload_n (q := 178) dL_law_177 rfl rfl ?_
  refine vr_iload_n (q := 179) dL_law_178 rfl rfl ?_
  refine vr_iconst (q := 180) dL_law_179 rfl ⟨by decide, by decide⟩ ?_
  refine vr_iaddN (q := 181) dL_law_180 rfl ⟨by omega, by omega⟩ ?_
  refine vr_xald (q := 182) dL_law_181 rfl ⟨by omega, by omega⟩ ?_
  refine vr_aload_n (q := 183) dL_law_182 rfl rfl ?_
  refine vr_iload_n (q := 184) dL_law_183 rfl rfl ?_
  refine vr_iconst (q := 185) dL_law_184 rfl ⟨by decide, by decide⟩ ?_
  refine vr_iaddN (q := 186) dL_law_185 rfl ⟨by omega, by omega⟩ ?_
  refine vr_xald (q := 187) dL_law_186 rfl ⟨by omega, by omega⟩ ?_
  refine vr_aload_n (q := 188) dL_law_187 rfl rfl ?_
  refine vr_iload_n (q := 189) dL_law_188 rfl rfl ?_
  refine vr_iconst (q := 190) dL_law_189 rfl ⟨by decide, by decide⟩ ?_
  refine vr_iaddN (q := 191) dL_law_190 rfl ⟨by omega, by omega⟩ ?_
  refine vr_xald (q := 192) dL_law_191 rfl ⟨by omega, by omega⟩ ?_
  -- at L.law 192: .invokevirtual 13
  refine vr_iv3 (q := 195) dL_law_192 rfl vL_13 (Nat.le_of_ble_eq_true rfl) ?_
  refine Ctr_imp (P_row j) (fun r1 h1 z1 => ?_)
  obtain ⟨v, rfl, k1⟩ := z1
  refine vr_aload_n (q := 196) dL_law_195 rfl rfl ?_
  refine vr_aload_n (q := 197) dL_law_196 rfl rfl ?_
  refine vr_iload_n (q := 198) dL_law_197 rfl rfl ?_
  refine vr_iconst (q := 199) dL_law_198 rfl ⟨by decide, by decide⟩ ?_
  refine vr_iaddN (q := 200) dL_law_199 rfl ⟨by omega, by omega⟩ ?_
  refine vr_xald (q := 201) dL_law_200 rfl ⟨by omega, by omega⟩ ?_
  refine vr_aload_n (q := 202) dL_law_201 rfl rfl ?_
  refine vr_iload_n (q := 203) dL_law_202 rfl rfl ?_
  refine vr_iconst (q := 204) dL_law_203 rfl ⟨by decide, by decide⟩ ?_
  refine vr_iaddN (q := 205) dL_law_204 rfl ⟨by omega, by omega⟩ ?_
  refine vr_xald (q := 206) dL_law_205 rfl ⟨by omega, by omega⟩ ?_
  refine vr_aload_n (q := 207) dL_law_206 rfl rfl ?_
  refine vr_iload_n (q := 208) dL_law_207 rfl rfl ?_
  refine vr_iconst (q := 209) dL_law_208 rfl ⟨by decide, by decide⟩ ?_
  refine vr_iaddN (q := 210) dL_law_209 rfl ⟨by omega, by omega⟩ ?_
  refine vr_xald (q := 211) dL_law_210 rfl ⟨by omega, by omega⟩ ?_
  -- at L.law 211: .invokevirtual 17
  refine vr_iv3 (q := 214) dL_law_211 rfl vL_17 (Nat.le_of_ble_eq_true rfl) ?_
  refine Ctr_imp k1 (fun r2 h2 z2 => ?_)
  obtain ⟨rfl, j2⟩ := z2
  refine vr_ic_eq (t := 1236) (q := 217) dL_law_214 (by decide) rfl (fun _ => ?_) (fun c9 => absurd c9 (by omega))
  exact nx h2 j2
theorem w_set {i : Int} (hX : sx_ g) (i0 : 0 ≤ i) (i8 : i + 8 ≤ ((sg_X g 3).1 : Int)) (hL : ((sg_X g 3).1 : Int) ≤ 512) (j : J_ h) (nx : ∀ h2, J_ h2 → V_ g (d + 15) mL_law 1236 [some (sv_r 5 3 0), some (sv_r 4 7 0), some (sv_r 4 8 68), some (sv_i i)] [] h2 Post) : V_ g (d + 15) mL_law 219 [some (sv_r 5 3 0), some (sv_r 4 7 0), some (sv_r 4 8 68), some (sv_i i)] [] h Post := by
  refine vr_aload_n (q := 220) dL_law_219 rfl rfl ?_
  refine vr_aload_n (q := 221) dL_law_220 rfl rfl ?_
  refine vr_iload_n (q := 222) dL_law_221 rfl rfl ?_
  refine vr_iconst (q := 223) dL_law_222 rfl ⟨by decide, by decide⟩ ?_
  refine vr_iaddN (q := 224) dL_law_223 rfl ⟨by omega, by omega⟩ ?_
  refine vr_xald (q := 225) dL_law_224 rfl ⟨by omega, by omega⟩ ?_
  refine vr_aload_n (q := 226) dL_law_225 rfl rfl ?_
  refine vr_iload_n (q := 227) dL_law_226 rfl rfl ?_
  refine vr_iconst (q := 228) dL_law_227 rfl ⟨by decide, by decide⟩ ?_
  refine vr_iaddN (q := 229) dL_law_228 rfl ⟨by omega, by omega⟩ ?_
  refine vr_xald (q := 230) dL_law_229 rfl ⟨by omega, by omega⟩ ?_
  refine vr_aload_n (q := 231) dL_law_230 rfl rfl ?_
  refine vr_iload_n (q := 232) dL_law_231 rfl rfl ?_
  refine vr_iconst (q := 233) dL_law_232 rfl ⟨by decide, by decide⟩ ?_
  refine vr_iaddN (q := 234) dL_law_233 rfl ⟨by omega, by omega⟩ ?_
  refine vr_xald (q := 235) dL_law_234 rfl ⟨by omega, by omega⟩ ?_
  -- at L.law 235: .invokevirtual 18
  refine vr_iv3 (q := 238) dL_law_235 rfl vL_18 (Nat.le_of_ble_eq_true rfl) ?_
  refine Ctr_imp (P_set j) (fun r1 h1 z1 => ?_)
  obtain ⟨v, rfl, k1⟩ := z1
  refine vr_aload_n (q := 239) dL_law_238 rfl rfl ?_
  refine vr_aload_n (q := 240) dL_law_239 rfl rfl ?_
  refine vr_iload_n (q := 241) dL_law_240 rfl rfl ?_
  refine vr_iconst (q := 242) dL_law_241 rfl ⟨by decide, by decide⟩ ?_
  refine vr_iaddN (q := 243) dL_law_242 rfl ⟨by omega, by omega⟩ ?_
  refine vr_xald (q := 244) dL_law_243 rfl ⟨by omega, by omega⟩ ?_
  refine vr_aload_n (q := 245) dL_law_244 rfl rfl ?_
  refine vr_iload_n (q := 246) dL_law_245 rfl rfl ?_
  refine vr_iconst (q := 247) dL_law_246 rfl ⟨by decide, by decide⟩ ?_
  refine vr_iaddN (q := 248) dL_law_247 rfl ⟨by omega, by omega⟩ ?_
  refine vr_xald (q := 249) dL_law_248 rfl ⟨by omega, by omega⟩ ?_
  refine vr_aload_n (q := 250) dL_law_249 rfl rfl ?_
  refine vr_iload_n (q := 251) dL_law_250 rfl rfl ?_
  refine vr_iconst (q := 252) dL_law_251 rfl ⟨by decide, by decide⟩ ?_
  refine vr_iaddN (q := 253) dL_law_252 rfl ⟨by omega, by omega⟩ ?_
  refine vr_xald (q := 254) dL_law_253 rfl ⟨by omega, by omega⟩ ?_
  -- at L.law 254: .invokevirtual 21
  refine vr_iv3 (q := 257) dL_law_254 rfl vL_21 (Nat.le_of_ble_eq_true rfl) ?_
  refine Ctr_imp k1 (fun r2 h2 z2 => ?_)
  obtain ⟨rfl, j2⟩ := z2
  refine vr_ic_eq (t := 1236) (q := 260) dL_law_257 (by decide) rfl (fun _ => ?_) (fun c9 => absurd c9 (by omega))
  exact nx h2 j2
theorem w_copy {i : Int} (hX : sx_ g) (i0 : 0 ≤ i) (i8 : i + 8 ≤ ((sg_X g 3).1 : Int)) (hL : ((sg_X g 3).1 : Int) ≤ 512) (j : J_ h) (nx : ∀ h2, J_ h2 → V_ g (d + 15) mL_law 1236 [some (sv_r 5 3 0), some (sv_r 4 7 0), some (sv_r 4 8 68), some (sv_i i)] [] h2 Post) : V_ g (d + 15) mL_law 262 [some (sv_r 5 3 0), some (sv_r 4 7 0), some (sv_r 4 8 68), some (sv_i i)] [] h Post := by
  refine vr_aload_n (q := 263) dL_law_262 rfl rfl ?_
  refine vr_aload_n (q := 264) dL_law_263 rfl rfl ?_
  refine vr_iload_n (q := 265) dL_law_264 rfl rfl ?_
  refine vr_iconst (q := 266) dL_law_265 rfl ⟨by decide, by decide⟩ ?_
  refine vr_iaddN (q := 267) dL_law_266 rfl ⟨by omega, by omega⟩ ?_
  refine vr_xald (q := 268) dL_law_267 rfl ⟨by omega, by omega⟩ ?_
  refine vr_aload_n (q := 269) dL_law_268 rfl rfl ?_
  refine vr_iload_n (q := 270) dL_law_269 rfl rfl ?_
  refine vr_iconst (q := 271) dL_law_270 rfl ⟨by decide, by decide⟩ ?_
  refine vr_iaddN (q := 272) dL_law_271 rfl ⟨by omega, by omega⟩ ?_
  refine vr_xald (q := 273) dL_law_272 rfl ⟨by omega, by omega⟩ ?_
  refine vr_aload_n (q := 274) dL_law_273 rfl rfl ?_
  refine vr_iload_n (q := 275) dL_law_274 rfl rfl ?_
  refine vr_iconst (q := 276) dL_law_275 rfl ⟨by decide, by decide⟩ ?_
  refine vr_iaddN (q := 277) dL_law_276 rfl ⟨by omega, by omega⟩ ?_
  refine vr_xald (q := 278) dL_law_277 rfl ⟨by omega, by omega⟩ ?_
  refine vr_aload_n (q := 279) dL_law_278 rfl rfl ?_
  refine vr_iload_n (q := 280) dL_law_279 rfl rfl ?_
  refine vr_iconst (q := 281) dL_law_280 rfl ⟨by decide, by decide⟩ ?_
  refine vr_iaddN (q := 282) dL_law_281 rfl ⟨by omega, by omega⟩ ?_
  refine vr_xald (q := 283) dL_law_282 rfl ⟨by omega, by omega⟩ ?_
  refine vr_aload_n (q := 284) dL_law_283 rfl rfl ?_
  refine vr_iload_n (q := 285) dL_law_284 rfl rfl ?_
  refine vr_iconst (q := 286) dL_law_285 rfl ⟨by decide, by decide⟩ ?_
  refine vr_iaddN (q := 287) dL_law_286 rfl ⟨by omega, by omega⟩ ?_
  refine vr_xald (q := 288) dL_law_287 rfl ⟨by omega, by omega⟩ ?_
  -- at L.law 288: .invokevirtual 22
  refine vr_iv5 (q := 291) dL_law_288 rfl vL_22 (Nat.le_of_ble_eq_true rfl) ?_
  refine Ctr_imp (P_copy j) (fun r1 h1 z1 => ?_)
  obtain ⟨v, rfl, k1⟩ := z1
  refine vr_aload_n (q := 292) dL_law_291 rfl rfl ?_
  refine vr_aload_n (q := 293) dL_law_292 rfl rfl ?_
  refine vr_iload_n (q := 294) dL_law_293 rfl rfl ?_
  refine vr_iconst (q := 295) dL_law_294 rfl ⟨by decide, by decide⟩ ?_
  refine vr_iaddN (q := 296) dL_law_295 rfl ⟨by omega, by omega⟩ ?_
  refine vr_xald (q := 297) dL_law_296 rfl ⟨by omega, by omega⟩ ?_
  refine vr_aload_n (q := 298) dL_law_297 rfl rfl ?_
  refine vr_iload_n (q := 299) dL_law_298 rfl rfl ?_
  refine vr_iconst (q := 300) dL_law_299 rfl ⟨by decide, by decide⟩ ?_
  refine vr_iaddN (q := 301) dL_law_300 rfl ⟨by omega, by omega⟩ ?_
  refine vr_xald (q := 302) dL_law_301 rfl ⟨by omega, by omega⟩ ?_
  refine vr_aload_n (q := 303) dL_law_302 rfl rfl ?_
  refine vr_iload_n (q := 304) dL_law_303 rfl rfl ?_
  refine vr_iconst (q := 305) dL_law_304 rfl ⟨by decide, by decide⟩ ?_
  refine vr_iaddN (q := 306) dL_law_305 rfl ⟨by omega, by omega⟩ ?_
  refine vr_xald (q := 307) dL_law_306 rfl ⟨by omega, by omega⟩ ?_
  refine vr_aload_n (q := 308) dL_law_307 rfl rfl ?_
  refine vr_iload_n (q := 309) dL_law_308 rfl rfl ?_
  refine vr_iconst (q := 310) dL_law_309 rfl ⟨by decide, by decide⟩ ?_
  refine vr_iaddN (q := 311) dL_law_310 rfl ⟨by omega, by omega⟩ ?_
  refine vr_xald (q := 312) dL_law_311 rfl ⟨by omega, by omega⟩ ?_
  refine vr_aload_n (q := 313) dL_law_312 rfl rfl ?_
  refine vr_iload_n (q := 314) dL_law_313 rfl rfl ?_
  refine vr_iconst (q := 315) dL_law_314 rfl ⟨by decide, by decide⟩ ?_
  refine vr_iaddN (q := 316) dL_law_315 rfl ⟨by omega, by omega⟩ ?_
  refine vr_xald (q := 317) dL_law_316 rfl ⟨by omega, by omega⟩ ?_
  -- at L.law 317: .invokevirtual 26
  refine vr_iv5 (q := 320) dL_law_317 rfl vL_26 (Nat.le_of_ble_eq_true rfl) ?_
  refine Ctr_imp k1 (fun r2 h2 z2 => ?_)
  obtain ⟨rfl, j2⟩ := z2
  refine vr_ic_eq (t := 1236) (q := 323) dL_law_320 (by decide) rfl (fun _ => ?_) (fun c9 => absurd c9 (by omega))
  exact nx h2 j2
theorem w_drop {i : Int} (hX : sx_ g) (i0 : 0 ≤ i) (i8 : i + 8 ≤ ((sg_X g 3).1 : Int)) (hL : ((sg_X g 3).1 : Int) ≤ 512) (j : J_ h) (nx : ∀ h2, J_ h2 → V_ g (d + 15) mL_law 1236 [some (sv_r 5 3 0), some (sv_r 4 7 0), some (sv_r 4 8 68), some (sv_i i)] [] h2 Post) : V_ g (d + 15) mL_law 325 [some (sv_r 5 3 0), some (sv_r 4 7 0), some (sv_r 4 8 68), some (sv_i i)] [] h Post := by
  refine vr_aload_n (q := 326) dL_law_325 rfl rfl ?_
  refine vr_aload_n (q := 327) dL_law_326 rfl rfl ?_
  refine vr_iload_n (q := 328) dL_law_327 rfl rfl ?_
  refine vr_iconst (q := 329) dL_law_328 rfl ⟨by decide, by decide⟩ ?_
  refine vr_iaddN (q := 330) dL_law_329 rfl ⟨by omega, by omega⟩ ?_
  refine vr_xald (q := 331) dL_law_330 rfl ⟨by omega, by omega⟩ ?_
  -- at L.law 331: .invokevirtual 27
  refine vr_iv1 (q := 334) dL_law_331 rfl vL_27 (Nat.le_of_ble_eq_true rfl) ?_
  refine Ctr_imp (P_drop j) (fun r1 h1 z1 => ?_)
  obtain ⟨v, rfl, k1⟩ := z1
  refine vr_aload_n (q := 335) dL_law_334 rfl rfl ?_
  refine vr_aload_n (q := 336) dL_law_335 rfl rfl ?_
  refine vr_iload_n (q := 337) dL_law_336 rfl rfl ?_
  refine vr_iconst (q := 338) dL_law_337 rfl ⟨by decide, by decide⟩ ?_
  refine vr_iaddN (q := 339) dL_law_338 rfl ⟨by omega, by omega⟩ ?_
  refine vr_xald (q := 340) dL_law_339 rfl ⟨by omega, by omega⟩ ?_
  -- at L.law 340: .invokevirtual 31
  refine vr_iv1 (q := 343) dL_law_340 rfl vL_31 (Nat.le_of_ble_eq_true rfl) ?_
  refine Ctr_imp k1 (fun r2 h2 z2 => ?_)
  obtain ⟨rfl, j2⟩ := z2
  refine vr_ic_eq (t := 1236) (q := 346) dL_law_343 (by decide) rfl (fun _ => ?_) (fun c9 => absurd c9 (by omega))
  exact nx h2 j2
theorem w_feed {i : Int} (hX : sx_ g) (i0 : 0 ≤ i) (i8 : i + 8 ≤ ((sg_X g 3).1 : Int)) (hL : ((sg_X g 3).1 : Int) ≤ 512) (j : J_ h) (nx : ∀ h2, J_ h2 → V_ g (d + 15) mL_law 1236 [some (sv_r 5 3 0), some (sv_r 4 7 0), some (sv_r 4 8 68), some (sv_i i)] [] h2 Post) : V_ g (d + 15) mL_law 348 [some (sv_r 5 3 0), some (sv_r 4 7 0), some (sv_r 4 8 68), some (sv_i i)] [] h Post := by
  refine vr_aload_n (q := 349) dL_law_348 rfl rfl ?_
  refine vr_aload_n (q := 350) dL_law_349 rfl rfl ?_
  refine vr_iload_n (q := 351) dL_law_350 rfl rfl ?_
  refine vr_iconst (q := 352) dL_law_351 rfl ⟨by decide, by decide⟩ ?_
  refine vr_iaddN (q := 353) dL_law_352 rfl ⟨by omega, by omega⟩ ?_
  refine vr_xald (q := 354) dL_law_353 rfl ⟨by omega, by omega⟩ ?_
  -- at L.law 354: .invokevirtual 32
  refine vr_iv1 (q := 357) dL_law_354 rfl vL_32 (Nat.le_of_ble_eq_true rfl) ?_
  refine Ctr_imp (P_feed j) (fun r1 h1 z1 => ?_)
  obtain ⟨v, rfl, k1⟩ := z1
  refine vr_aload_n (q := 358) dL_law_357 rfl rfl ?_
  refine vr_aload_n (q := 359) dL_law_358 rfl rfl ?_
  refine vr_iload_n (q := 360) dL_law_359 rfl rfl ?_
  refine vr_iconst (q := 361) dL_law_360 rfl ⟨by decide, by decide⟩ ?_
  refine vr_iaddN (q := 362) dL_law_361 rfl ⟨by omega, by omega⟩ ?_
  refine vr_xald (q := 363) dL_law_362 rfl ⟨by omega, by omega⟩ ?_
  -- at L.law 363: .invokevirtual 35
  refine vr_iv1 (q := 366) dL_law_363 rfl vL_35 (Nat.le_of_ble_eq_true rfl) ?_
  refine Ctr_imp k1 (fun r2 h2 z2 => ?_)
  obtain ⟨rfl, j2⟩ := z2
  refine vr_ic_eq (t := 1236) (q := 369) dL_law_366 (by decide) rfl (fun _ => ?_) (fun c9 => absurd c9 (by omega))
  exact nx h2 j2
theorem w_town {i : Int} (hX : sx_ g) (i0 : 0 ≤ i) (i8 : i + 8 ≤ ((sg_X g 3).1 : Int)) (hL : ((sg_X g 3).1 : Int) ≤ 512) (j : J_ h) (nx : ∀ h2, J_ h2 → V_ g (d + 15) mL_law 1236 [some (sv_r 5 3 0), some (sv_r 4 7 0), some (sv_r 4 8 68), some (sv_i i)] [] h2 Post) : V_ g (d + 15) mL_law 371 [some (sv_r 5 3 0), some (sv_r 4 7 0), some (sv_r 4 8 68), some (sv_i i)] [] h Post := by
  refine vr_aload_n (q := 372) dL_law_371 rfl rfl ?_
  -- at L.law 372: .invokevirtual 36
  refine vr_iv0 (q := 375) dL_law_372 rfl vL_36 (Nat.le_of_ble_eq_true rfl) ?_
  refine Ctr_imp (P_town j) (fun r1 h1 z1 => ?_)
  obtain ⟨v, rfl, k1⟩ := z1
  refine vr_aload_n (q := 376) dL_law_375 rfl rfl ?_
  -- at L.law 376: .invokevirtual 40
  refine vr_iv0 (q := 379) dL_law_376 rfl vL_40 (Nat.le_of_ble_eq_true rfl) ?_
  refine Ctr_imp k1 (fun r2 h2 z2 => ?_)
  obtain ⟨rfl, j2⟩ := z2
  refine vr_ic_eq (t := 1236) (q := 382) dL_law_379 (by decide) rfl (fun _ => ?_) (fun c9 => absurd c9 (by omega))
  exact nx h2 j2
theorem w_fault {i : Int} (hX : sx_ g) (i0 : 0 ≤ i) (i8 : i + 8 ≤ ((sg_X g 3).1 : Int)) (hL : ((sg_X g 3).1 : Int) ≤ 512) (j : J_ h) (nx : ∀ h2, J_ h2 → V_ g (d + 15) mL_law 1236 [some (sv_r 5 3 0), some (sv_r 4 7 0), some (sv_r 4 8 68), some (sv_i i)] [] h2 Post) : V_ g (d + 15) mL_law 384 [some (sv_r 5 3 0), some (sv_r 4 7 0), some (sv_r 4 8 68), some (sv_i i)] [] h Post := by
  refine vr_aload_n (q := 385) dL_law_384 rfl rfl ?_
  -- at L.law 385: .invokevirtual 41
  refine vr_iv0 (q := 388) dL_law_385 rfl vL_41 (Nat.le_of_ble_eq_true rfl) ?_
  refine Ctr_imp (P_fault j) (fun r1 h1 z1 => ?_)
  obtain ⟨v, rfl, k1⟩ := z1
  refine vr_aload_n (q := 389) dL_law_388 rfl rfl ?_
  -- at L.law 389: .invokevirtual 44
  refine vr_iv0 (q := 392) dL_law_389 rfl vL_44 (Nat.le_of_ble_eq_true rfl) ?_
  refine Ctr_imp k1 (fun r2 h2 z2 => ?_)
  obtain ⟨rfl, j2⟩ := z2
  refine vr_ic_eq (t := 1236) (q := 395) dL_law_392 (by decide) rfl (fun _ => ?_) (fun c9 => absurd c9 (by omega))
  exact nx h2 j2
theorem w_tell {i : Int} (hX : sx_ g) (i0 : 0 ≤ i) (i8 : i + 8 ≤ ((sg_X g 3).1 : Int)) (hL : ((sg_X g 3).1 : Int) ≤ 512) (j : J_ h) (nx : ∀ h2, J_ h2 → V_ g (d + 15) mL_law 1236 [some (sv_r 5 3 0), some (sv_r 4 7 0), some (sv_r 4 8 68), some (sv_i i)] [] h2 Post) : V_ g (d + 15) mL_law 397 [some (sv_r 5 3 0), some (sv_r 4 7 0), some (sv_r 4 8 68), some (sv_i i)] [] h Post := by
  refine vr_aload_n (q := 398) dL_law_397 rfl rfl ?_
  refine vr_aload_n (q := 399) dL_law_398 rfl rfl ?_
  refine vr_iload_n (q := 400) dL_law_399 rfl rfl ?_
  refine vr_iconst (q := 401) dL_law_400 rfl ⟨by decide, by decide⟩ ?_
  refine vr_iaddN (q := 402) dL_law_401 rfl ⟨by omega, by omega⟩ ?_
  refine vr_xald (q := 403) dL_law_402 rfl ⟨by omega, by omega⟩ ?_
  refine vr_aload_n (q := 404) dL_law_403 rfl rfl ?_
  refine vr_iload_n (q := 405) dL_law_404 rfl rfl ?_
  refine vr_iconst (q := 406) dL_law_405 rfl ⟨by decide, by decide⟩ ?_
  refine vr_iaddN (q := 407) dL_law_406 rfl ⟨by omega, by omega⟩ ?_
  refine vr_xald (q := 408) dL_law_407 rfl ⟨by omega, by omega⟩ ?_
  -- at L.law 408: .invokevirtual 45
  refine vr_iv2 (q := 411) dL_law_408 rfl vL_45 (Nat.le_of_ble_eq_true rfl) ?_
  refine Ctr_imp (P_tell j) (fun r1 h1 z1 => ?_)
  obtain ⟨v, rfl, k1⟩ := z1
  refine vr_aload_n (q := 412) dL_law_411 rfl rfl ?_
  refine vr_aload_n (q := 413) dL_law_412 rfl rfl ?_
  refine vr_iload_n (q := 414) dL_law_413 rfl rfl ?_
  refine vr_iconst (q := 415) dL_law_414 rfl ⟨by decide, by decide⟩ ?_
  refine vr_iaddN (q := 416) dL_law_415 rfl ⟨by omega, by omega⟩ ?_
  refine vr_xald (q := 417) dL_law_416 rfl ⟨by omega, by omega⟩ ?_
  refine vr_aload_n (q := 418) dL_law_417 rfl rfl ?_
  refine vr_iload_n (q := 419) dL_law_418 rfl rfl ?_
  refine vr_iconst (q := 420) dL_law_419 rfl ⟨by decide, by decide⟩ ?_
  refine vr_iaddN (q := 421) dL_law_420 rfl ⟨by omega, by omega⟩ ?_
  refine vr_xald (q := 422) dL_law_421 rfl ⟨by omega, by omega⟩ ?_
  -- at L.law 422: .invokevirtual 49
  refine vr_iv2 (q := 425) dL_law_422 rfl vL_49 (Nat.le_of_ble_eq_true rfl) ?_
  refine Ctr_imp k1 (fun r2 h2 z2 => ?_)
  obtain ⟨rfl, j2⟩ := z2
  refine vr_ic_eq (t := 1236) (q := 428) dL_law_425 (by decide) rfl (fun _ => ?_) (fun c9 => absurd c9 (by omega))
  exact nx h2 j2
theorem w_supper {i : Int} (hX : sx_ g) (i0 : 0 ≤ i) (i8 : i + 8 ≤ ((sg_X g 3).1 : Int)) (hL : ((sg_X g 3).1 : Int) ≤ 512) (j : J_ h) (nx : ∀ h2, J_ h2 → V_ g (d + 15) mL_law 1236 [some (sv_r 5 3 0), some (sv_r 4 7 0), some (sv_r 4 8 68), some (sv_i i)] [] h2 Post) : V_ g (d + 15) mL_law 430 [some (sv_r 5 3 0), some (sv_r 4 7 0), some (sv_r 4 8 68), some (sv_i i)] [] h Post := by
  refine vr_aload_n (q := 431) dL_law_430 rfl rfl ?_
  refine vr_aload_n (q := 432) dL_law_431 rfl rfl ?_
  refine vr_iload_n (q := 433) dL_law_432 rfl rfl ?_
  refine vr_iconst (q := 434) dL_law_433 rfl ⟨by decide, by decide⟩ ?_
  refine vr_iaddN (q := 435) dL_law_434 rfl ⟨by omega, by omega⟩ ?_
  refine vr_xald (q := 436) dL_law_435 rfl ⟨by omega, by omega⟩ ?_
  -- at L.law 436: .invokevirtual 50
  refine vr_iv1 (q := 439) dL_law_436 rfl vL_50 (Nat.le_of_ble_eq_true rfl) ?_
  refine Ctr_imp (P_supper j) (fun r1 h1 z1 => ?_)
  obtain ⟨v, rfl, k1⟩ := z1
  refine vr_aload_n (q := 440) dL_law_439 rfl rfl ?_
  refine vr_aload_n (q := 441) dL_law_440 rfl rfl ?_
  refine vr_iload_n (q := 442) dL_law_441 rfl rfl ?_
  refine vr_iconst (q := 443) dL_law_442 rfl ⟨by decide, by decide⟩ ?_
  refine vr_iaddN (q := 444) dL_law_443 rfl ⟨by omega, by omega⟩ ?_
  refine vr_xald (q := 445) dL_law_444 rfl ⟨by omega, by omega⟩ ?_
  -- at L.law 445: .invokevirtual 53
  refine vr_iv1 (q := 448) dL_law_445 rfl vL_53 (Nat.le_of_ble_eq_true rfl) ?_
  refine Ctr_imp k1 (fun r2 h2 z2 => ?_)
  obtain ⟨rfl, j2⟩ := z2
  refine vr_ic_eq (t := 1236) (q := 451) dL_law_448 (by decide) rfl (fun _ => ?_) (fun c9 => absurd c9 (by omega))
  exact nx h2 j2
theorem w_forget {i : Int} (hX : sx_ g) (i0 : 0 ≤ i) (i8 : i + 8 ≤ ((sg_X g 3).1 : Int)) (hL : ((sg_X g 3).1 : Int) ≤ 512) (j : J_ h) (nx : ∀ h2, J_ h2 → V_ g (d + 15) mL_law 1236 [some (sv_r 5 3 0), some (sv_r 4 7 0), some (sv_r 4 8 68), some (sv_i i)] [] h2 Post) : V_ g (d + 15) mL_law 453 [some (sv_r 5 3 0), some (sv_r 4 7 0), some (sv_r 4 8 68), some (sv_i i)] [] h Post := by
  refine vr_aload_n (q := 454) dL_law_453 rfl rfl ?_
  refine vr_aload_n (q := 455) dL_law_454 rfl rfl ?_
  refine vr_iload_n (q := 456) dL_law_455 rfl rfl ?_
  refine vr_iconst (q := 457) dL_law_456 rfl ⟨by decide, by decide⟩ ?_
  refine vr_iaddN (q := 458) dL_law_457 rfl ⟨by omega, by omega⟩ ?_
  refine vr_xald (q := 459) dL_law_458 rfl ⟨by omega, by omega⟩ ?_
  refine vr_aload_n (q := 460) dL_law_459 rfl rfl ?_
  refine vr_iload_n (q := 461) dL_law_460 rfl rfl ?_
  refine vr_iconst (q := 462) dL_law_461 rfl ⟨by decide, by decide⟩ ?_
  refine vr_iaddN (q := 463) dL_law_462 rfl ⟨by omega, by omega⟩ ?_
  refine vr_xald (q := 464) dL_law_463 rfl ⟨by omega, by omega⟩ ?_
  -- at L.law 464: .invokevirtual 54
  refine vr_iv2 (q := 467) dL_law_464 rfl vL_54 (Nat.le_of_ble_eq_true rfl) ?_
  refine Ctr_imp (P_forget j) (fun r1 h1 z1 => ?_)
  obtain ⟨v, rfl, k1⟩ := z1
  refine vr_aload_n (q := 468) dL_law_467 rfl rfl ?_
  refine vr_aload_n (q := 469) dL_law_468 rfl rfl ?_
  refine vr_iload_n (q := 470) dL_law_469 rfl rfl ?_
  refine vr_iconst (q := 471) dL_law_470 rfl ⟨by decide, by decide⟩ ?_
  refine vr_iaddN (q := 472) dL_law_471 rfl ⟨by omega, by omega⟩ ?_
  refine vr_xald (q := 473) dL_law_472 rfl ⟨by omega, by omega⟩ ?_
  refine vr_aload_n (q := 474) dL_law_473 rfl rfl ?_
  refine vr_iload_n (q := 475) dL_law_474 rfl rfl ?_
  refine vr_iconst (q := 476) dL_law_475 rfl ⟨by decide, by decide⟩ ?_
  refine vr_iaddN (q := 477) dL_law_476 rfl ⟨by omega, by omega⟩ ?_
  refine vr_xald (q := 478) dL_law_477 rfl ⟨by omega, by omega⟩ ?_
  -- at L.law 478: .invokevirtual 57
  refine vr_iv2 (q := 481) dL_law_478 rfl vL_57 (Nat.le_of_ble_eq_true rfl) ?_
  refine Ctr_imp k1 (fun r2 h2 z2 => ?_)
  obtain ⟨rfl, j2⟩ := z2
  refine vr_ic_eq (t := 1236) (q := 484) dL_law_481 (by decide) rfl (fun _ => ?_) (fun c9 => absurd c9 (by omega))
  exact nx h2 j2
theorem w_undo {i : Int} (hX : sx_ g) (i0 : 0 ≤ i) (i8 : i + 8 ≤ ((sg_X g 3).1 : Int)) (hL : ((sg_X g 3).1 : Int) ≤ 512) (j : J_ h) (nx : ∀ h2, J_ h2 → V_ g (d + 15) mL_law 1236 [some (sv_r 5 3 0), some (sv_r 4 7 0), some (sv_r 4 8 68), some (sv_i i)] [] h2 Post) : V_ g (d + 15) mL_law 486 [some (sv_r 5 3 0), some (sv_r 4 7 0), some (sv_r 4 8 68), some (sv_i i)] [] h Post := by
  refine vr_aload_n (q := 487) dL_law_486 rfl rfl ?_
  -- at L.law 487: .invokevirtual 58
  refine vr_iv0 (q := 490) dL_law_487 rfl vL_58 (Nat.le_of_ble_eq_true rfl) ?_
  refine Ctr_imp (P_undo j) (fun r1 h1 z1 => ?_)
  obtain ⟨v, rfl, k1⟩ := z1
  refine vr_aload_n (q := 491) dL_law_490 rfl rfl ?_
  -- at L.law 491: .invokevirtual 61
  refine vr_iv0 (q := 494) dL_law_491 rfl vL_61 (Nat.le_of_ble_eq_true rfl) ?_
  refine Ctr_imp k1 (fun r2 h2 z2 => ?_)
  obtain ⟨rfl, j2⟩ := z2
  refine vr_ic_eq (t := 1236) (q := 497) dL_law_494 (by decide) rfl (fun _ => ?_) (fun c9 => absurd c9 (by omega))
  exact nx h2 j2
theorem w_lie {i : Int} (hX : sx_ g) (i0 : 0 ≤ i) (i8 : i + 8 ≤ ((sg_X g 3).1 : Int)) (hL : ((sg_X g 3).1 : Int) ≤ 512) (j : J_ h) (nx : ∀ h2, J_ h2 → V_ g (d + 15) mL_law 1236 [some (sv_r 5 3 0), some (sv_r 4 7 0), some (sv_r 4 8 68), some (sv_i i)] [] h2 Post) : V_ g (d + 15) mL_law 499 [some (sv_r 5 3 0), some (sv_r 4 7 0), some (sv_r 4 8 68), some (sv_i i)] [] h Post := by
  refine vr_aload_n (q := 500) dL_law_499 rfl rfl ?_
  refine vr_aload_n (q := 501) dL_law_500 rfl rfl ?_
  refine vr_iload_n (q := 502) dL_law_501 rfl rfl ?_
  refine vr_iconst (q := 503) dL_law_502 rfl ⟨by decide, by decide⟩ ?_
  refine vr_iaddN (q := 504) dL_law_503 rfl ⟨by omega, by omega⟩ ?_
  refine vr_xald (q := 505) dL_law_504 rfl ⟨by omega, by omega⟩ ?_
  refine vr_aload_n (q := 506) dL_law_505 rfl rfl ?_
  refine vr_iload_n (q := 507) dL_law_506 rfl rfl ?_
  refine vr_iconst (q := 508) dL_law_507 rfl ⟨by decide, by decide⟩ ?_
  refine vr_iaddN (q := 509) dL_law_508 rfl ⟨by omega, by omega⟩ ?_
  refine vr_xald (q := 510) dL_law_509 rfl ⟨by omega, by omega⟩ ?_
  -- at L.law 510: .invokevirtual 62
  refine vr_iv2 (q := 513) dL_law_510 rfl vL_62 (Nat.le_of_ble_eq_true rfl) ?_
  refine Ctr_imp (P_lie j) (fun r1 h1 z1 => ?_)
  obtain ⟨v, rfl, k1⟩ := z1
  refine vr_aload_n (q := 514) dL_law_513 rfl rfl ?_
  refine vr_aload_n (q := 515) dL_law_514 rfl rfl ?_
  refine vr_iload_n (q := 516) dL_law_515 rfl rfl ?_
  refine vr_iconst (q := 517) dL_law_516 rfl ⟨by decide, by decide⟩ ?_
  refine vr_iaddN (q := 518) dL_law_517 rfl ⟨by omega, by omega⟩ ?_
  refine vr_xald (q := 519) dL_law_518 rfl ⟨by omega, by omega⟩ ?_
  refine vr_aload_n (q := 520) dL_law_519 rfl rfl ?_
  refine vr_iload_n (q := 521) dL_law_520 rfl rfl ?_
  refine vr_iconst (q := 522) dL_law_521 rfl ⟨by decide, by decide⟩ ?_
  refine vr_iaddN (q := 523) dL_law_522 rfl ⟨by omega, by omega⟩ ?_
  refine vr_xald (q := 524) dL_law_523 rfl ⟨by omega, by omega⟩ ?_
  -- at L.law 524: .invokevirtual 65
  refine vr_iv2 (q := 527) dL_law_524 rfl vL_65 (Nat.le_of_ble_eq_true rfl) ?_
  refine Ctr_imp k1 (fun r2 h2 z2 => ?_)
  obtain ⟨rfl, j2⟩ := z2
  refine vr_ic_eq (t := 1236) (q := 530) dL_law_527 (by decide) rfl (fun _ => ?_) (fun c9 => absurd c9 (by omega))
  exact nx h2 j2
theorem w_stranger {i : Int} (hX : sx_ g) (i0 : 0 ≤ i) (i8 : i + 8 ≤ ((sg_X g 3).1 : Int)) (hL : ((sg_X g 3).1 : Int) ≤ 512) (j : J_ h) (nx : ∀ h2, J_ h2 → V_ g (d + 15) mL_law 1236 [some (sv_r 5 3 0), some (sv_r 4 7 0), some (sv_r 4 8 68), some (sv_i i)] [] h2 Post) : V_ g (d + 15) mL_law 532 [some (sv_r 5 3 0), some (sv_r 4 7 0), some (sv_r 4 8 68), some (sv_i i)] [] h Post := by
  refine vr_aload_n (q := 533) dL_law_532 rfl rfl ?_
  refine vr_aload_n (q := 534) dL_law_533 rfl rfl ?_
  refine vr_iload_n (q := 535) dL_law_534 rfl rfl ?_
  refine vr_iconst (q := 536) dL_law_535 rfl ⟨by decide, by decide⟩ ?_
  refine vr_iaddN (q := 537) dL_law_536 rfl ⟨by omega, by omega⟩ ?_
  refine vr_xald (q := 538) dL_law_537 rfl ⟨by omega, by omega⟩ ?_
  refine vr_aload_n (q := 539) dL_law_538 rfl rfl ?_
  refine vr_iload_n (q := 540) dL_law_539 rfl rfl ?_
  refine vr_iconst (q := 541) dL_law_540 rfl ⟨by decide, by decide⟩ ?_
  refine vr_iaddN (q := 542) dL_law_541 rfl ⟨by omega, by omega⟩ ?_
  refine vr_xald (q := 543) dL_law_542 rfl ⟨by omega, by omega⟩ ?_
  -- at L.law 543: .invokevirtual 66
  refine vr_iv2 (q := 546) dL_law_543 rfl vL_66 (Nat.le_of_ble_eq_true rfl) ?_
  refine Ctr_imp (P_stranger j) (fun r1 h1 z1 => ?_)
  obtain ⟨v, rfl, k1⟩ := z1
  refine vr_aload_n (q := 547) dL_law_546 rfl rfl ?_
  refine vr_aload_n (q := 548) dL_law_547 rfl rfl ?_
  refine vr_iload_n (q := 549) dL_law_548 rfl rfl ?_
  refine vr_iconst (q := 550) dL_law_549 rfl ⟨by decide, by decide⟩ ?_
  refine vr_iaddN (q := 551) dL_law_550 rfl ⟨by omega, by omega⟩ ?_
  refine vr_xald (q := 552) dL_law_551 rfl ⟨by omega, by omega⟩ ?_
  refine vr_aload_n (q := 553) dL_law_552 rfl rfl ?_
  refine vr_iload_n (q := 554) dL_law_553 rfl rfl ?_
  refine vr_iconst (q := 555) dL_law_554 rfl ⟨by decide, by decide⟩ ?_
  refine vr_iaddN (q := 556) dL_law_555 rfl ⟨by omega, by omega⟩ ?_
  refine vr_xald (q := 557) dL_law_556 rfl ⟨by omega, by omega⟩ ?_
  -- at L.law 557: .invokevirtual 69
  refine vr_iv2 (q := 560) dL_law_557 rfl vL_69 (Nat.le_of_ble_eq_true rfl) ?_
  refine Ctr_imp k1 (fun r2 h2 z2 => ?_)
  obtain ⟨rfl, j2⟩ := z2
  refine vr_ic_eq (t := 1236) (q := 563) dL_law_560 (by decide) rfl (fun _ => ?_) (fun c9 => absurd c9 (by omega))
  exact nx h2 j2
theorem w_need {i : Int} (hX : sx_ g) (i0 : 0 ≤ i) (i8 : i + 8 ≤ ((sg_X g 3).1 : Int)) (hL : ((sg_X g 3).1 : Int) ≤ 512) (j : J_ h) (nx : ∀ h2, J_ h2 → V_ g (d + 15) mL_law 1236 [some (sv_r 5 3 0), some (sv_r 4 7 0), some (sv_r 4 8 68), some (sv_i i)] [] h2 Post) : V_ g (d + 15) mL_law 565 [some (sv_r 5 3 0), some (sv_r 4 7 0), some (sv_r 4 8 68), some (sv_i i)] [] h Post := by
  refine vr_aload_n (q := 566) dL_law_565 rfl rfl ?_
  refine vr_aload_n (q := 567) dL_law_566 rfl rfl ?_
  refine vr_iload_n (q := 568) dL_law_567 rfl rfl ?_
  refine vr_iconst (q := 569) dL_law_568 rfl ⟨by decide, by decide⟩ ?_
  refine vr_iaddN (q := 570) dL_law_569 rfl ⟨by omega, by omega⟩ ?_
  refine vr_xald (q := 571) dL_law_570 rfl ⟨by omega, by omega⟩ ?_
  refine vr_aload_n (q := 572) dL_law_571 rfl rfl ?_
  refine vr_iload_n (q := 573) dL_law_572 rfl rfl ?_
  refine vr_iconst (q := 574) dL_law_573 rfl ⟨by decide, by decide⟩ ?_
  refine vr_iaddN (q := 575) dL_law_574 rfl ⟨by omega, by omega⟩ ?_
  refine vr_xald (q := 576) dL_law_575 rfl ⟨by omega, by omega⟩ ?_
  -- at L.law 576: .invokevirtual 70
  refine vr_iv2 (q := 579) dL_law_576 rfl vL_70 (Nat.le_of_ble_eq_true rfl) ?_
  refine Ctr_imp (P_need j) (fun r1 h1 z1 => ?_)
  obtain ⟨v, rfl, k1⟩ := z1
  refine vr_aload_n (q := 580) dL_law_579 rfl rfl ?_
  refine vr_aload_n (q := 581) dL_law_580 rfl rfl ?_
  refine vr_iload_n (q := 582) dL_law_581 rfl rfl ?_
  refine vr_iconst (q := 583) dL_law_582 rfl ⟨by decide, by decide⟩ ?_
  refine vr_iaddN (q := 584) dL_law_583 rfl ⟨by omega, by omega⟩ ?_
  refine vr_xald (q := 585) dL_law_584 rfl ⟨by omega, by omega⟩ ?_
  refine vr_aload_n (q := 586) dL_law_585 rfl rfl ?_
  refine vr_iload_n (q := 587) dL_law_586 rfl rfl ?_
  refine vr_iconst (q := 588) dL_law_587 rfl ⟨by decide, by decide⟩ ?_
  refine vr_iaddN (q := 589) dL_law_588 rfl ⟨by omega, by omega⟩ ?_
  refine vr_xald (q := 590) dL_law_589 rfl ⟨by omega, by omega⟩ ?_
  -- at L.law 590: .invokevirtual 73
  refine vr_iv2 (q := 593) dL_law_590 rfl vL_73 (Nat.le_of_ble_eq_true rfl) ?_
  refine Ctr_imp k1 (fun r2 h2 z2 => ?_)
  obtain ⟨rfl, j2⟩ := z2
  refine vr_ic_eq (t := 1236) (q := 596) dL_law_593 (by decide) rfl (fun _ => ?_) (fun c9 => absurd c9 (by omega))
  exact nx h2 j2
theorem w_nods {i : Int} (hX : sx_ g) (i0 : 0 ≤ i) (i8 : i + 8 ≤ ((sg_X g 3).1 : Int)) (hL : ((sg_X g 3).1 : Int) ≤ 512) (j : J_ h) (nx : ∀ h2, J_ h2 → V_ g (d + 15) mL_law 1236 [some (sv_r 5 3 0), some (sv_r 4 7 0), some (sv_r 4 8 68), some (sv_i i)] [] h2 Post) : V_ g (d + 15) mL_law 598 [some (sv_r 5 3 0), some (sv_r 4 7 0), some (sv_r 4 8 68), some (sv_i i)] [] h Post := by
  refine vr_aload_n (q := 599) dL_law_598 rfl rfl ?_
  refine vr_aload_n (q := 600) dL_law_599 rfl rfl ?_
  refine vr_iload_n (q := 601) dL_law_600 rfl rfl ?_
  refine vr_iconst (q := 602) dL_law_601 rfl ⟨by decide, by decide⟩ ?_
  refine vr_iaddN (q := 603) dL_law_602 rfl ⟨by omega, by omega⟩ ?_
  refine vr_xald (q := 604) dL_law_603 rfl ⟨by omega, by omega⟩ ?_
  -- at L.law 604: .invokevirtual 74
  refine vr_iv1 (q := 607) dL_law_604 rfl vL_74 (Nat.le_of_ble_eq_true rfl) ?_
  refine Ctr_imp (P_nods j) (fun r1 h1 z1 => ?_)
  obtain ⟨v, rfl, k1⟩ := z1
  refine vr_aload_n (q := 608) dL_law_607 rfl rfl ?_
  refine vr_aload_n (q := 609) dL_law_608 rfl rfl ?_
  refine vr_iload_n (q := 610) dL_law_609 rfl rfl ?_
  refine vr_iconst (q := 611) dL_law_610 rfl ⟨by decide, by decide⟩ ?_
  refine vr_iaddN (q := 612) dL_law_611 rfl ⟨by omega, by omega⟩ ?_
  refine vr_xald (q := 613) dL_law_612 rfl ⟨by omega, by omega⟩ ?_
  -- at L.law 613: .invokevirtual 77
  refine vr_iv1 (q := 616) dL_law_613 rfl vL_77 (Nat.le_of_ble_eq_true rfl) ?_
  refine Ctr_imp k1 (fun r2 h2 z2 => ?_)
  obtain ⟨rfl, j2⟩ := z2
  refine vr_ic_eq (t := 1236) (q := 619) dL_law_616 (by decide) rfl (fun _ => ?_) (fun c9 => absurd c9 (by omega))
  exact nx h2 j2
theorem w_order {i : Int} (hX : sx_ g) (i0 : 0 ≤ i) (i8 : i + 8 ≤ ((sg_X g 3).1 : Int)) (hL : ((sg_X g 3).1 : Int) ≤ 512) (j : J_ h) (nx : ∀ h2, J_ h2 → V_ g (d + 15) mL_law 1236 [some (sv_r 5 3 0), some (sv_r 4 7 0), some (sv_r 4 8 68), some (sv_i i)] [] h2 Post) : V_ g (d + 15) mL_law 621 [some (sv_r 5 3 0), some (sv_r 4 7 0), some (sv_r 4 8 68), some (sv_i i)] [] h Post := by
  refine vr_aload_n (q := 622) dL_law_621 rfl rfl ?_
  refine vr_aload_n (q := 623) dL_law_622 rfl rfl ?_
  refine vr_iload_n (q := 624) dL_law_623 rfl rfl ?_
  refine vr_iconst (q := 625) dL_law_624 rfl ⟨by decide, by decide⟩ ?_
  refine vr_iaddN (q := 626) dL_law_625 rfl ⟨by omega, by omega⟩ ?_
  refine vr_xald (q := 627) dL_law_626 rfl ⟨by omega, by omega⟩ ?_
  refine vr_aload_n (q := 628) dL_law_627 rfl rfl ?_
  refine vr_iload_n (q := 629) dL_law_628 rfl rfl ?_
  refine vr_iconst (q := 630) dL_law_629 rfl ⟨by decide, by decide⟩ ?_
  refine vr_iaddN (q := 631) dL_law_630 rfl ⟨by omega, by omega⟩ ?_
  refine vr_xald (q := 632) dL_law_631 rfl ⟨by omega, by omega⟩ ?_
  refine vr_aload_n (q := 633) dL_law_632 rfl rfl ?_
  refine vr_iload_n (q := 634) dL_law_633 rfl rfl ?_
  refine vr_iconst (q := 635) dL_law_634 rfl ⟨by decide, by decide⟩ ?_
  refine vr_iaddN (q := 636) dL_law_635 rfl ⟨by omega, by omega⟩ ?_
  refine vr_xald (q := 637) dL_law_636 rfl ⟨by omega, by omega⟩ ?_
  -- at L.law 637: .invokevirtual 78
  refine vr_iv3 (q := 640) dL_law_637 rfl vL_78 (Nat.le_of_ble_eq_true rfl) ?_
  refine Ctr_imp (P_order j) (fun r1 h1 z1 => ?_)
  obtain ⟨v, rfl, k1⟩ := z1
  refine vr_aload_n (q := 641) dL_law_640 rfl rfl ?_
  refine vr_aload_n (q := 642) dL_law_641 rfl rfl ?_
  refine vr_iload_n (q := 643) dL_law_642 rfl rfl ?_
  refine vr_iconst (q := 644) dL_law_643 rfl ⟨by decide, by decide⟩ ?_
  refine vr_iaddN (q := 645) dL_law_644 rfl ⟨by omega, by omega⟩ ?_
  refine vr_xald (q := 646) dL_law_645 rfl ⟨by omega, by omega⟩ ?_
  refine vr_aload_n (q := 647) dL_law_646 rfl rfl ?_
  refine vr_iload_n (q := 648) dL_law_647 rfl rfl ?_
  refine vr_iconst (q := 649) dL_law_648 rfl ⟨by decide, by decide⟩ ?_
  refine vr_iaddN (q := 650) dL_law_649 rfl ⟨by omega, by omega⟩ ?_
  refine vr_xald (q := 651) dL_law_650 rfl ⟨by omega, by omega⟩ ?_
  refine vr_aload_n (q := 652) dL_law_651 rfl rfl ?_
  refine vr_iload_n (q := 653) dL_law_652 rfl rfl ?_
  refine vr_iconst (q := 654) dL_law_653 rfl ⟨by decide, by decide⟩ ?_
  refine vr_iaddN (q := 655) dL_law_654 rfl ⟨by omega, by omega⟩ ?_
  refine vr_xald (q := 656) dL_law_655 rfl ⟨by omega, by omega⟩ ?_
  -- at L.law 656: .invokevirtual 81
  refine vr_iv3 (q := 659) dL_law_656 rfl vL_81 (Nat.le_of_ble_eq_true rfl) ?_
  refine Ctr_imp k1 (fun r2 h2 z2 => ?_)
  obtain ⟨rfl, j2⟩ := z2
  refine vr_ic_eq (t := 1236) (q := 662) dL_law_659 (by decide) rfl (fun _ => ?_) (fun c9 => absurd c9 (by omega))
  exact nx h2 j2
theorem w_comesIn {i : Int} (hX : sx_ g) (i0 : 0 ≤ i) (i8 : i + 8 ≤ ((sg_X g 3).1 : Int)) (hL : ((sg_X g 3).1 : Int) ≤ 512) (j : J_ h) (nx : ∀ h2, J_ h2 → V_ g (d + 15) mL_law 1236 [some (sv_r 5 3 0), some (sv_r 4 7 0), some (sv_r 4 8 68), some (sv_i i)] [] h2 Post) : V_ g (d + 15) mL_law 664 [some (sv_r 5 3 0), some (sv_r 4 7 0), some (sv_r 4 8 68), some (sv_i i)] [] h Post := by
  refine vr_aload_n (q := 665) dL_law_664 rfl rfl ?_
  refine vr_aload_n (q := 666) dL_law_665 rfl rfl ?_
  refine vr_iload_n (q := 667) dL_law_666 rfl rfl ?_
  refine vr_iconst (q := 668) dL_law_667 rfl ⟨by decide, by decide⟩ ?_
  refine vr_iaddN (q := 669) dL_law_668 rfl ⟨by omega, by omega⟩ ?_
  refine vr_xald (q := 670) dL_law_669 rfl ⟨by omega, by omega⟩ ?_
  refine vr_aload_n (q := 671) dL_law_670 rfl rfl ?_
  refine vr_iload_n (q := 672) dL_law_671 rfl rfl ?_
  refine vr_iconst (q := 673) dL_law_672 rfl ⟨by decide, by decide⟩ ?_
  refine vr_iaddN (q := 674) dL_law_673 rfl ⟨by omega, by omega⟩ ?_
  refine vr_xald (q := 675) dL_law_674 rfl ⟨by omega, by omega⟩ ?_
  refine vr_aload_n (q := 676) dL_law_675 rfl rfl ?_
  refine vr_iload_n (q := 677) dL_law_676 rfl rfl ?_
  refine vr_iconst (q := 678) dL_law_677 rfl ⟨by decide, by decide⟩ ?_
  refine vr_iaddN (q := 679) dL_law_678 rfl ⟨by omega, by omega⟩ ?_
  refine vr_xald (q := 680) dL_law_679 rfl ⟨by omega, by omega⟩ ?_
  -- at L.law 680: .invokevirtual 82
  refine vr_iv3 (q := 683) dL_law_680 rfl vL_82 (Nat.le_of_ble_eq_true rfl) ?_
  refine Ctr_imp (P_comesIn j) (fun r1 h1 z1 => ?_)
  obtain ⟨v, rfl, k1⟩ := z1
  refine vr_aload_n (q := 684) dL_law_683 rfl rfl ?_
  refine vr_aload_n (q := 685) dL_law_684 rfl rfl ?_
  refine vr_iload_n (q := 686) dL_law_685 rfl rfl ?_
  refine vr_iconst (q := 687) dL_law_686 rfl ⟨by decide, by decide⟩ ?_
  refine vr_iaddN (q := 688) dL_law_687 rfl ⟨by omega, by omega⟩ ?_
  refine vr_xald (q := 689) dL_law_688 rfl ⟨by omega, by omega⟩ ?_
  refine vr_aload_n (q := 690) dL_law_689 rfl rfl ?_
  refine vr_iload_n (q := 691) dL_law_690 rfl rfl ?_
  refine vr_iconst (q := 692) dL_law_691 rfl ⟨by decide, by decide⟩ ?_
  refine vr_iaddN (q := 693) dL_law_692 rfl ⟨by omega, by omega⟩ ?_
  refine vr_xald (q := 694) dL_law_693 rfl ⟨by omega, by omega⟩ ?_
  refine vr_aload_n (q := 695) dL_law_694 rfl rfl ?_
  refine vr_iload_n (q := 696) dL_law_695 rfl rfl ?_
  refine vr_iconst (q := 697) dL_law_696 rfl ⟨by decide, by decide⟩ ?_
  refine vr_iaddN (q := 698) dL_law_697 rfl ⟨by omega, by omega⟩ ?_
  refine vr_xald (q := 699) dL_law_698 rfl ⟨by omega, by omega⟩ ?_
  -- at L.law 699: .invokevirtual 85
  refine vr_iv3 (q := 702) dL_law_699 rfl vL_85 (Nat.le_of_ble_eq_true rfl) ?_
  refine Ctr_imp k1 (fun r2 h2 z2 => ?_)
  obtain ⟨rfl, j2⟩ := z2
  refine vr_ic_eq (t := 1236) (q := 705) dL_law_702 (by decide) rfl (fun _ => ?_) (fun c9 => absurd c9 (by omega))
  exact nx h2 j2
theorem w_dead {i : Int} (hX : sx_ g) (i0 : 0 ≤ i) (i8 : i + 8 ≤ ((sg_X g 3).1 : Int)) (hL : ((sg_X g 3).1 : Int) ≤ 512) (j : J_ h) (nx : ∀ h2, J_ h2 → V_ g (d + 15) mL_law 1236 [some (sv_r 5 3 0), some (sv_r 4 7 0), some (sv_r 4 8 68), some (sv_i i)] [] h2 Post) : V_ g (d + 15) mL_law 707 [some (sv_r 5 3 0), some (sv_r 4 7 0), some (sv_r 4 8 68), some (sv_i i)] [] h Post := by
  refine vr_aload_n (q := 708) dL_law_707 rfl rfl ?_
  refine vr_aload_n (q := 709) dL_law_708 rfl rfl ?_
  refine vr_iload_n (q := 710) dL_law_709 rfl rfl ?_
  refine vr_iconst (q := 711) dL_law_710 rfl ⟨by decide, by decide⟩ ?_
  refine vr_iaddN (q := 712) dL_law_711 rfl ⟨by omega, by omega⟩ ?_
  refine vr_xald (q := 713) dL_law_712 rfl ⟨by omega, by omega⟩ ?_
  -- at L.law 713: .invokevirtual 86
  refine vr_iv1 (q := 716) dL_law_713 rfl vL_86 (Nat.le_of_ble_eq_true rfl) ?_
  refine Ctr_imp (P_dead j) (fun r1 h1 z1 => ?_)
  obtain ⟨v, rfl, k1⟩ := z1
  refine vr_aload_n (q := 717) dL_law_716 rfl rfl ?_
  refine vr_aload_n (q := 718) dL_law_717 rfl rfl ?_
  refine vr_iload_n (q := 719) dL_law_718 rfl rfl ?_
  refine vr_iconst (q := 720) dL_law_719 rfl ⟨by decide, by decide⟩ ?_
  refine vr_iaddN (q := 721) dL_law_720 rfl ⟨by omega, by omega⟩ ?_
  refine vr_xald (q := 722) dL_law_721 rfl ⟨by omega, by omega⟩ ?_
  -- at L.law 722: .invokevirtual 89
  refine vr_iv1 (q := 725) dL_law_722 rfl vL_89 (Nat.le_of_ble_eq_true rfl) ?_
  refine Ctr_imp k1 (fun r2 h2 z2 => ?_)
  obtain ⟨rfl, j2⟩ := z2
  refine vr_ic_eq (t := 1236) (q := 728) dL_law_725 (by decide) rfl (fun _ => ?_) (fun c9 => absurd c9 (by omega))
  exact nx h2 j2
theorem w_help {i : Int} (hX : sx_ g) (i0 : 0 ≤ i) (i8 : i + 8 ≤ ((sg_X g 3).1 : Int)) (hL : ((sg_X g 3).1 : Int) ≤ 512) (j : J_ h) (nx : ∀ h2, J_ h2 → V_ g (d + 15) mL_law 1236 [some (sv_r 5 3 0), some (sv_r 4 7 0), some (sv_r 4 8 68), some (sv_i i)] [] h2 Post) : V_ g (d + 15) mL_law 730 [some (sv_r 5 3 0), some (sv_r 4 7 0), some (sv_r 4 8 68), some (sv_i i)] [] h Post := by
  refine vr_aload_n (q := 731) dL_law_730 rfl rfl ?_
  refine vr_aload_n (q := 732) dL_law_731 rfl rfl ?_
  refine vr_iload_n (q := 733) dL_law_732 rfl rfl ?_
  refine vr_iconst (q := 734) dL_law_733 rfl ⟨by decide, by decide⟩ ?_
  refine vr_iaddN (q := 735) dL_law_734 rfl ⟨by omega, by omega⟩ ?_
  refine vr_xald (q := 736) dL_law_735 rfl ⟨by omega, by omega⟩ ?_
  refine vr_aload_n (q := 737) dL_law_736 rfl rfl ?_
  refine vr_iload_n (q := 738) dL_law_737 rfl rfl ?_
  refine vr_iconst (q := 739) dL_law_738 rfl ⟨by decide, by decide⟩ ?_
  refine vr_iaddN (q := 740) dL_law_739 rfl ⟨by omega, by omega⟩ ?_
  refine vr_xald (q := 741) dL_law_740 rfl ⟨by omega, by omega⟩ ?_
  -- at L.law 741: .invokevirtual 90
  refine vr_iv2 (q := 744) dL_law_741 rfl vL_90 (Nat.le_of_ble_eq_true rfl) ?_
  refine Ctr_imp (P_help j) (fun r1 h1 z1 => ?_)
  obtain ⟨v, rfl, k1⟩ := z1
  refine vr_aload_n (q := 745) dL_law_744 rfl rfl ?_
  refine vr_aload_n (q := 746) dL_law_745 rfl rfl ?_
  refine vr_iload_n (q := 747) dL_law_746 rfl rfl ?_
  refine vr_iconst (q := 748) dL_law_747 rfl ⟨by decide, by decide⟩ ?_
  refine vr_iaddN (q := 749) dL_law_748 rfl ⟨by omega, by omega⟩ ?_
  refine vr_xald (q := 750) dL_law_749 rfl ⟨by omega, by omega⟩ ?_
  refine vr_aload_n (q := 751) dL_law_750 rfl rfl ?_
  refine vr_iload_n (q := 752) dL_law_751 rfl rfl ?_
  refine vr_iconst (q := 753) dL_law_752 rfl ⟨by decide, by decide⟩ ?_
  refine vr_iaddN (q := 754) dL_law_753 rfl ⟨by omega, by omega⟩ ?_
  refine vr_xald (q := 755) dL_law_754 rfl ⟨by omega, by omega⟩ ?_
  -- at L.law 755: .invokevirtual 93
  refine vr_iv2 (q := 758) dL_law_755 rfl vL_93 (Nat.le_of_ble_eq_true rfl) ?_
  refine Ctr_imp k1 (fun r2 h2 z2 => ?_)
  obtain ⟨rfl, j2⟩ := z2
  refine vr_ic_eq (t := 1236) (q := 761) dL_law_758 (by decide) rfl (fun _ => ?_) (fun c9 => absurd c9 (by omega))
  exact nx h2 j2
theorem w_suppers {i : Int} (hX : sx_ g) (i0 : 0 ≤ i) (i8 : i + 8 ≤ ((sg_X g 3).1 : Int)) (hL : ((sg_X g 3).1 : Int) ≤ 512) (j : J_ h) (nx : ∀ h2, J_ h2 → V_ g (d + 15) mL_law 1236 [some (sv_r 5 3 0), some (sv_r 4 7 0), some (sv_r 4 8 68), some (sv_i i)] [] h2 Post) : V_ g (d + 15) mL_law 763 [some (sv_r 5 3 0), some (sv_r 4 7 0), some (sv_r 4 8 68), some (sv_i i)] [] h Post := by
  refine vr_aload_n (q := 764) dL_law_763 rfl rfl ?_
  refine vr_aload_n (q := 765) dL_law_764 rfl rfl ?_
  refine vr_iload_n (q := 766) dL_law_765 rfl rfl ?_
  refine vr_iconst (q := 767) dL_law_766 rfl ⟨by decide, by decide⟩ ?_
  refine vr_iaddN (q := 768) dL_law_767 rfl ⟨by omega, by omega⟩ ?_
  refine vr_xald (q := 769) dL_law_768 rfl ⟨by omega, by omega⟩ ?_
  refine vr_aload_n (q := 770) dL_law_769 rfl rfl ?_
  refine vr_iload_n (q := 771) dL_law_770 rfl rfl ?_
  refine vr_iconst (q := 772) dL_law_771 rfl ⟨by decide, by decide⟩ ?_
  refine vr_iaddN (q := 773) dL_law_772 rfl ⟨by omega, by omega⟩ ?_
  refine vr_xald (q := 774) dL_law_773 rfl ⟨by omega, by omega⟩ ?_
  -- at L.law 774: .invokevirtual 94
  refine vr_iv2 (q := 777) dL_law_774 rfl vL_94 (Nat.le_of_ble_eq_true rfl) ?_
  refine Ctr_imp (P_suppers j) (fun r1 h1 z1 => ?_)
  obtain ⟨v, rfl, k1⟩ := z1
  refine vr_aload_n (q := 778) dL_law_777 rfl rfl ?_
  refine vr_aload_n (q := 779) dL_law_778 rfl rfl ?_
  refine vr_iload_n (q := 780) dL_law_779 rfl rfl ?_
  refine vr_iconst (q := 781) dL_law_780 rfl ⟨by decide, by decide⟩ ?_
  refine vr_iaddN (q := 782) dL_law_781 rfl ⟨by omega, by omega⟩ ?_
  refine vr_xald (q := 783) dL_law_782 rfl ⟨by omega, by omega⟩ ?_
  refine vr_aload_n (q := 784) dL_law_783 rfl rfl ?_
  refine vr_iload_n (q := 785) dL_law_784 rfl rfl ?_
  refine vr_iconst (q := 786) dL_law_785 rfl ⟨by decide, by decide⟩ ?_
  refine vr_iaddN (q := 787) dL_law_786 rfl ⟨by omega, by omega⟩ ?_
  refine vr_xald (q := 788) dL_law_787 rfl ⟨by omega, by omega⟩ ?_
  -- at L.law 788: .invokevirtual 97
  refine vr_iv2 (q := 791) dL_law_788 rfl vL_97 (Nat.le_of_ble_eq_true rfl) ?_
  refine Ctr_imp k1 (fun r2 h2 z2 => ?_)
  obtain ⟨rfl, j2⟩ := z2
  refine vr_ic_eq (t := 1236) (q := 794) dL_law_791 (by decide) rfl (fun _ => ?_) (fun c9 => absurd c9 (by omega))
  exact nx h2 j2
theorem w_doubted {i : Int} (hX : sx_ g) (i0 : 0 ≤ i) (i8 : i + 8 ≤ ((sg_X g 3).1 : Int)) (hL : ((sg_X g 3).1 : Int) ≤ 512) (j : J_ h) (nx : ∀ h2, J_ h2 → V_ g (d + 15) mL_law 1236 [some (sv_r 5 3 0), some (sv_r 4 7 0), some (sv_r 4 8 68), some (sv_i i)] [] h2 Post) : V_ g (d + 15) mL_law 796 [some (sv_r 5 3 0), some (sv_r 4 7 0), some (sv_r 4 8 68), some (sv_i i)] [] h Post := by
  refine vr_aload_n (q := 797) dL_law_796 rfl rfl ?_
  refine vr_aload_n (q := 798) dL_law_797 rfl rfl ?_
  refine vr_iload_n (q := 799) dL_law_798 rfl rfl ?_
  refine vr_iconst (q := 800) dL_law_799 rfl ⟨by decide, by decide⟩ ?_
  refine vr_iaddN (q := 801) dL_law_800 rfl ⟨by omega, by omega⟩ ?_
  refine vr_xald (q := 802) dL_law_801 rfl ⟨by omega, by omega⟩ ?_
  refine vr_aload_n (q := 803) dL_law_802 rfl rfl ?_
  refine vr_iload_n (q := 804) dL_law_803 rfl rfl ?_
  refine vr_iconst (q := 805) dL_law_804 rfl ⟨by decide, by decide⟩ ?_
  refine vr_iaddN (q := 806) dL_law_805 rfl ⟨by omega, by omega⟩ ?_
  refine vr_xald (q := 807) dL_law_806 rfl ⟨by omega, by omega⟩ ?_
  refine vr_aload_n (q := 808) dL_law_807 rfl rfl ?_
  refine vr_iload_n (q := 809) dL_law_808 rfl rfl ?_
  refine vr_iconst (q := 810) dL_law_809 rfl ⟨by decide, by decide⟩ ?_
  refine vr_iaddN (q := 811) dL_law_810 rfl ⟨by omega, by omega⟩ ?_
  refine vr_xald (q := 812) dL_law_811 rfl ⟨by omega, by omega⟩ ?_
  refine vr_aload_n (q := 813) dL_law_812 rfl rfl ?_
  refine vr_iload_n (q := 814) dL_law_813 rfl rfl ?_
  refine vr_iconst (q := 815) dL_law_814 rfl ⟨by decide, by decide⟩ ?_
  refine vr_iaddN (q := 816) dL_law_815 rfl ⟨by omega, by omega⟩ ?_
  refine vr_xald (q := 817) dL_law_816 rfl ⟨by omega, by omega⟩ ?_
  refine vr_aload_n (q := 818) dL_law_817 rfl rfl ?_
  refine vr_iload_n (q := 819) dL_law_818 rfl rfl ?_
  refine vr_iconst (q := 820) dL_law_819 rfl ⟨by decide, by decide⟩ ?_
  refine vr_iaddN (q := 821) dL_law_820 rfl ⟨by omega, by omega⟩ ?_
  refine vr_xald (q := 822) dL_law_821 rfl ⟨by omega, by omega⟩ ?_
  -- at L.law 822: .invokevirtual 98
  refine vr_iv5 (q := 825) dL_law_822 rfl vL_98 (Nat.le_of_ble_eq_true rfl) ?_
  refine Ctr_imp (P_doubted j) (fun r1 h1 z1 => ?_)
  obtain ⟨v, rfl, k1⟩ := z1
  refine vr_aload_n (q := 826) dL_law_825 rfl rfl ?_
  refine vr_aload_n (q := 827) dL_law_826 rfl rfl ?_
  refine vr_iload_n (q := 828) dL_law_827 rfl rfl ?_
  refine vr_iconst (q := 829) dL_law_828 rfl ⟨by decide, by decide⟩ ?_
  refine vr_iaddN (q := 830) dL_law_829 rfl ⟨by omega, by omega⟩ ?_
  refine vr_xald (q := 831) dL_law_830 rfl ⟨by omega, by omega⟩ ?_
  refine vr_aload_n (q := 832) dL_law_831 rfl rfl ?_
  refine vr_iload_n (q := 833) dL_law_832 rfl rfl ?_
  refine vr_iconst (q := 834) dL_law_833 rfl ⟨by decide, by decide⟩ ?_
  refine vr_iaddN (q := 835) dL_law_834 rfl ⟨by omega, by omega⟩ ?_
  refine vr_xald (q := 836) dL_law_835 rfl ⟨by omega, by omega⟩ ?_
  refine vr_aload_n (q := 837) dL_law_836 rfl rfl ?_
  refine vr_iload_n (q := 838) dL_law_837 rfl rfl ?_
  refine vr_iconst (q := 839) dL_law_838 rfl ⟨by decide, by decide⟩ ?_
  refine vr_iaddN (q := 840) dL_law_839 rfl ⟨by omega, by omega⟩ ?_
  refine vr_xald (q := 841) dL_law_840 rfl ⟨by omega, by omega⟩ ?_
  refine vr_aload_n (q := 842) dL_law_841 rfl rfl ?_
  refine vr_iload_n (q := 843) dL_law_842 rfl rfl ?_
  refine vr_iconst (q := 844) dL_law_843 rfl ⟨by decide, by decide⟩ ?_
  refine vr_iaddN (q := 845) dL_law_844 rfl ⟨by omega, by omega⟩ ?_
  refine vr_xald (q := 846) dL_law_845 rfl ⟨by omega, by omega⟩ ?_
  refine vr_aload_n (q := 847) dL_law_846 rfl rfl ?_
  refine vr_iload_n (q := 848) dL_law_847 rfl rfl ?_
  refine vr_iconst (q := 849) dL_law_848 rfl ⟨by decide, by decide⟩ ?_
  refine vr_iaddN (q := 850) dL_law_849 rfl ⟨by omega, by omega⟩ ?_
  refine vr_xald (q := 851) dL_law_850 rfl ⟨by omega, by omega⟩ ?_
  -- at L.law 851: .invokevirtual 101
  refine vr_iv5 (q := 854) dL_law_851 rfl vL_101 (Nat.le_of_ble_eq_true rfl) ?_
  refine Ctr_imp k1 (fun r2 h2 z2 => ?_)
  obtain ⟨rfl, j2⟩ := z2
  refine vr_ic_eq (t := 1236) (q := 857) dL_law_854 (by decide) rfl (fun _ => ?_) (fun c9 => absurd c9 (by omega))
  exact nx h2 j2
theorem w_trusted {i : Int} (hX : sx_ g) (i0 : 0 ≤ i) (i8 : i + 8 ≤ ((sg_X g 3).1 : Int)) (hL : ((sg_X g 3).1 : Int) ≤ 512) (j : J_ h) (nx : ∀ h2, J_ h2 → V_ g (d + 15) mL_law 1236 [some (sv_r 5 3 0), some (sv_r 4 7 0), some (sv_r 4 8 68), some (sv_i i)] [] h2 Post) : V_ g (d + 15) mL_law 859 [some (sv_r 5 3 0), some (sv_r 4 7 0), some (sv_r 4 8 68), some (sv_i i)] [] h Post := by
  refine vr_aload_n (q := 860) dL_law_859 rfl rfl ?_
  refine vr_aload_n (q := 861) dL_law_860 rfl rfl ?_
  refine vr_iload_n (q := 862) dL_law_861 rfl rfl ?_
  refine vr_iconst (q := 863) dL_law_862 rfl ⟨by decide, by decide⟩ ?_
  refine vr_iaddN (q := 864) dL_law_863 rfl ⟨by omega, by omega⟩ ?_
  refine vr_xald (q := 865) dL_law_864 rfl ⟨by omega, by omega⟩ ?_
  refine vr_aload_n (q := 866) dL_law_865 rfl rfl ?_
  refine vr_iload_n (q := 867) dL_law_866 rfl rfl ?_
  refine vr_iconst (q := 868) dL_law_867 rfl ⟨by decide, by decide⟩ ?_
  refine vr_iaddN (q := 869) dL_law_868 rfl ⟨by omega, by omega⟩ ?_
  refine vr_xald (q := 870) dL_law_869 rfl ⟨by omega, by omega⟩ ?_
  refine vr_aload_n (q := 871) dL_law_870 rfl rfl ?_
  refine vr_iload_n (q := 872) dL_law_871 rfl rfl ?_
  refine vr_iconst (q := 873) dL_law_872 rfl ⟨by decide, by decide⟩ ?_
  refine vr_iaddN (q := 874) dL_law_873 rfl ⟨by omega, by omega⟩ ?_
  refine vr_xald (q := 875) dL_law_874 rfl ⟨by omega, by omega⟩ ?_
  refine vr_aload_n (q := 876) dL_law_875 rfl rfl ?_
  refine vr_iload_n (q := 877) dL_law_876 rfl rfl ?_
  refine vr_iconst (q := 878) dL_law_877 rfl ⟨by decide, by decide⟩ ?_
  refine vr_iaddN (q := 879) dL_law_878 rfl ⟨by omega, by omega⟩ ?_
  refine vr_xald (q := 880) dL_law_879 rfl ⟨by omega, by omega⟩ ?_
  -- at L.law 880: .invokevirtual 102
  refine vr_iv4 (q := 883) dL_law_880 rfl vL_102 (Nat.le_of_ble_eq_true rfl) ?_
  refine Ctr_imp (P_trusted j) (fun r1 h1 z1 => ?_)
  obtain ⟨v, rfl, k1⟩ := z1
  refine vr_aload_n (q := 884) dL_law_883 rfl rfl ?_
  refine vr_aload_n (q := 885) dL_law_884 rfl rfl ?_
  refine vr_iload_n (q := 886) dL_law_885 rfl rfl ?_
  refine vr_iconst (q := 887) dL_law_886 rfl ⟨by decide, by decide⟩ ?_
  refine vr_iaddN (q := 888) dL_law_887 rfl ⟨by omega, by omega⟩ ?_
  refine vr_xald (q := 889) dL_law_888 rfl ⟨by omega, by omega⟩ ?_
  refine vr_aload_n (q := 890) dL_law_889 rfl rfl ?_
  refine vr_iload_n (q := 891) dL_law_890 rfl rfl ?_
  refine vr_iconst (q := 892) dL_law_891 rfl ⟨by decide, by decide⟩ ?_
  refine vr_iaddN (q := 893) dL_law_892 rfl ⟨by omega, by omega⟩ ?_
  refine vr_xald (q := 894) dL_law_893 rfl ⟨by omega, by omega⟩ ?_
  refine vr_aload_n (q := 895) dL_law_894 rfl rfl ?_
  refine vr_iload_n (q := 896) dL_law_895 rfl rfl ?_
  refine vr_iconst (q := 897) dL_law_896 rfl ⟨by decide, by decide⟩ ?_
  refine vr_iaddN (q := 898) dL_law_897 rfl ⟨by omega, by omega⟩ ?_
  refine vr_xald (q := 899) dL_law_898 rfl ⟨by omega, by omega⟩ ?_
  refine vr_aload_n (q := 900) dL_law_899 rfl rfl ?_
  refine vr_iload_n (q := 901) dL_law_900 rfl rfl ?_
  refine vr_iconst (q := 902) dL_law_901 rfl ⟨by decide, by decide⟩ ?_
  refine vr_iaddN (q := 903) dL_law_902 rfl ⟨by omega, by omega⟩ ?_
  refine vr_xald (q := 904) dL_law_903 rfl ⟨by omega, by omega⟩ ?_
  -- at L.law 904: .invokevirtual 106
  refine vr_iv4 (q := 907) dL_law_904 rfl vL_106 (Nat.le_of_ble_eq_true rfl) ?_
  refine Ctr_imp k1 (fun r2 h2 z2 => ?_)
  obtain ⟨rfl, j2⟩ := z2
  refine vr_ic_eq (t := 1236) (q := 910) dL_law_907 (by decide) rfl (fun _ => ?_) (fun c9 => absurd c9 (by omega))
  exact nx h2 j2
theorem w_who {i : Int} (hX : sx_ g) (i0 : 0 ≤ i) (i8 : i + 8 ≤ ((sg_X g 3).1 : Int)) (hL : ((sg_X g 3).1 : Int) ≤ 512) (j : J_ h) (nx : ∀ h2, J_ h2 → V_ g (d + 15) mL_law 1236 [some (sv_r 5 3 0), some (sv_r 4 7 0), some (sv_r 4 8 68), some (sv_i i)] [] h2 Post) : V_ g (d + 15) mL_law 912 [some (sv_r 5 3 0), some (sv_r 4 7 0), some (sv_r 4 8 68), some (sv_i i)] [] h Post := by
  refine vr_aload_n (q := 913) dL_law_912 rfl rfl ?_
  refine vr_aload_n (q := 914) dL_law_913 rfl rfl ?_
  refine vr_iload_n (q := 915) dL_law_914 rfl rfl ?_
  refine vr_iconst (q := 916) dL_law_915 rfl ⟨by decide, by decide⟩ ?_
  refine vr_iaddN (q := 917) dL_law_916 rfl ⟨by omega, by omega⟩ ?_
  refine vr_xald (q := 918) dL_law_917 rfl ⟨by omega, by omega⟩ ?_
  refine vr_aload_n (q := 919) dL_law_918 rfl rfl ?_
  refine vr_iload_n (q := 920) dL_law_919 rfl rfl ?_
  refine vr_iconst (q := 921) dL_law_920 rfl ⟨by decide, by decide⟩ ?_
  refine vr_iaddN (q := 922) dL_law_921 rfl ⟨by omega, by omega⟩ ?_
  refine vr_xald (q := 923) dL_law_922 rfl ⟨by omega, by omega⟩ ?_
  refine vr_aload_n (q := 924) dL_law_923 rfl rfl ?_
  refine vr_iload_n (q := 925) dL_law_924 rfl rfl ?_
  refine vr_iconst (q := 926) dL_law_925 rfl ⟨by decide, by decide⟩ ?_
  refine vr_iaddN (q := 927) dL_law_926 rfl ⟨by omega, by omega⟩ ?_
  refine vr_xald (q := 928) dL_law_927 rfl ⟨by omega, by omega⟩ ?_
  -- at L.law 928: .invokevirtual 107
  refine vr_iv3 (q := 931) dL_law_928 rfl vL_107 (Nat.le_of_ble_eq_true rfl) ?_
  refine Ctr_imp (P_who j) (fun r1 h1 z1 => ?_)
  obtain ⟨v, rfl, k1⟩ := z1
  refine vr_aload_n (q := 932) dL_law_931 rfl rfl ?_
  refine vr_aload_n (q := 933) dL_law_932 rfl rfl ?_
  refine vr_iload_n (q := 934) dL_law_933 rfl rfl ?_
  refine vr_iconst (q := 935) dL_law_934 rfl ⟨by decide, by decide⟩ ?_
  refine vr_iaddN (q := 936) dL_law_935 rfl ⟨by omega, by omega⟩ ?_
  refine vr_xald (q := 937) dL_law_936 rfl ⟨by omega, by omega⟩ ?_
  refine vr_aload_n (q := 938) dL_law_937 rfl rfl ?_
  refine vr_iload_n (q := 939) dL_law_938 rfl rfl ?_
  refine vr_iconst (q := 940) dL_law_939 rfl ⟨by decide, by decide⟩ ?_
  refine vr_iaddN (q := 941) dL_law_940 rfl ⟨by omega, by omega⟩ ?_
  refine vr_xald (q := 942) dL_law_941 rfl ⟨by omega, by omega⟩ ?_
  refine vr_aload_n (q := 943) dL_law_942 rfl rfl ?_
  refine vr_iload_n (q := 944) dL_law_943 rfl rfl ?_
  refine vr_iconst (q := 945) dL_law_944 rfl ⟨by decide, by decide⟩ ?_
  refine vr_iaddN (q := 946) dL_law_945 rfl ⟨by omega, by omega⟩ ?_
  refine vr_xald (q := 947) dL_law_946 rfl ⟨by omega, by omega⟩ ?_
  -- at L.law 947: .invokevirtual 110
  refine vr_iv3 (q := 950) dL_law_947 rfl vL_110 (Nat.le_of_ble_eq_true rfl) ?_
  refine Ctr_imp k1 (fun r2 h2 z2 => ?_)
  obtain ⟨rfl, j2⟩ := z2
  refine vr_ic_eq (t := 1236) (q := 953) dL_law_950 (by decide) rfl (fun _ => ?_) (fun c9 => absurd c9 (by omega))
  exact nx h2 j2
theorem w_odds {i : Int} (hX : sx_ g) (i0 : 0 ≤ i) (i8 : i + 8 ≤ ((sg_X g 3).1 : Int)) (hL : ((sg_X g 3).1 : Int) ≤ 512) (j : J_ h) (nx : ∀ h2, J_ h2 → V_ g (d + 15) mL_law 1236 [some (sv_r 5 3 0), some (sv_r 4 7 0), some (sv_r 4 8 68), some (sv_i i)] [] h2 Post) : V_ g (d + 15) mL_law 955 [some (sv_r 5 3 0), some (sv_r 4 7 0), some (sv_r 4 8 68), some (sv_i i)] [] h Post := by
  refine vr_aload_n (q := 956) dL_law_955 rfl rfl ?_
  refine vr_aload_n (q := 957) dL_law_956 rfl rfl ?_
  refine vr_iload_n (q := 958) dL_law_957 rfl rfl ?_
  refine vr_iconst (q := 959) dL_law_958 rfl ⟨by decide, by decide⟩ ?_
  refine vr_iaddN (q := 960) dL_law_959 rfl ⟨by omega, by omega⟩ ?_
  refine vr_xald (q := 961) dL_law_960 rfl ⟨by omega, by omega⟩ ?_
  refine vr_aload_n (q := 962) dL_law_961 rfl rfl ?_
  refine vr_iload_n (q := 963) dL_law_962 rfl rfl ?_
  refine vr_iconst (q := 964) dL_law_963 rfl ⟨by decide, by decide⟩ ?_
  refine vr_iaddN (q := 965) dL_law_964 rfl ⟨by omega, by omega⟩ ?_
  refine vr_xald (q := 966) dL_law_965 rfl ⟨by omega, by omega⟩ ?_
  refine vr_aload_n (q := 967) dL_law_966 rfl rfl ?_
  refine vr_iload_n (q := 968) dL_law_967 rfl rfl ?_
  refine vr_iconst (q := 969) dL_law_968 rfl ⟨by decide, by decide⟩ ?_
  refine vr_iaddN (q := 970) dL_law_969 rfl ⟨by omega, by omega⟩ ?_
  refine vr_xald (q := 971) dL_law_970 rfl ⟨by omega, by omega⟩ ?_
  refine vr_aload_n (q := 972) dL_law_971 rfl rfl ?_
  refine vr_iload_n (q := 973) dL_law_972 rfl rfl ?_
  refine vr_iconst (q := 974) dL_law_973 rfl ⟨by decide, by decide⟩ ?_
  refine vr_iaddN (q := 975) dL_law_974 rfl ⟨by omega, by omega⟩ ?_
  refine vr_xald (q := 976) dL_law_975 rfl ⟨by omega, by omega⟩ ?_
  refine vr_aload_n (q := 977) dL_law_976 rfl rfl ?_
  refine vr_iload_n (q := 978) dL_law_977 rfl rfl ?_
  refine vr_iconst (q := 979) dL_law_978 rfl ⟨by decide, by decide⟩ ?_
  refine vr_iaddN (q := 980) dL_law_979 rfl ⟨by omega, by omega⟩ ?_
  refine vr_xald (q := 981) dL_law_980 rfl ⟨by omega, by omega⟩ ?_
  refine vr_aload_n (q := 982) dL_law_981 rfl rfl ?_
  refine vr_iload_n (q := 983) dL_law_982 rfl rfl ?_
  refine vr_bipush (q := 985) dL_law_983 rfl ⟨by decide, by decide⟩ (by decide) ?_
  refine vr_iaddN (q := 986) dL_law_985 rfl ⟨by omega, by omega⟩ ?_
  refine vr_xald (q := 987) dL_law_986 rfl ⟨by omega, by omega⟩ ?_
  refine vr_aload_n (q := 988) dL_law_987 rfl rfl ?_
  refine vr_iload_n (q := 989) dL_law_988 rfl rfl ?_
  refine vr_bipush (q := 991) dL_law_989 rfl ⟨by decide, by decide⟩ (by decide) ?_
  refine vr_iaddN (q := 992) dL_law_991 rfl ⟨by omega, by omega⟩ ?_
  refine vr_xald (q := 993) dL_law_992 rfl ⟨by omega, by omega⟩ ?_
  -- at L.law 993: .invokevirtual 111
  refine vr_iv7 (q := 996) dL_law_993 rfl vL_111 (Nat.le_of_ble_eq_true rfl) ?_
  refine Ctr_imp (P_odds j) (fun r1 h1 z1 => ?_)
  obtain ⟨v, rfl, k1⟩ := z1
  refine vr_aload_n (q := 997) dL_law_996 rfl rfl ?_
  refine vr_aload_n (q := 998) dL_law_997 rfl rfl ?_
  refine vr_iload_n (q := 999) dL_law_998 rfl rfl ?_
  refine vr_iconst (q := 1000) dL_law_999 rfl ⟨by decide, by decide⟩ ?_
  refine vr_iaddN (q := 1001) dL_law_1000 rfl ⟨by omega, by omega⟩ ?_
  refine vr_xald (q := 1002) dL_law_1001 rfl ⟨by omega, by omega⟩ ?_
  refine vr_aload_n (q := 1003) dL_law_1002 rfl rfl ?_
  refine vr_iload_n (q := 1004) dL_law_1003 rfl rfl ?_
  refine vr_iconst (q := 1005) dL_law_1004 rfl ⟨by decide, by decide⟩ ?_
  refine vr_iaddN (q := 1006) dL_law_1005 rfl ⟨by omega, by omega⟩ ?_
  refine vr_xald (q := 1007) dL_law_1006 rfl ⟨by omega, by omega⟩ ?_
  refine vr_aload_n (q := 1008) dL_law_1007 rfl rfl ?_
  refine vr_iload_n (q := 1009) dL_law_1008 rfl rfl ?_
  refine vr_iconst (q := 1010) dL_law_1009 rfl ⟨by decide, by decide⟩ ?_
  refine vr_iaddN (q := 1011) dL_law_1010 rfl ⟨by omega, by omega⟩ ?_
  refine vr_xald (q := 1012) dL_law_1011 rfl ⟨by omega, by omega⟩ ?_
  refine vr_aload_n (q := 1013) dL_law_1012 rfl rfl ?_
  refine vr_iload_n (q := 1014) dL_law_1013 rfl rfl ?_
  refine vr_iconst (q := 1015) dL_law_1014 rfl ⟨by decide, by decide⟩ ?_
  refine vr_iaddN (q := 1016) dL_law_1015 rfl ⟨by omega, by omega⟩ ?_
  refine vr_xald (q := 1017) dL_law_1016 rfl ⟨by omega, by omega⟩ ?_
  refine vr_aload_n (q := 1018) dL_law_1017 rfl rfl ?_
  refine vr_iload_n (q := 1019) dL_law_1018 rfl rfl ?_
  refine vr_iconst (q := 1020) dL_law_1019 rfl ⟨by decide, by decide⟩ ?_
  refine vr_iaddN (q := 1021) dL_law_1020 rfl ⟨by omega, by omega⟩ ?_
  refine vr_xald (q := 1022) dL_law_1021 rfl ⟨by omega, by omega⟩ ?_
  refine vr_aload_n (q := 1023) dL_law_1022 rfl rfl ?_
  refine vr_iload_n (q := 1024) dL_law_1023 rfl rfl ?_
  refine vr_bipush (q := 1026) dL_law_1024 rfl ⟨by decide, by decide⟩ (by decide) ?_
  refine vr_iaddN (q := 1027) dL_law_1026 rfl ⟨by omega, by omega⟩ ?_
  refine vr_xald (q := 1028) dL_law_1027 rfl ⟨by omega, by omega⟩ ?_
  refine vr_aload_n (q := 1029) dL_law_1028 rfl rfl ?_
  refine vr_iload_n (q := 1030) dL_law_1029 rfl rfl ?_
  refine vr_bipush (q := 1032) dL_law_1030 rfl ⟨by decide, by decide⟩ (by decide) ?_
  refine vr_iaddN (q := 1033) dL_law_1032 rfl ⟨by omega, by omega⟩ ?_
  refine vr_xald (q := 1034) dL_law_1033 rfl ⟨by omega, by omega⟩ ?_
  -- at L.law 1034: .invokevirtual 115
  refine vr_iv7 (q := 1037) dL_law_1034 rfl vL_115 (Nat.le_of_ble_eq_true rfl) ?_
  refine Ctr_imp k1 (fun r2 h2 z2 => ?_)
  obtain ⟨rfl, j2⟩ := z2
  refine vr_ic_eq (t := 1236) (q := 1040) dL_law_1037 (by decide) rfl (fun _ => ?_) (fun c9 => absurd c9 (by omega))
  exact nx h2 j2
theorem w_image {i : Int} (hX : sx_ g) (i0 : 0 ≤ i) (i8 : i + 8 ≤ ((sg_X g 3).1 : Int)) (hL : ((sg_X g 3).1 : Int) ≤ 512) (j : J_ h) (nx : ∀ h2, J_ h2 → V_ g (d + 15) mL_law 1236 [some (sv_r 5 3 0), some (sv_r 4 7 0), some (sv_r 4 8 68), some (sv_i i)] [] h2 Post) : V_ g (d + 15) mL_law 1042 [some (sv_r 5 3 0), some (sv_r 4 7 0), some (sv_r 4 8 68), some (sv_i i)] [] h Post := by
  refine vr_aload_n (q := 1043) dL_law_1042 rfl rfl ?_
  refine vr_aload_n (q := 1044) dL_law_1043 rfl rfl ?_
  refine vr_iload_n (q := 1045) dL_law_1044 rfl rfl ?_
  refine vr_iconst (q := 1046) dL_law_1045 rfl ⟨by decide, by decide⟩ ?_
  refine vr_iaddN (q := 1047) dL_law_1046 rfl ⟨by omega, by omega⟩ ?_
  refine vr_xald (q := 1048) dL_law_1047 rfl ⟨by omega, by omega⟩ ?_
  -- at L.law 1048: .invokevirtual 116
  refine vr_iv1 (q := 1051) dL_law_1048 rfl vL_116 (Nat.le_of_ble_eq_true rfl) ?_
  refine Ctr_imp (P_image j) (fun r1 h1 z1 => ?_)
  obtain ⟨v, rfl, k1⟩ := z1
  refine vr_aload_n (q := 1052) dL_law_1051 rfl rfl ?_
  refine vr_aload_n (q := 1053) dL_law_1052 rfl rfl ?_
  refine vr_iload_n (q := 1054) dL_law_1053 rfl rfl ?_
  refine vr_iconst (q := 1055) dL_law_1054 rfl ⟨by decide, by decide⟩ ?_
  refine vr_iaddN (q := 1056) dL_law_1055 rfl ⟨by omega, by omega⟩ ?_
  refine vr_xald (q := 1057) dL_law_1056 rfl ⟨by omega, by omega⟩ ?_
  -- at L.law 1057: .invokevirtual 119
  refine vr_iv1 (q := 1060) dL_law_1057 rfl vL_119 (Nat.le_of_ble_eq_true rfl) ?_
  refine Ctr_imp k1 (fun r2 h2 z2 => ?_)
  obtain ⟨rfl, j2⟩ := z2
  refine vr_ic_eq (t := 1236) (q := 1063) dL_law_1060 (by decide) rfl (fun _ => ?_) (fun c9 => absurd c9 (by omega))
  exact nx h2 j2
theorem w_restore {i : Int} (hX : sx_ g) (i0 : 0 ≤ i) (i8 : i + 8 ≤ ((sg_X g 3).1 : Int)) (hL : ((sg_X g 3).1 : Int) ≤ 512) (j : J_ h) (nx : ∀ h2, J_ h2 → V_ g (d + 15) mL_law 1236 [some (sv_r 5 3 0), some (sv_r 4 7 0), some (sv_r 4 8 68), some (sv_i i)] [] h2 Post) : V_ g (d + 15) mL_law 1065 [some (sv_r 5 3 0), some (sv_r 4 7 0), some (sv_r 4 8 68), some (sv_i i)] [] h Post := by
  refine vr_aload_n (q := 1066) dL_law_1065 rfl rfl ?_
  refine vr_aload_n (q := 1067) dL_law_1066 rfl rfl ?_
  refine vr_iload_n (q := 1068) dL_law_1067 rfl rfl ?_
  refine vr_iconst (q := 1069) dL_law_1068 rfl ⟨by decide, by decide⟩ ?_
  refine vr_iaddN (q := 1070) dL_law_1069 rfl ⟨by omega, by omega⟩ ?_
  refine vr_xald (q := 1071) dL_law_1070 rfl ⟨by omega, by omega⟩ ?_
  -- at L.law 1071: .invokevirtual 120
  refine vr_iv1 (q := 1074) dL_law_1071 rfl vL_120 (Nat.le_of_ble_eq_true rfl) ?_
  refine Ctr_imp (P_restore j) (fun r1 h1 z1 => ?_)
  obtain ⟨v, rfl, k1⟩ := z1
  refine vr_aload_n (q := 1075) dL_law_1074 rfl rfl ?_
  refine vr_aload_n (q := 1076) dL_law_1075 rfl rfl ?_
  refine vr_iload_n (q := 1077) dL_law_1076 rfl rfl ?_
  refine vr_iconst (q := 1078) dL_law_1077 rfl ⟨by decide, by decide⟩ ?_
  refine vr_iaddN (q := 1079) dL_law_1078 rfl ⟨by omega, by omega⟩ ?_
  refine vr_xald (q := 1080) dL_law_1079 rfl ⟨by omega, by omega⟩ ?_
  -- at L.law 1080: .invokevirtual 123
  refine vr_iv1 (q := 1083) dL_law_1080 rfl vL_123 (Nat.le_of_ble_eq_true rfl) ?_
  refine Ctr_imp k1 (fun r2 h2 z2 => ?_)
  obtain ⟨rfl, j2⟩ := z2
  refine vr_ic_eq (t := 1236) (q := 1086) dL_law_1083 (by decide) rfl (fun _ => ?_) (fun c9 => absurd c9 (by omega))
  exact nx h2 j2
theorem w_kind {i : Int} (hX : sx_ g) (i0 : 0 ≤ i) (i8 : i + 8 ≤ ((sg_X g 3).1 : Int)) (hL : ((sg_X g 3).1 : Int) ≤ 512) (j : J_ h) (nx : ∀ h2, J_ h2 → V_ g (d + 15) mL_law 1236 [some (sv_r 5 3 0), some (sv_r 4 7 0), some (sv_r 4 8 68), some (sv_i i)] [] h2 Post) : V_ g (d + 15) mL_law 1088 [some (sv_r 5 3 0), some (sv_r 4 7 0), some (sv_r 4 8 68), some (sv_i i)] [] h Post := by
  refine vr_aload_n (q := 1089) dL_law_1088 rfl rfl ?_
  refine vr_aload_n (q := 1090) dL_law_1089 rfl rfl ?_
  refine vr_iload_n (q := 1091) dL_law_1090 rfl rfl ?_
  refine vr_iconst (q := 1092) dL_law_1091 rfl ⟨by decide, by decide⟩ ?_
  refine vr_iaddN (q := 1093) dL_law_1092 rfl ⟨by omega, by omega⟩ ?_
  refine vr_xald (q := 1094) dL_law_1093 rfl ⟨by omega, by omega⟩ ?_
  -- at L.law 1094: .invokevirtual 124
  refine vr_iv1 (q := 1097) dL_law_1094 rfl vL_124 (Nat.le_of_ble_eq_true rfl) ?_
  refine Ctr_imp (P_kind j) (fun r1 h1 z1 => ?_)
  obtain ⟨v, rfl, k1⟩ := z1
  refine vr_aload_n (q := 1098) dL_law_1097 rfl rfl ?_
  refine vr_aload_n (q := 1099) dL_law_1098 rfl rfl ?_
  refine vr_iload_n (q := 1100) dL_law_1099 rfl rfl ?_
  refine vr_iconst (q := 1101) dL_law_1100 rfl ⟨by decide, by decide⟩ ?_
  refine vr_iaddN (q := 1102) dL_law_1101 rfl ⟨by omega, by omega⟩ ?_
  refine vr_xald (q := 1103) dL_law_1102 rfl ⟨by omega, by omega⟩ ?_
  -- at L.law 1103: .invokevirtual 127
  refine vr_iv1 (q := 1106) dL_law_1103 rfl vL_127 (Nat.le_of_ble_eq_true rfl) ?_
  refine Ctr_imp k1 (fun r2 h2 z2 => ?_)
  obtain ⟨rfl, j2⟩ := z2
  refine vr_ic_eq (t := 1236) (q := 1109) dL_law_1106 (by decide) rfl (fun _ => ?_) (fun c9 => absurd c9 (by omega))
  exact nx h2 j2
theorem w_as {i : Int} (hX : sx_ g) (i0 : 0 ≤ i) (i8 : i + 8 ≤ ((sg_X g 3).1 : Int)) (hL : ((sg_X g 3).1 : Int) ≤ 512) (j : J_ h) (nx : ∀ h2, J_ h2 → V_ g (d + 15) mL_law 1236 [some (sv_r 5 3 0), some (sv_r 4 7 0), some (sv_r 4 8 68), some (sv_i i)] [] h2 Post) : V_ g (d + 15) mL_law 1111 [some (sv_r 5 3 0), some (sv_r 4 7 0), some (sv_r 4 8 68), some (sv_i i)] [] h Post := by
  refine vr_aload_n (q := 1112) dL_law_1111 rfl rfl ?_
  refine vr_aload_n (q := 1113) dL_law_1112 rfl rfl ?_
  refine vr_iload_n (q := 1114) dL_law_1113 rfl rfl ?_
  refine vr_iconst (q := 1115) dL_law_1114 rfl ⟨by decide, by decide⟩ ?_
  refine vr_iaddN (q := 1116) dL_law_1115 rfl ⟨by omega, by omega⟩ ?_
  refine vr_xald (q := 1117) dL_law_1116 rfl ⟨by omega, by omega⟩ ?_
  refine vr_aload_n (q := 1118) dL_law_1117 rfl rfl ?_
  refine vr_iload_n (q := 1119) dL_law_1118 rfl rfl ?_
  refine vr_iconst (q := 1120) dL_law_1119 rfl ⟨by decide, by decide⟩ ?_
  refine vr_iaddN (q := 1121) dL_law_1120 rfl ⟨by omega, by omega⟩ ?_
  refine vr_xald (q := 1122) dL_law_1121 rfl ⟨by omega, by omega⟩ ?_
  -- at L.law 1122: .invokevirtual 128
  refine vr_iv2 (q := 1125) dL_law_1122 rfl vL_128 (Nat.le_of_ble_eq_true rfl) ?_
  refine Ctr_imp (P_as hX j) (fun r1 h1 z1 => ?_)
  obtain ⟨v, rfl, k1⟩ := z1
  refine vr_aload_n (q := 1126) dL_law_1125 rfl rfl ?_
  refine vr_aload_n (q := 1127) dL_law_1126 rfl rfl ?_
  refine vr_iload_n (q := 1128) dL_law_1127 rfl rfl ?_
  refine vr_iconst (q := 1129) dL_law_1128 rfl ⟨by decide, by decide⟩ ?_
  refine vr_iaddN (q := 1130) dL_law_1129 rfl ⟨by omega, by omega⟩ ?_
  refine vr_xald (q := 1131) dL_law_1130 rfl ⟨by omega, by omega⟩ ?_
  refine vr_aload_n (q := 1132) dL_law_1131 rfl rfl ?_
  refine vr_iload_n (q := 1133) dL_law_1132 rfl rfl ?_
  refine vr_iconst (q := 1134) dL_law_1133 rfl ⟨by decide, by decide⟩ ?_
  refine vr_iaddN (q := 1135) dL_law_1134 rfl ⟨by omega, by omega⟩ ?_
  refine vr_xald (q := 1136) dL_law_1135 rfl ⟨by omega, by omega⟩ ?_
  -- at L.law 1136: .invokevirtual 131
  refine vr_iv2 (q := 1139) dL_law_1136 rfl vL_131 (Nat.le_of_ble_eq_true rfl) ?_
  refine Ctr_imp k1 (fun r2 h2 z2 => ?_)
  obtain ⟨rfl, j2⟩ := z2
  refine vr_ic_eq (t := 1236) (q := 1142) dL_law_1139 (by decide) rfl (fun _ => ?_) (fun c9 => absurd c9 (by omega))
  exact nx h2 j2
theorem w_ask {i : Int} (hX : sx_ g) (i0 : 0 ≤ i) (i8 : i + 8 ≤ ((sg_X g 3).1 : Int)) (hL : ((sg_X g 3).1 : Int) ≤ 512) (j : J_ h) (nx : ∀ h2, J_ h2 → V_ g (d + 15) mL_law 1236 [some (sv_r 5 3 0), some (sv_r 4 7 0), some (sv_r 4 8 68), some (sv_i i)] [] h2 Post) : V_ g (d + 15) mL_law 1144 [some (sv_r 5 3 0), some (sv_r 4 7 0), some (sv_r 4 8 68), some (sv_i i)] [] h Post := by
  refine vr_aload_n (q := 1145) dL_law_1144 rfl rfl ?_
  refine vr_aload_n (q := 1146) dL_law_1145 rfl rfl ?_
  refine vr_iload_n (q := 1147) dL_law_1146 rfl rfl ?_
  refine vr_iconst (q := 1148) dL_law_1147 rfl ⟨by decide, by decide⟩ ?_
  refine vr_iaddN (q := 1149) dL_law_1148 rfl ⟨by omega, by omega⟩ ?_
  refine vr_xald (q := 1150) dL_law_1149 rfl ⟨by omega, by omega⟩ ?_
  refine vr_aload_n (q := 1151) dL_law_1150 rfl rfl ?_
  refine vr_iload_n (q := 1152) dL_law_1151 rfl rfl ?_
  refine vr_iconst (q := 1153) dL_law_1152 rfl ⟨by decide, by decide⟩ ?_
  refine vr_iaddN (q := 1154) dL_law_1153 rfl ⟨by omega, by omega⟩ ?_
  refine vr_xald (q := 1155) dL_law_1154 rfl ⟨by omega, by omega⟩ ?_
  -- at L.law 1155: .invokevirtual 132
  refine vr_iv2 (q := 1158) dL_law_1155 rfl vL_132 (Nat.le_of_ble_eq_true rfl) ?_
  refine Ctr_imp (P_ask hX j) (fun r1 h1 z1 => ?_)
  obtain ⟨v, rfl, k1⟩ := z1
  refine vr_aload_n (q := 1159) dL_law_1158 rfl rfl ?_
  refine vr_aload_n (q := 1160) dL_law_1159 rfl rfl ?_
  refine vr_iload_n (q := 1161) dL_law_1160 rfl rfl ?_
  refine vr_iconst (q := 1162) dL_law_1161 rfl ⟨by decide, by decide⟩ ?_
  refine vr_iaddN (q := 1163) dL_law_1162 rfl ⟨by omega, by omega⟩ ?_
  refine vr_xald (q := 1164) dL_law_1163 rfl ⟨by omega, by omega⟩ ?_
  refine vr_aload_n (q := 1165) dL_law_1164 rfl rfl ?_
  refine vr_iload_n (q := 1166) dL_law_1165 rfl rfl ?_
  refine vr_iconst (q := 1167) dL_law_1166 rfl ⟨by decide, by decide⟩ ?_
  refine vr_iaddN (q := 1168) dL_law_1167 rfl ⟨by omega, by omega⟩ ?_
  refine vr_xald (q := 1169) dL_law_1168 rfl ⟨by omega, by omega⟩ ?_
  -- at L.law 1169: .invokevirtual 135
  refine vr_iv2 (q := 1172) dL_law_1169 rfl vL_135 (Nat.le_of_ble_eq_true rfl) ?_
  refine Ctr_imp k1 (fun r2 h2 z2 => ?_)
  obtain ⟨rfl, j2⟩ := z2
  refine vr_ic_eq (t := 1236) (q := 1175) dL_law_1172 (by decide) rfl (fun _ => ?_) (fun c9 => absurd c9 (by omega))
  exact nx h2 j2
theorem w_trace {i : Int} (hX : sx_ g) (i0 : 0 ≤ i) (i8 : i + 8 ≤ ((sg_X g 3).1 : Int)) (hL : ((sg_X g 3).1 : Int) ≤ 512) (j : J_ h) (nx : ∀ h2, J_ h2 → V_ g (d + 15) mL_law 1236 [some (sv_r 5 3 0), some (sv_r 4 7 0), some (sv_r 4 8 68), some (sv_i i)] [] h2 Post) : V_ g (d + 15) mL_law 1177 [some (sv_r 5 3 0), some (sv_r 4 7 0), some (sv_r 4 8 68), some (sv_i i)] [] h Post := by
  refine vr_aload_n (q := 1178) dL_law_1177 rfl rfl ?_
  refine vr_aload_n (q := 1179) dL_law_1178 rfl rfl ?_
  refine vr_iload_n (q := 1180) dL_law_1179 rfl rfl ?_
  refine vr_iconst (q := 1181) dL_law_1180 rfl ⟨by decide, by decide⟩ ?_
  refine vr_iaddN (q := 1182) dL_law_1181 rfl ⟨by omega, by omega⟩ ?_
  refine vr_xald (q := 1183) dL_law_1182 rfl ⟨by omega, by omega⟩ ?_
  -- at L.law 1183: .invokevirtual 136
  refine vr_iv1 (q := 1186) dL_law_1183 rfl vL_136 (Nat.le_of_ble_eq_true rfl) ?_
  refine Ctr_imp (P_trace j) (fun r1 h1 z1 => ?_)
  obtain ⟨v, rfl, k1⟩ := z1
  refine vr_aload_n (q := 1187) dL_law_1186 rfl rfl ?_
  refine vr_aload_n (q := 1188) dL_law_1187 rfl rfl ?_
  refine vr_iload_n (q := 1189) dL_law_1188 rfl rfl ?_
  refine vr_iconst (q := 1190) dL_law_1189 rfl ⟨by decide, by decide⟩ ?_
  refine vr_iaddN (q := 1191) dL_law_1190 rfl ⟨by omega, by omega⟩ ?_
  refine vr_xald (q := 1192) dL_law_1191 rfl ⟨by omega, by omega⟩ ?_
  -- at L.law 1192: .invokevirtual 139
  refine vr_iv1 (q := 1195) dL_law_1192 rfl vL_139 (Nat.le_of_ble_eq_true rfl) ?_
  refine Ctr_imp k1 (fun r2 h2 z2 => ?_)
  obtain ⟨rfl, j2⟩ := z2
  refine vr_ic_eq (t := 1236) (q := 1198) dL_law_1195 (by decide) rfl (fun _ => ?_) (fun c9 => absurd c9 (by omega))
  exact nx h2 j2
theorem w_count {i : Int} (hX : sx_ g) (i0 : 0 ≤ i) (i8 : i + 8 ≤ ((sg_X g 3).1 : Int)) (hL : ((sg_X g 3).1 : Int) ≤ 512) (j : J_ h) (nx : ∀ h2, J_ h2 → V_ g (d + 15) mL_law 1236 [some (sv_r 5 3 0), some (sv_r 4 7 0), some (sv_r 4 8 68), some (sv_i i)] [] h2 Post) : V_ g (d + 15) mL_law 1200 [some (sv_r 5 3 0), some (sv_r 4 7 0), some (sv_r 4 8 68), some (sv_i i)] [] h Post := by
  refine vr_aload_n (q := 1201) dL_law_1200 rfl rfl ?_
  refine vr_aload_n (q := 1202) dL_law_1201 rfl rfl ?_
  refine vr_iload_n (q := 1203) dL_law_1202 rfl rfl ?_
  refine vr_iconst (q := 1204) dL_law_1203 rfl ⟨by decide, by decide⟩ ?_
  refine vr_iaddN (q := 1205) dL_law_1204 rfl ⟨by omega, by omega⟩ ?_
  refine vr_xald (q := 1206) dL_law_1205 rfl ⟨by omega, by omega⟩ ?_
  -- at L.law 1206: .invokevirtual 140
  refine vr_iv1 (q := 1209) dL_law_1206 rfl vL_140 (Nat.le_of_ble_eq_true rfl) ?_
  refine Ctr_imp (P_count j) (fun r1 h1 z1 => ?_)
  obtain ⟨v, rfl, k1⟩ := z1
  refine vr_aload_n (q := 1210) dL_law_1209 rfl rfl ?_
  refine vr_aload_n (q := 1211) dL_law_1210 rfl rfl ?_
  refine vr_iload_n (q := 1212) dL_law_1211 rfl rfl ?_
  refine vr_iconst (q := 1213) dL_law_1212 rfl ⟨by decide, by decide⟩ ?_
  refine vr_iaddN (q := 1214) dL_law_1213 rfl ⟨by omega, by omega⟩ ?_
  refine vr_xald (q := 1215) dL_law_1214 rfl ⟨by omega, by omega⟩ ?_
  -- at L.law 1215: .invokevirtual 143
  refine vr_iv1 (q := 1218) dL_law_1215 rfl vL_143 (Nat.le_of_ble_eq_true rfl) ?_
  refine Ctr_imp k1 (fun r2 h2 z2 => ?_)
  obtain ⟨rfl, j2⟩ := z2
  refine vr_ic_eq (t := 1236) (q := 1221) dL_law_1218 (by decide) rfl (fun _ => ?_) (fun c9 => absurd c9 (by omega))
  exact nx h2 j2
theorem w_status {i : Int} (hX : sx_ g) (i0 : 0 ≤ i) (i8 : i + 8 ≤ ((sg_X g 3).1 : Int)) (hL : ((sg_X g 3).1 : Int) ≤ 512) (j : J_ h) (nx : ∀ h2, J_ h2 → V_ g (d + 15) mL_law 1236 [some (sv_r 5 3 0), some (sv_r 4 7 0), some (sv_r 4 8 68), some (sv_i i)] [] h2 Post) : V_ g (d + 15) mL_law 1223 [some (sv_r 5 3 0), some (sv_r 4 7 0), some (sv_r 4 8 68), some (sv_i i)] [] h Post := by
  refine vr_aload_n (q := 1224) dL_law_1223 rfl rfl ?_
  -- at L.law 1224: .invokevirtual 144
  refine vr_iv0 (q := 1227) dL_law_1224 rfl vL_144 (Nat.le_of_ble_eq_true rfl) ?_
  refine Ctr_imp (P_status j) (fun r1 h1 z1 => ?_)
  obtain ⟨v, rfl, k1⟩ := z1
  refine vr_aload_n (q := 1228) dL_law_1227 rfl rfl ?_
  -- at L.law 1228: .invokevirtual 147
  refine vr_iv0 (q := 1231) dL_law_1228 rfl vL_147 (Nat.le_of_ble_eq_true rfl) ?_
  refine Ctr_imp k1 (fun r2 h2 z2 => ?_)
  obtain ⟨rfl, j2⟩ := z2
  refine vr_ic_eq (t := 1236) (q := 1234) dL_law_1231 (by decide) rfl (fun _ => ?_) (fun c9 => absurd c9 (by omega))
  exact nx h2 j2
theorem l_law (hX : sx_ g) (hL : ((sg_X g 3).1 : Int) ≤ 512) (kk : ∀ h, Post (some (sv_i 1)) h) : ∀ (N : Nat) (i : Int) (h : SH_), 0 ≤ i → (((sg_X g 3).1 : Int) - i).toNat < N → i ≤ 1024 → J_ h → V_ g (d + 15) mL_law 18 [some (sv_r 5 3 0), some (sv_r 4 7 0), some (sv_r 4 8 68), some (sv_i i)] [] h Post := by
  intro N
  induction N with
  | zero => intro i h i0 hN; exact absurd hN (by omega)
  | succ N ih =>
    intro i h i0 hN i1 j
    refine vr_iload_n (q := 19) dL_law_18 rfl rfl ?_
    refine vr_aload_n (q := 20) dL_law_19 rfl rfl ?_
    refine vr_xlen (q := 21) dL_law_20 rfl ?_
    refine vr_bipush (q := 23) dL_law_21 rfl ⟨by decide, by decide⟩ (by decide) ?_
    refine vr_isubN (q := 24) dL_law_23 rfl ⟨by omega, by omega⟩ ?_
    -- at L.law 24: .if_icmp .gt 1218
    refine vr_ic_gt (t := 1242) (q := 27) dL_law_24 (by decide) rfl (fun c1 => ?_) (fun c1 => ?_)
    · refine vr_iconst (q := 1243) dL_law_1242 rfl ⟨by decide, by decide⟩ ?_
      -- at L.law 1243: .ireturn
      refine vr_zret dL_law_1243 rfl ?_ ?_
      · exact Or.inr rfl
      · exact kk h
    · have i8 : i + 8 ≤ ((sg_X g 3).1 : Int) := by omega
      have nx : ∀ h2, J_ h2 → V_ g (d + 15) mL_law 1236 [some (sv_r 5 3 0), some (sv_r 4 7 0), some (sv_r 4 8 68), some (sv_i i)] [] h2 Post := by
        intro h2 j2
        refine vr_iinc (q := 1239) dL_law_1236 rfl rfl ⟨by omega, by omega⟩ (Nat.le_of_ble_eq_true rfl) rfl rfl ?_
        refine vr_goto (q := 18) dL_law_1239 (by decide) ?_
        -- at L.law 18: .iload_n 3
        exact ih (i + 8) h2 (by omega) (by omega) (by omega) j2
      refine vr_aload_n (q := 28) dL_law_27 rfl rfl ?_
      refine vr_iload_n (q := 29) dL_law_28 rfl rfl ?_
      refine vr_xald (q := 30) dL_law_29 rfl ⟨by omega, by omega⟩ ?_
      refine vr_bipush (q := 32) dL_law_30 rfl ⟨by decide, by decide⟩ (by decide) ?_
      refine vr_iand (q := 33) dL_law_32 rfl ?_
      -- at L.law 33: .tableswitch 1203 0 31 #[143, 186, 229, 292, 315, 338, 351, 364, 397, 420, 453, 466, 499, 532, 565, 588, 631, 674, 697, 730, 763, 826, 879, 922, 1009, 1032, 1055, 1078, 1111, 1144, 1167, 1190]
      have hk := nd_31 ((sg_X g 3).2 i.toNat)
      generalize sb_iand ((sg_X g 3).2 i.toNat) 31 = k at hk ⊢
      by_cases s15 : k ≤ 15
      · by_cases s7 : k ≤ 7
        · by_cases s3 : k ≤ 3
          · by_cases s1 : k ≤ 1
            · by_cases s0 : k ≤ 0
              · obtain rfl : k = 0 := by omega
                refine vr_tsI (q := 176) dL_law_33 (by decide) (by decide) rfl (by decide) ?_
                exact w_row hX i0 i8 hL j nx
              · obtain rfl : k = 1 := by omega
                refine vr_tsI (q := 219) dL_law_33 (by decide) (by decide) rfl (by decide) ?_
                exact w_set hX i0 i8 hL j nx
            · by_cases s2 : k ≤ 2
              · obtain rfl : k = 2 := by omega
                refine vr_tsI (q := 262) dL_law_33 (by decide) (by decide) rfl (by decide) ?_
                exact w_copy hX i0 i8 hL j nx
              · obtain rfl : k = 3 := by omega
                refine vr_tsI (q := 325) dL_law_33 (by decide) (by decide) rfl (by decide) ?_
                exact w_drop hX i0 i8 hL j nx
          · by_cases s5 : k ≤ 5
            · by_cases s4 : k ≤ 4
              · obtain rfl : k = 4 := by omega
                refine vr_tsI (q := 348) dL_law_33 (by decide) (by decide) rfl (by decide) ?_
                exact w_feed hX i0 i8 hL j nx
              · obtain rfl : k = 5 := by omega
                refine vr_tsI (q := 371) dL_law_33 (by decide) (by decide) rfl (by decide) ?_
                exact w_town hX i0 i8 hL j nx
            · by_cases s6 : k ≤ 6
              · obtain rfl : k = 6 := by omega
                refine vr_tsI (q := 384) dL_law_33 (by decide) (by decide) rfl (by decide) ?_
                exact w_fault hX i0 i8 hL j nx
              · obtain rfl : k = 7 := by omega
                refine vr_tsI (q := 397) dL_law_33 (by decide) (by decide) rfl (by decide) ?_
                exact w_tell hX i0 i8 hL j nx
        · by_cases s11 : k ≤ 11
          · by_cases s9 : k ≤ 9
            · by_cases s8 : k ≤ 8
              · obtain rfl : k = 8 := by omega
                refine vr_tsI (q := 430) dL_law_33 (by decide) (by decide) rfl (by decide) ?_
                exact w_supper hX i0 i8 hL j nx
              · obtain rfl : k = 9 := by omega
                refine vr_tsI (q := 453) dL_law_33 (by decide) (by decide) rfl (by decide) ?_
                exact w_forget hX i0 i8 hL j nx
            · by_cases s10 : k ≤ 10
              · obtain rfl : k = 10 := by omega
                refine vr_tsI (q := 486) dL_law_33 (by decide) (by decide) rfl (by decide) ?_
                exact w_undo hX i0 i8 hL j nx
              · obtain rfl : k = 11 := by omega
                refine vr_tsI (q := 499) dL_law_33 (by decide) (by decide) rfl (by decide) ?_
                exact w_lie hX i0 i8 hL j nx
          · by_cases s13 : k ≤ 13
            · by_cases s12 : k ≤ 12
              · obtain rfl : k = 12 := by omega
                refine vr_tsI (q := 532) dL_law_33 (by decide) (by decide) rfl (by decide) ?_
                exact w_stranger hX i0 i8 hL j nx
              · obtain rfl : k = 13 := by omega
                refine vr_tsI (q := 565) dL_law_33 (by decide) (by decide) rfl (by decide) ?_
                exact w_need hX i0 i8 hL j nx
            · by_cases s14 : k ≤ 14
              · obtain rfl : k = 14 := by omega
                refine vr_tsI (q := 598) dL_law_33 (by decide) (by decide) rfl (by decide) ?_
                exact w_nods hX i0 i8 hL j nx
              · obtain rfl : k = 15 := by omega
                refine vr_tsI (q := 621) dL_law_33 (by decide) (by decide) rfl (by decide) ?_
                exact w_order hX i0 i8 hL j nx
      · by_cases s23 : k ≤ 23
        · by_cases s19 : k ≤ 19
          · by_cases s17 : k ≤ 17
            · by_cases s16 : k ≤ 16
              · obtain rfl : k = 16 := by omega
                refine vr_tsI (q := 664) dL_law_33 (by decide) (by decide) rfl (by decide) ?_
                exact w_comesIn hX i0 i8 hL j nx
              · obtain rfl : k = 17 := by omega
                refine vr_tsI (q := 707) dL_law_33 (by decide) (by decide) rfl (by decide) ?_
                exact w_dead hX i0 i8 hL j nx
            · by_cases s18 : k ≤ 18
              · obtain rfl : k = 18 := by omega
                refine vr_tsI (q := 730) dL_law_33 (by decide) (by decide) rfl (by decide) ?_
                exact w_help hX i0 i8 hL j nx
              · obtain rfl : k = 19 := by omega
                refine vr_tsI (q := 763) dL_law_33 (by decide) (by decide) rfl (by decide) ?_
                exact w_suppers hX i0 i8 hL j nx
          · by_cases s21 : k ≤ 21
            · by_cases s20 : k ≤ 20
              · obtain rfl : k = 20 := by omega
                refine vr_tsI (q := 796) dL_law_33 (by decide) (by decide) rfl (by decide) ?_
                exact w_doubted hX i0 i8 hL j nx
              · obtain rfl : k = 21 := by omega
                refine vr_tsI (q := 859) dL_law_33 (by decide) (by decide) rfl (by decide) ?_
                exact w_trusted hX i0 i8 hL j nx
            · by_cases s22 : k ≤ 22
              · obtain rfl : k = 22 := by omega
                refine vr_tsI (q := 912) dL_law_33 (by decide) (by decide) rfl (by decide) ?_
                exact w_who hX i0 i8 hL j nx
              · obtain rfl : k = 23 := by omega
                refine vr_tsI (q := 955) dL_law_33 (by decide) (by decide) rfl (by decide) ?_
                exact w_odds hX i0 i8 hL j nx
        · by_cases s27 : k ≤ 27
          · by_cases s25 : k ≤ 25
            · by_cases s24 : k ≤ 24
              · obtain rfl : k = 24 := by omega
                refine vr_tsI (q := 1042) dL_law_33 (by decide) (by decide) rfl (by decide) ?_
                exact w_image hX i0 i8 hL j nx
              · obtain rfl : k = 25 := by omega
                refine vr_tsI (q := 1065) dL_law_33 (by decide) (by decide) rfl (by decide) ?_
                exact w_restore hX i0 i8 hL j nx
            · by_cases s26 : k ≤ 26
              · obtain rfl : k = 26 := by omega
                refine vr_tsI (q := 1088) dL_law_33 (by decide) (by decide) rfl (by decide) ?_
                exact w_kind hX i0 i8 hL j nx
              · obtain rfl : k = 27 := by omega
                refine vr_tsI (q := 1111) dL_law_33 (by decide) (by decide) rfl (by decide) ?_
                exact w_as hX i0 i8 hL j nx
          · by_cases s29 : k ≤ 29
            · by_cases s28 : k ≤ 28
              · obtain rfl : k = 28 := by omega
                refine vr_tsI (q := 1144) dL_law_33 (by decide) (by decide) rfl (by decide) ?_
                exact w_ask hX i0 i8 hL j nx
              · obtain rfl : k = 29 := by omega
                refine vr_tsI (q := 1177) dL_law_33 (by decide) (by decide) rfl (by decide) ?_
                exact w_trace hX i0 i8 hL j nx
            · by_cases s30 : k ≤ 30
              · obtain rfl : k = 30 := by omega
                refine vr_tsI (q := 1200) dL_law_33 (by decide) (by decide) rfl (by decide) ?_
                exact w_count hX i0 i8 hL j nx
              · obtain rfl : k = 31 := by omega
                refine vr_tsI (q := 1223) dL_law_33 (by decide) (by decide) rfl (by decide) ?_
                exact w_status hX i0 i8 hL j nx
end PL_
