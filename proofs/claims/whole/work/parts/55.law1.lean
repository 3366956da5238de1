/-! the law's calls -/
abbrev lB (G : GG) (b L : Nat) (xs : Nat → Int32) (bc bs : Nat) (h : Hp) (pc : Nat) (lv : List (Nat × Value)) (st : List Value) : Prop := bs_B G (lwX G b L xs) mL_law 8 bc bs h pc lv st (fun v _ => v = some (.int 1))
abbrev lV (b m y : Nat) (i : Nat) : List (Nat × Value) := [(0, .ref b), (1, .ref m), (2, .ref y), (3, .int (nI i))]
/-- what the loop gives at the end of its body -/
abbrev Nx (G : GG) (y m : Nat) (A : Nat → Nat) (b L : Nat) (xs : Nat → Int32) (i f B : Nat) : Prop := ∀ (σ : MS) (h : Hp), LI G y m A (B + 60) σ h → σ 16 0 = 0 → lB G b L xs (34 * (10 - zN (σ 0 0)) + 60 * f) (339 * (10 - zN (σ 0 0)) + 120 * f) h 902 (lV b m y i) []
theorem lg_cmp_self (x : Int64) : lg_cmp x x = 0 := by
  unfold lg_cmp
  simp
section Law1
variable {G : GG} {y m : Nat} {A : Nat → Nat} {b L : Nat} {xs : Nat → Int32} {σ : MS} {h : Hp} {i f B : Nat}
theorem l_allocate (hA : mOk y A) (hi : i + 6 ≤ L) (hL : L ≤ 3072) (hB : B + 60 < 1000000) (I : LI G y m A B σ h) (h16 : σ 16 0 = 0) (nx : Nx G y m A b L xs i f B) : lB G b L xs (34 * (10 - zN (σ 0 0)) + 60 * (f + 1)) (339 * (10 - zN (σ 0 0)) + 120 * (f + 1)) h 164 (lV b m y i) [] := by
  obtain ⟨hs, ψ, -, C⟩ := I
  have hI := C.inv
  obtain ⟨fs, hm⟩ := C.M
  have k : Km σ (s_alloc σ (xs (i + 1))).2 := km_alloc hI h16
  have k2 := k.2.1
  have k3 := k.2.2
  refine bs_aload_n (pc' := 165) dL_law_164 rfl rfl rfl ?_
  refine bs_aload_n (pc' := 166) dL_law_165 rfl rfl rfl ?_
  refine bs_iload_n (pc' := 167) dL_law_166 rfl rfl ?_
  refine bs_iconst (v := 1) (pc' := 168) dL_law_167 (by decide) rfl ?_
  refine bs_iadd (pc' := 169) dL_law_168 rfl ?_
  refine bl_sld (pc' := 170) dL_law_169 (i + 1) (nI_add i 1) ⟨by omega, by omega⟩ rfl ?_
  refine bs_callV (N := mX5_allocate) (pc' := 173) dL_law_170 km_L_13 ko_X5_allocate (p_allocate C h16) hm rfl rfl rfl (by omega) (show (34 * (10 - zN ((s_alloc σ (xs (i + 1))).2 0 0)) + 60 * f) + _ ≤ _ by omega) (show (339 * (10 - zN ((s_alloc σ (xs (i + 1))).2 0 0)) + 120 * f) + _ ≤ _ by omega) rfl ?_
  rintro _ h1 ⟨rfl, C1⟩
  rw [← C1.self]
  refine bs_aload_n (pc' := 174) dL_law_173 rfl rfl rfl ?_
  refine bs_aload_n (pc' := 175) dL_law_174 rfl rfl rfl ?_
  refine bs_iload_n (pc' := 176) dL_law_175 rfl rfl ?_
  refine bs_iconst (v := 1) (pc' := 177) dL_law_176 (by decide) rfl ?_
  refine bs_iadd (pc' := 178) dL_law_177 rfl ?_
  refine bl_sld (pc' := 179) dL_law_178 (i + 1) (nI_add i 1) ⟨by omega, by omega⟩ rfl ?_
  refine bs_callV (N := mX6_allocate) (pc' := 182) dL_law_179 km_L_17 ko_X6_allocate (sm_allocate hA hI) mh_y rfl rfl rfl (by omega) (Nat.le_refl _) (Nat.le_refl _) rfl ?_
  rintro _ _ ⟨rfl, rfl⟩
  refine bs_icmp_eq (tgt := 902) (pc' := 185) dL_law_182 rfl rfl (fun _ => ?_) (fun c182 => absurd rfl c182)
  exact nx _ _ ⟨_, _, mh_mh.symm, C1.swap.up (by omega)⟩ k.1
theorem l_read (hA : mOk y A) (hi : i + 6 ≤ L) (hL : L ≤ 3072) (hB : B + 60 < 1000000) (I : LI G y m A B σ h) (h16 : σ 16 0 = 0) (nx : Nx G y m A b L xs i f B) : lB G b L xs (34 * (10 - zN (σ 0 0)) + 60 * (f + 1)) (339 * (10 - zN (σ 0 0)) + 120 * (f + 1)) h 187 (lV b m y i) [] := by
  obtain ⟨hs, ψ, -, C⟩ := I
  have hI := C.inv
  obtain ⟨fs, hm⟩ := C.M
  have k : Kp σ (s_read σ (xs (i + 1)) (xs (i + 2))).2 := kp_read hI h16
  have k2 := k.2
  refine bs_aload_n (pc' := 188) dL_law_187 rfl rfl rfl ?_
  refine bs_aload_n (pc' := 189) dL_law_188 rfl rfl rfl ?_
  refine bs_iload_n (pc' := 190) dL_law_189 rfl rfl ?_
  refine bs_iconst (v := 1) (pc' := 191) dL_law_190 (by decide) rfl ?_
  refine bs_iadd (pc' := 192) dL_law_191 rfl ?_
  refine bl_sld (pc' := 193) dL_law_192 (i + 1) (nI_add i 1) ⟨by omega, by omega⟩ rfl ?_
  refine bs_aload_n (pc' := 194) dL_law_193 rfl rfl rfl ?_
  refine bs_iload_n (pc' := 195) dL_law_194 rfl rfl ?_
  refine bs_iconst (v := 2) (pc' := 196) dL_law_195 (by decide) rfl ?_
  refine bs_iadd (pc' := 197) dL_law_196 rfl ?_
  refine bl_sld (pc' := 198) dL_law_197 (i + 2) (nI_add i 2) ⟨by omega, by omega⟩ rfl ?_
  refine bs_callV (N := mX5_read) (pc' := 201) dL_law_198 km_L_18 ko_X5_read (p_read C h16) hm rfl rfl rfl (by omega) (show (34 * (10 - zN ((s_read σ (xs (i + 1)) (xs (i + 2))).2 0 0)) + 60 * f) + _ ≤ _ by omega) (show (339 * (10 - zN ((s_read σ (xs (i + 1)) (xs (i + 2))).2 0 0)) + 120 * f) + _ ≤ _ by omega) rfl ?_
  rintro _ h1 ⟨rfl, C1⟩
  rw [← C1.self]
  refine bs_aload_n (pc' := 202) dL_law_201 rfl rfl rfl ?_
  refine bs_aload_n (pc' := 203) dL_law_202 rfl rfl rfl ?_
  refine bs_iload_n (pc' := 204) dL_law_203 rfl rfl ?_
  refine bs_iconst (v := 1) (pc' := 205) dL_law_204 (by decide) rfl ?_
  refine bs_iadd (pc' := 206) dL_law_205 rfl ?_
  refine bl_sld (pc' := 207) dL_law_206 (i + 1) (nI_add i 1) ⟨by omega, by omega⟩ rfl ?_
  refine bs_aload_n (pc' := 208) dL_law_207 rfl rfl rfl ?_
  refine bs_iload_n (pc' := 209) dL_law_208 rfl rfl ?_
  refine bs_iconst (v := 2) (pc' := 210) dL_law_209 (by decide) rfl ?_
  refine bs_iadd (pc' := 211) dL_law_210 rfl ?_
  refine bl_sld (pc' := 212) dL_law_211 (i + 2) (nI_add i 2) ⟨by omega, by omega⟩ rfl ?_
  refine bs_callV (N := mX6_read) (pc' := 215) dL_law_212 km_L_22 ko_X6_read (sm_read hA hI) mh_y rfl rfl rfl (by omega) (Nat.le_refl _) (Nat.le_refl _) rfl ?_
  rintro _ _ ⟨rfl, rfl⟩
  refine bs_icmp_eq (tgt := 902) (pc' := 218) dL_law_215 rfl rfl (fun _ => ?_) (fun c215 => absurd rfl c215)
  exact nx _ _ ⟨_, _, mh_mh.symm, C1.swap.up (by omega)⟩ k.1
theorem l_write (hA : mOk y A) (hi : i + 6 ≤ L) (hL : L ≤ 3072) (hB : B + 60 < 1000000) (I : LI G y m A B σ h) (h16 : σ 16 0 = 0) (nx : Nx G y m A b L xs i f B) : lB G b L xs (34 * (10 - zN (σ 0 0)) + 60 * (f + 1)) (339 * (10 - zN (σ 0 0)) + 120 * (f + 1)) h 220 (lV b m y i) [] := by
  obtain ⟨hs, ψ, -, C⟩ := I
  have hI := C.inv
  obtain ⟨fs, hm⟩ := C.M
  have k : Kp σ (s_write σ (xs (i + 1)) (xs (i + 2)) (xs (i + 3))).2 := kp_write hI h16
  have k2 := k.2
  refine bs_aload_n (pc' := 221) dL_law_220 rfl rfl rfl ?_
  refine bs_aload_n (pc' := 222) dL_law_221 rfl rfl rfl ?_
  refine bs_iload_n (pc' := 223) dL_law_222 rfl rfl ?_
  refine bs_iconst (v := 1) (pc' := 224) dL_law_223 (by decide) rfl ?_
  refine bs_iadd (pc' := 225) dL_law_224 rfl ?_
  refine bl_sld (pc' := 226) dL_law_225 (i + 1) (nI_add i 1) ⟨by omega, by omega⟩ rfl ?_
  refine bs_aload_n (pc' := 227) dL_law_226 rfl rfl rfl ?_
  refine bs_iload_n (pc' := 228) dL_law_227 rfl rfl ?_
  refine bs_iconst (v := 2) (pc' := 229) dL_law_228 (by decide) rfl ?_
  refine bs_iadd (pc' := 230) dL_law_229 rfl ?_
  refine bl_sld (pc' := 231) dL_law_230 (i + 2) (nI_add i 2) ⟨by omega, by omega⟩ rfl ?_
  refine bs_aload_n (pc' := 232) dL_law_231 rfl rfl rfl ?_
  refine bs_iload_n (pc' := 233) dL_law_232 rfl rfl ?_
  refine bs_iconst (v := 3) (pc' := 234) dL_law_233 (by decide) rfl ?_
  refine bs_iadd (pc' := 235) dL_law_234 rfl ?_
  refine bl_sld (pc' := 236) dL_law_235 (i + 3) (nI_add i 3) ⟨by omega, by omega⟩ rfl ?_
  refine bs_callV (N := mX5_write) (pc' := 239) dL_law_236 km_L_23 ko_X5_write (p_write C h16) hm rfl rfl rfl (by omega) (show (34 * (10 - zN ((s_write σ (xs (i + 1)) (xs (i + 2)) (xs (i + 3))).2 0 0)) + 60 * f) + _ ≤ _ by omega) (show (339 * (10 - zN ((s_write σ (xs (i + 1)) (xs (i + 2)) (xs (i + 3))).2 0 0)) + 120 * f) + _ ≤ _ by omega) rfl ?_
  rintro _ h1 ⟨rfl, C1⟩
  rw [← C1.self]
  refine bs_aload_n (pc' := 240) dL_law_239 rfl rfl rfl ?_
  refine bs_aload_n (pc' := 241) dL_law_240 rfl rfl rfl ?_
  refine bs_iload_n (pc' := 242) dL_law_241 rfl rfl ?_
  refine bs_iconst (v := 1) (pc' := 243) dL_law_242 (by decide) rfl ?_
  refine bs_iadd (pc' := 244) dL_law_243 rfl ?_
  refine bl_sld (pc' := 245) dL_law_244 (i + 1) (nI_add i 1) ⟨by omega, by omega⟩ rfl ?_
  refine bs_aload_n (pc' := 246) dL_law_245 rfl rfl rfl ?_
  refine bs_iload_n (pc' := 247) dL_law_246 rfl rfl ?_
  refine bs_iconst (v := 2) (pc' := 248) dL_law_247 (by decide) rfl ?_
  refine bs_iadd (pc' := 249) dL_law_248 rfl ?_
  refine bl_sld (pc' := 250) dL_law_249 (i + 2) (nI_add i 2) ⟨by omega, by omega⟩ rfl ?_
  refine bs_aload_n (pc' := 251) dL_law_250 rfl rfl rfl ?_
  refine bs_iload_n (pc' := 252) dL_law_251 rfl rfl ?_
  refine bs_iconst (v := 3) (pc' := 253) dL_law_252 (by decide) rfl ?_
  refine bs_iadd (pc' := 254) dL_law_253 rfl ?_
  refine bl_sld (pc' := 255) dL_law_254 (i + 3) (nI_add i 3) ⟨by omega, by omega⟩ rfl ?_
  refine bs_callV (N := mX6_write) (pc' := 258) dL_law_255 km_L_27 ko_X6_write (sm_write hA hI) mh_y rfl rfl rfl (by omega) (Nat.le_refl _) (Nat.le_refl _) rfl ?_
  rintro _ _ ⟨rfl, rfl⟩
  refine bs_icmp_eq (tgt := 902) (pc' := 261) dL_law_258 rfl rfl (fun _ => ?_) (fun c258 => absurd rfl c258)
  exact nx _ _ ⟨_, _, mh_mh.symm, C1.swap.up (by omega)⟩ k.1
theorem l_reborrow (hA : mOk y A) (hi : i + 6 ≤ L) (hL : L ≤ 3072) (hB : B + 60 < 1000000) (I : LI G y m A B σ h) (h16 : σ 16 0 = 0) (nx : Nx G y m A b L xs i f B) : lB G b L xs (34 * (10 - zN (σ 0 0)) + 60 * (f + 1)) (339 * (10 - zN (σ 0 0)) + 120 * (f + 1)) h 263 (lV b m y i) [] := by
  obtain ⟨hs, ψ, -, C⟩ := I
  have hI := C.inv
  obtain ⟨fs, hm⟩ := C.M
  have k : Kp σ (s_reb σ (xs (i + 1)) (xs (i + 2)) (xs (i + 3)) (xs (i + 4)) (xs (i + 5))).2 := kp_reb hI h16
  have k2 := k.2
  refine bs_aload_n (pc' := 264) dL_law_263 rfl rfl rfl ?_
  refine bs_aload_n (pc' := 265) dL_law_264 rfl rfl rfl ?_
  refine bs_iload_n (pc' := 266) dL_law_265 rfl rfl ?_
  refine bs_iconst (v := 1) (pc' := 267) dL_law_266 (by decide) rfl ?_
  refine bs_iadd (pc' := 268) dL_law_267 rfl ?_
  refine bl_sld (pc' := 269) dL_law_268 (i + 1) (nI_add i 1) ⟨by omega, by omega⟩ rfl ?_
  refine bs_aload_n (pc' := 270) dL_law_269 rfl rfl rfl ?_
  refine bs_iload_n (pc' := 271) dL_law_270 rfl rfl ?_
  refine bs_iconst (v := 2) (pc' := 272) dL_law_271 (by decide) rfl ?_
  refine bs_iadd (pc' := 273) dL_law_272 rfl ?_
  refine bl_sld (pc' := 274) dL_law_273 (i + 2) (nI_add i 2) ⟨by omega, by omega⟩ rfl ?_
  refine bs_aload_n (pc' := 275) dL_law_274 rfl rfl rfl ?_
  refine bs_iload_n (pc' := 276) dL_law_275 rfl rfl ?_
  refine bs_iconst (v := 3) (pc' := 277) dL_law_276 (by decide) rfl ?_
  refine bs_iadd (pc' := 278) dL_law_277 rfl ?_
  refine bl_sld (pc' := 279) dL_law_278 (i + 3) (nI_add i 3) ⟨by omega, by omega⟩ rfl ?_
  refine bs_aload_n (pc' := 280) dL_law_279 rfl rfl rfl ?_
  refine bs_iload_n (pc' := 281) dL_law_280 rfl rfl ?_
  refine bs_iconst (v := 4) (pc' := 282) dL_law_281 (by decide) rfl ?_
  refine bs_iadd (pc' := 283) dL_law_282 rfl ?_
  refine bl_sld (pc' := 284) dL_law_283 (i + 4) (nI_add i 4) ⟨by omega, by omega⟩ rfl ?_
  refine bs_aload_n (pc' := 285) dL_law_284 rfl rfl rfl ?_
  refine bs_iload_n (pc' := 286) dL_law_285 rfl rfl ?_
  refine bs_iconst (v := 5) (pc' := 287) dL_law_286 (by decide) rfl ?_
  refine bs_iadd (pc' := 288) dL_law_287 rfl ?_
  refine bl_sld (pc' := 289) dL_law_288 (i + 5) (nI_add i 5) ⟨by omega, by omega⟩ rfl ?_
  refine bs_callV (N := mX5_reborrow) (pc' := 292) dL_law_289 km_L_28 ko_X5_reborrow (p_reborrow C h16) hm rfl rfl rfl (by omega) (show (34 * (10 - zN ((s_reb σ (xs (i + 1)) (xs (i + 2)) (xs (i + 3)) (xs (i + 4)) (xs (i + 5))).2 0 0)) + 60 * f) + _ ≤ _ by omega) (show (339 * (10 - zN ((s_reb σ (xs (i + 1)) (xs (i + 2)) (xs (i + 3)) (xs (i + 4)) (xs (i + 5))).2 0 0)) + 120 * f) + _ ≤ _ by omega) rfl ?_
  rintro _ h1 ⟨rfl, C1⟩
  rw [← C1.self]
  refine bs_aload_n (pc' := 293) dL_law_292 rfl rfl rfl ?_
  refine bs_aload_n (pc' := 294) dL_law_293 rfl rfl rfl ?_
  refine bs_iload_n (pc' := 295) dL_law_294 rfl rfl ?_
  refine bs_iconst (v := 1) (pc' := 296) dL_law_295 (by decide) rfl ?_
  refine bs_iadd (pc' := 297) dL_law_296 rfl ?_
  refine bl_sld (pc' := 298) dL_law_297 (i + 1) (nI_add i 1) ⟨by omega, by omega⟩ rfl ?_
  refine bs_aload_n (pc' := 299) dL_law_298 rfl rfl rfl ?_
  refine bs_iload_n (pc' := 300) dL_law_299 rfl rfl ?_
  refine bs_iconst (v := 2) (pc' := 301) dL_law_300 (by decide) rfl ?_
  refine bs_iadd (pc' := 302) dL_law_301 rfl ?_
  refine bl_sld (pc' := 303) dL_law_302 (i + 2) (nI_add i 2) ⟨by omega, by omega⟩ rfl ?_
  refine bs_aload_n (pc' := 304) dL_law_303 rfl rfl rfl ?_
  refine bs_iload_n (pc' := 305) dL_law_304 rfl rfl ?_
  refine bs_iconst (v := 3) (pc' := 306) dL_law_305 (by decide) rfl ?_
  refine bs_iadd (pc' := 307) dL_law_306 rfl ?_
  refine bl_sld (pc' := 308) dL_law_307 (i + 3) (nI_add i 3) ⟨by omega, by omega⟩ rfl ?_
  refine bs_aload_n (pc' := 309) dL_law_308 rfl rfl rfl ?_
  refine bs_iload_n (pc' := 310) dL_law_309 rfl rfl ?_
  refine bs_iconst (v := 4) (pc' := 311) dL_law_310 (by decide) rfl ?_
  refine bs_iadd (pc' := 312) dL_law_311 rfl ?_
  refine bl_sld (pc' := 313) dL_law_312 (i + 4) (nI_add i 4) ⟨by omega, by omega⟩ rfl ?_
  refine bs_aload_n (pc' := 314) dL_law_313 rfl rfl rfl ?_
  refine bs_iload_n (pc' := 315) dL_law_314 rfl rfl ?_
  refine bs_iconst (v := 5) (pc' := 316) dL_law_315 (by decide) rfl ?_
  refine bs_iadd (pc' := 317) dL_law_316 rfl ?_
  refine bl_sld (pc' := 318) dL_law_317 (i + 5) (nI_add i 5) ⟨by omega, by omega⟩ rfl ?_
  refine bs_callV (N := mX6_reborrow) (pc' := 321) dL_law_318 km_L_32 ko_X6_reborrow (sm_reborrow hA hI) mh_y rfl rfl rfl (by omega) (Nat.le_refl _) (Nat.le_refl _) rfl ?_
  rintro _ _ ⟨rfl, rfl⟩
  refine bs_icmp_eq (tgt := 902) (pc' := 324) dL_law_321 rfl rfl (fun _ => ?_) (fun c321 => absurd rfl c321)
  exact nx _ _ ⟨_, _, mh_mh.symm, C1.swap.up (by omega)⟩ k.1
theorem l_free (hA : mOk y A) (hi : i + 6 ≤ L) (hL : L ≤ 3072) (hB : B + 60 < 1000000) (I : LI G y m A B σ h) (h16 : σ 16 0 = 0) (nx : Nx G y m A b L xs i f B) : lB G b L xs (34 * (10 - zN (σ 0 0)) + 60 * (f + 1)) (339 * (10 - zN (σ 0 0)) + 120 * (f + 1)) h 326 (lV b m y i) [] := by
  obtain ⟨hs, ψ, -, C⟩ := I
  have hI := C.inv
  obtain ⟨fs, hm⟩ := C.M
  have k : Kp σ (s_free σ (xs (i + 1))).2 := kp_free hI h16
  have k2 := k.2
  refine bs_aload_n (pc' := 327) dL_law_326 rfl rfl rfl ?_
  refine bs_aload_n (pc' := 328) dL_law_327 rfl rfl rfl ?_
  refine bs_iload_n (pc' := 329) dL_law_328 rfl rfl ?_
  refine bs_iconst (v := 1) (pc' := 330) dL_law_329 (by decide) rfl ?_
  refine bs_iadd (pc' := 331) dL_law_330 rfl ?_
  refine bl_sld (pc' := 332) dL_law_331 (i + 1) (nI_add i 1) ⟨by omega, by omega⟩ rfl ?_
  refine bs_callV (N := mX5_free) (pc' := 335) dL_law_332 km_L_33 ko_X5_free (p_free C h16) hm rfl rfl rfl (by omega) (show (34 * (10 - zN ((s_free σ (xs (i + 1))).2 0 0)) + 60 * f) + _ ≤ _ by omega) (show (339 * (10 - zN ((s_free σ (xs (i + 1))).2 0 0)) + 120 * f) + _ ≤ _ by omega) rfl ?_
  rintro _ h1 ⟨rfl, C1⟩
  rw [← C1.self]
  refine bs_aload_n (pc' := 336) dL_law_335 rfl rfl rfl ?_
  refine bs_aload_n (pc' := 337) dL_law_336 rfl rfl rfl ?_
  refine bs_iload_n (pc' := 338) dL_law_337 rfl rfl ?_
  refine bs_iconst (v := 1) (pc' := 339) dL_law_338 (by decide) rfl ?_
  refine bs_iadd (pc' := 340) dL_law_339 rfl ?_
  refine bl_sld (pc' := 341) dL_law_340 (i + 1) (nI_add i 1) ⟨by omega, by omega⟩ rfl ?_
  refine bs_callV (N := mX6_free) (pc' := 344) dL_law_341 km_L_36 ko_X6_free (sm_free hA hI) mh_y rfl rfl rfl (by omega) (Nat.le_refl _) (Nat.le_refl _) rfl ?_
  rintro _ _ ⟨rfl, rfl⟩
  refine bs_icmp_eq (tgt := 902) (pc' := 347) dL_law_344 rfl rfl (fun _ => ?_) (fun c344 => absurd rfl c344)
  exact nx _ _ ⟨_, _, mh_mh.symm, C1.swap.up (by omega)⟩ k.1
theorem l_enterCall (hA : mOk y A) (hi : i + 6 ≤ L) (hL : L ≤ 3072) (hB : B + 60 < 1000000) (I : LI G y m A B σ h) (h16 : σ 16 0 = 0) (nx : Nx G y m A b L xs i f B) : lB G b L xs (34 * (10 - zN (σ 0 0)) + 60 * (f + 1)) (339 * (10 - zN (σ 0 0)) + 120 * (f + 1)) h 349 (lV b m y i) [] := by
  obtain ⟨hs, ψ, -, C⟩ := I
  have hI := C.inv
  obtain ⟨fs, hm⟩ := C.M
  have k : Kp σ (s_enter σ).2 := kp_enter hI h16
  have k2 := k.2
  refine bs_aload_n (pc' := 350) dL_law_349 rfl rfl rfl ?_
  refine bs_callV (N := mX5_enterCall) (pc' := 353) dL_law_350 km_L_37 ko_X5_enterCall (p_enterCall C h16 (by omega)) hm rfl rfl rfl (by omega) (show (34 * (10 - zN ((s_enter σ).2 0 0)) + 60 * f) + _ ≤ _ by omega) (show (339 * (10 - zN ((s_enter σ).2 0 0)) + 120 * f) + _ ≤ _ by omega) rfl ?_
  rintro _ h1 ⟨rfl, C1⟩
  rw [← C1.self]
  refine bs_aload_n (pc' := 354) dL_law_353 rfl rfl rfl ?_
  refine bs_callV (N := mX6_enterCall) (pc' := 357) dL_law_354 km_L_41 ko_X6_enterCall (sm_enterCall hA) mh_y rfl rfl rfl (by omega) (Nat.le_refl _) (Nat.le_refl _) rfl ?_
  rintro _ _ ⟨rfl, rfl⟩
  refine bs_icmp_eq (tgt := 902) (pc' := 360) dL_law_357 rfl rfl (fun _ => ?_) (fun c357 => absurd rfl c357)
  exact nx _ _ ⟨_, _, mh_mh.symm, C1.swap.up (by omega)⟩ k.1
theorem l_leaveCall (hA : mOk y A) (hi : i + 6 ≤ L) (hL : L ≤ 3072) (hB : B + 60 < 1000000) (I : LI G y m A B σ h) (h16 : σ 16 0 = 0) (nx : Nx G y m A b L xs i f B) : lB G b L xs (34 * (10 - zN (σ 0 0)) + 60 * (f + 1)) (339 * (10 - zN (σ 0 0)) + 120 * (f + 1)) h 362 (lV b m y i) [] := by
  obtain ⟨hs, ψ, -, C⟩ := I
  have hI := C.inv
  obtain ⟨fs, hm⟩ := C.M
  have k : Kp σ (s_leave σ).2 := kp_leave hI h16
  have k2 := k.2
  refine bs_aload_n (pc' := 363) dL_law_362 rfl rfl rfl ?_
  refine bs_callV (N := mX5_leaveCall) (pc' := 366) dL_law_363 km_L_42 ko_X5_leaveCall (p_leaveCall C h16) hm rfl rfl rfl (by omega) (show (34 * (10 - zN ((s_leave σ).2 0 0)) + 60 * f) + _ ≤ _ by omega) (show (339 * (10 - zN ((s_leave σ).2 0 0)) + 120 * f) + _ ≤ _ by omega) rfl ?_
  rintro _ h1 ⟨rfl, C1⟩
  rw [← C1.self]
  refine bs_aload_n (pc' := 367) dL_law_366 rfl rfl rfl ?_
  refine bs_callV (N := mX6_leaveCall) (pc' := 370) dL_law_367 km_L_45 ko_X6_leaveCall (sm_leaveCall hA) mh_y rfl rfl rfl (by omega) (Nat.le_refl _) (Nat.le_refl _) rfl ?_
  rintro _ _ ⟨rfl, rfl⟩
  refine bs_icmp_eq (tgt := 902) (pc' := 373) dL_law_370 rfl rfl (fun _ => ?_) (fun c370 => absurd rfl c370)
  exact nx _ _ ⟨_, _, mh_mh.symm, C1.swap.up (by omega)⟩ k.1
theorem l_checkRead (hA : mOk y A) (hi : i + 6 ≤ L) (hL : L ≤ 3072) (hB : B + 60 < 1000000) (I : LI G y m A B σ h) (h16 : σ 16 0 = 0) (nx : Nx G y m A b L xs i f B) : lB G b L xs (34 * (10 - zN (σ 0 0)) + 60 * (f + 1)) (339 * (10 - zN (σ 0 0)) + 120 * (f + 1)) h 375 (lV b m y i) [] := by
  obtain ⟨hs, ψ, -, C⟩ := I
  have hI := C.inv
  obtain ⟨fs, hm⟩ := C.M
  have k : Kp σ (s_ckR σ (xs (i + 1)) (xs (i + 2))).2 := kp_ckR h16
  have k2 := k.2
  refine bs_aload_n (pc' := 376) dL_law_375 rfl rfl rfl ?_
  refine bs_aload_n (pc' := 377) dL_law_376 rfl rfl rfl ?_
  refine bs_iload_n (pc' := 378) dL_law_377 rfl rfl ?_
  refine bs_iconst (v := 1) (pc' := 379) dL_law_378 (by decide) rfl ?_
  refine bs_iadd (pc' := 380) dL_law_379 rfl ?_
  refine bl_sld (pc' := 381) dL_law_380 (i + 1) (nI_add i 1) ⟨by omega, by omega⟩ rfl ?_
  refine bs_aload_n (pc' := 382) dL_law_381 rfl rfl rfl ?_
  refine bs_iload_n (pc' := 383) dL_law_382 rfl rfl ?_
  refine bs_iconst (v := 2) (pc' := 384) dL_law_383 (by decide) rfl ?_
  refine bs_iadd (pc' := 385) dL_law_384 rfl ?_
  refine bl_sld (pc' := 386) dL_law_385 (i + 2) (nI_add i 2) ⟨by omega, by omega⟩ rfl ?_
  refine bs_callV (N := mX5_checkRead) (pc' := 389) dL_law_386 km_L_46 ko_X5_checkRead (p_checkRead C h16) hm rfl rfl rfl (by omega) (show (34 * (10 - zN ((s_ckR σ (xs (i + 1)) (xs (i + 2))).2 0 0)) + 60 * f) + _ ≤ _ by omega) (show (339 * (10 - zN ((s_ckR σ (xs (i + 1)) (xs (i + 2))).2 0 0)) + 120 * f) + _ ≤ _ by omega) rfl ?_
  rintro _ h1 ⟨rfl, C1⟩
  rw [← C1.self]
  refine bs_aload_n (pc' := 390) dL_law_389 rfl rfl rfl ?_
  refine bs_aload_n (pc' := 391) dL_law_390 rfl rfl rfl ?_
  refine bs_iload_n (pc' := 392) dL_law_391 rfl rfl ?_
  refine bs_iconst (v := 1) (pc' := 393) dL_law_392 (by decide) rfl ?_
  refine bs_iadd (pc' := 394) dL_law_393 rfl ?_
  refine bl_sld (pc' := 395) dL_law_394 (i + 1) (nI_add i 1) ⟨by omega, by omega⟩ rfl ?_
  refine bs_aload_n (pc' := 396) dL_law_395 rfl rfl rfl ?_
  refine bs_iload_n (pc' := 397) dL_law_396 rfl rfl ?_
  refine bs_iconst (v := 2) (pc' := 398) dL_law_397 (by decide) rfl ?_
  refine bs_iadd (pc' := 399) dL_law_398 rfl ?_
  refine bl_sld (pc' := 400) dL_law_399 (i + 2) (nI_add i 2) ⟨by omega, by omega⟩ rfl ?_
  refine bs_callV (N := mX6_checkRead) (pc' := 403) dL_law_400 km_L_49 ko_X6_checkRead (sm_checkRead hA hI) mh_y rfl rfl rfl (by omega) (Nat.le_refl _) (Nat.le_refl _) rfl ?_
  rintro _ _ ⟨rfl, rfl⟩
  refine bs_icmp_eq (tgt := 902) (pc' := 406) dL_law_403 rfl rfl (fun _ => ?_) (fun c403 => absurd rfl c403)
  exact nx _ _ ⟨_, _, mh_mh.symm, C1.swap.up (by omega)⟩ k.1
end Law1
