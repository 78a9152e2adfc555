abbrev mL_law : xv_M := (RL, cL_law, 4, false, ret, room_1)
def xl_P : xv_P := fun v _ _ => v = some (.int 1)
theorem xs_Mok {h h' : xv_H} {σ : xs_Sg} (H : xs_Mo h σ) (hf : ∀ i, 83 ≤ i → h' i = h i) : xs_Mo h' σ := by
  obtain ⟨C, dk, hM, hR⟩ := H
  exact ⟨C, dk, ⟨(hf 83 (by omega)).trans (xs_M83 hM), (hf 84 (by omega)).trans (xs_M84 hM), (hf 85 (by omega)).trans (xs_M85 hM), (hf 86 (by omega)).trans (xs_M86 hM), (hf 87 (by omega)).trans (xs_M87 hM), (hf 88 (by omega)).trans (xs_M88 hM), (hf 89 (by omega)).trans (xs_M89 hM), (hf 90 (by omega)).trans (xs_M90 hM), (hf 91 (by omega)).trans (xs_M91 hM), (hf 92 (by omega)).trans (xs_M92 hM), (hf 93 (by omega)).trans (xs_M93 hM), (hf 94 (by omega)).trans (xs_M94 hM), (hf 95 (by omega)).trans (xs_M95 hM), (hf 96 (by omega)).trans (xs_M96 hM), (hf 97 (by omega)).trans (xs_M97 hM), (hf 98 (by omega)).trans (xs_M98 hM), (hf 99 (by omega)).trans (xs_M99 hM), (hf 100 (by omega)).trans (xs_M100 hM), (hf 101 (by omega)).trans (xs_M101 hM), (hf 102 (by omega)).trans (xs_M102 hM), (hf 103 (by omega)).trans (xs_M103 hM)⟩, hR⟩
set_option maxRecDepth 20000 in
set_option maxHeartbeats 2000000 in
/-- sheet -/
theorem xl_c0 {L : Nat} {xs : Nat → Int32} {k : Nat} {h : xv_H} {σ : xs_Sg} (hL : L ≤ 3584) (hk : 7 * k + 7 ≤ L) (hS : xs_S h σ) (hMo : xs_Mo h σ) (hVV : xs_VV σ) (K : ∀ (hb : xv_H) (σ' : xs_Sg), xs_S hb σ' → xs_Mo hb σ' → xs_VV σ' → xv_V (L, xs) mL_law xl_P 104 25323 1693 [(0, .ref 1006), (1, .ref 0), (2, .ref 83), (3, .int (nI (7 * k)))] [] hb 104) : xv_V (L, xs) mL_law xl_P 104 25323 196 [(0, .ref 1006), (1, .ref 0), (2, .ref 83), (3, .int (nI (7 * k)))] [] h 104 := by
  refine xi_aload_n (q := 197) dL_law_196 rfl rfl ?_
  refine xi_aload_n (q := 198) dL_law_197 rfl rfl ?_
  refine xi_iload_n (q := 199) dL_law_198 rfl rfl ?_
  refine xi_iconst (x := 1) (q := 200) dL_law_199 (by decide) rfl ?_
  refine xi_iadd (q := 201) dL_law_200 rfl ?_
  refine xi_roald (j := 6) (w := (L, xs)) (q := 202) dL_law_201 rfl (by rw [show (nI (7 * k) + 1 : Int32) = nI (7 * k + 1) from nI_add _ _]; exact xv_ixN (k := 7 * k + 1) (m := L) (by omega) (by omega)) rfl rfl ?_
  refine xi_aload_n (q := 203) dL_law_202 rfl rfl ?_
  refine xi_iload_n (q := 204) dL_law_203 rfl rfl ?_
  refine xi_iconst (x := 2) (q := 205) dL_law_204 (by decide) rfl ?_
  refine xi_iadd (q := 206) dL_law_205 rfl ?_
  refine xi_roald (j := 6) (w := (L, xs)) (q := 207) dL_law_206 rfl (by rw [show (nI (7 * k) + 2 : Int32) = nI (7 * k + 2) from nI_add _ _]; exact xv_ixN (k := 7 * k + 2) (m := L) (by omega) (by omega)) rfl rfl ?_
  refine xi_aload_n (q := 208) dL_law_207 rfl rfl ?_
  refine xi_iload_n (q := 209) dL_law_208 rfl rfl ?_
  refine xi_iconst (x := 3) (q := 210) dL_law_209 (by decide) rfl ?_
  refine xi_iadd (q := 211) dL_law_210 rfl ?_
  refine xi_roald (j := 6) (w := (L, xs)) (q := 212) dL_law_211 rfl (by rw [show (nI (7 * k) + 3 : Int32) = nI (7 * k + 3) from nI_add _ _]; exact xv_ixN (k := 7 * k + 3) (m := L) (by omega) (by omega)) rfl rfl ?_
  refine xv_cV3 (q := 215) xm_X8_sheet ln_L_13 dL_law_212 ⟨by omega, hS.1.1⟩ rfl ⟨(Nat.le_of_ble_eq_true rfl), (Nat.le_of_ble_eq_true rfl)⟩ (Nat.le_of_ble_eq_true rfl) ⟨rfl, rfl⟩ rfl (Nat.le_of_ble_eq_true rfl) (Nat.le_of_ble_eq_true rfl) ?_
  refine ⟨σ, _, _, _, rfl, hS, by omega, hVV.1.1, fun ha Sa Fa => ?_⟩
  have Ma : xs_Mo ha σ := xs_Mok hMo Fa
  obtain ⟨C, dk, hM, hR⟩ := id Ma
  refine xi_aload_n (q := 216) dL_law_215 rfl rfl ?_
  refine xi_aload_n (q := 217) dL_law_216 rfl rfl ?_
  refine xi_iload_n (q := 218) dL_law_217 rfl rfl ?_
  refine xi_iconst (x := 1) (q := 219) dL_law_218 (by decide) rfl ?_
  refine xi_iadd (q := 220) dL_law_219 rfl ?_
  refine xi_roald (j := 6) (w := (L, xs)) (q := 221) dL_law_220 rfl (by rw [show (nI (7 * k) + 1 : Int32) = nI (7 * k + 1) from nI_add _ _]; exact xv_ixN (k := 7 * k + 1) (m := L) (by omega) (by omega)) rfl rfl ?_
  refine xi_aload_n (q := 222) dL_law_221 rfl rfl ?_
  refine xi_iload_n (q := 223) dL_law_222 rfl rfl ?_
  refine xi_iconst (x := 2) (q := 224) dL_law_223 (by decide) rfl ?_
  refine xi_iadd (q := 225) dL_law_224 rfl ?_
  refine xi_roald (j := 6) (w := (L, xs)) (q := 226) dL_law_225 rfl (by rw [show (nI (7 * k) + 2 : Int32) = nI (7 * k + 2) from nI_add _ _]; exact xv_ixN (k := 7 * k + 2) (m := L) (by omega) (by omega)) rfl rfl ?_
  refine xi_aload_n (q := 227) dL_law_226 rfl rfl ?_
  refine xi_iload_n (q := 228) dL_law_227 rfl rfl ?_
  refine xi_iconst (x := 3) (q := 229) dL_law_228 (by decide) rfl ?_
  refine xi_iadd (q := 230) dL_law_229 rfl ?_
  refine xi_roald (j := 6) (w := (L, xs)) (q := 231) dL_law_230 rfl (by rw [show (nI (7 * k) + 3 : Int32) = nI (7 * k + 3) from nI_add _ _]; exact xv_ixN (k := 7 * k + 3) (m := L) (by omega) (by omega)) rfl rfl ?_
  refine xv_cV3 (q := 234) xm_X9_sheet ln_L_17 dL_law_231 ⟨by omega, xs_M83 hM⟩ rfl ⟨(Nat.le_of_ble_eq_true rfl), (Nat.le_of_ble_eq_true rfl)⟩ (Nat.le_of_ble_eq_true rfl) ⟨rfl, rfl⟩ rfl (Nat.le_of_ble_eq_true rfl) (Nat.le_of_ble_eq_true rfl) ?_
  refine ⟨σ, _, _, _, rfl, Ma, by omega, hVV.1.1, fun hb Mb Fb => ?_⟩
  have Sb := xs_Sk Sa (fun i hi => Fb i (Or.inl hi))
  refine xi_icmp_eq (q := 237) (q2 := 1693) dL_law_234 (by decide) rfl (fun c_234 => ?_) (fun c_234 => ?_)
  · exact K hb _ Sb Mb (xq_sheet hVV _ _ _)
  · exact absurd rfl c_234
set_option maxRecDepth 20000 in
set_option maxHeartbeats 2000000 in
/-- set -/
theorem xl_c1 {L : Nat} {xs : Nat → Int32} {k : Nat} {h : xv_H} {σ : xs_Sg} (hL : L ≤ 3584) (hk : 7 * k + 7 ≤ L) (hS : xs_S h σ) (hMo : xs_Mo h σ) (hVV : xs_VV σ) (K : ∀ (hb : xv_H) (σ' : xs_Sg), xs_S hb σ' → xs_Mo hb σ' → xs_VV σ' → xv_V (L, xs) mL_law xl_P 104 25323 1693 [(0, .ref 1006), (1, .ref 0), (2, .ref 83), (3, .int (nI (7 * k)))] [] hb 104) : xv_V (L, xs) mL_law xl_P 104 25323 239 [(0, .ref 1006), (1, .ref 0), (2, .ref 83), (3, .int (nI (7 * k)))] [] h 104 := by
  refine xi_aload_n (q := 240) dL_law_239 rfl rfl ?_
  refine xi_aload_n (q := 241) dL_law_240 rfl rfl ?_
  refine xi_iload_n (q := 242) dL_law_241 rfl rfl ?_
  refine xi_iconst (x := 1) (q := 243) dL_law_242 (by decide) rfl ?_
  refine xi_iadd (q := 244) dL_law_243 rfl ?_
  refine xi_roald (j := 6) (w := (L, xs)) (q := 245) dL_law_244 rfl (by rw [show (nI (7 * k) + 1 : Int32) = nI (7 * k + 1) from nI_add _ _]; exact xv_ixN (k := 7 * k + 1) (m := L) (by omega) (by omega)) rfl rfl ?_
  refine xi_aload_n (q := 246) dL_law_245 rfl rfl ?_
  refine xi_iload_n (q := 247) dL_law_246 rfl rfl ?_
  refine xi_iconst (x := 2) (q := 248) dL_law_247 (by decide) rfl ?_
  refine xi_iadd (q := 249) dL_law_248 rfl ?_
  refine xi_roald (j := 6) (w := (L, xs)) (q := 250) dL_law_249 rfl (by rw [show (nI (7 * k) + 2 : Int32) = nI (7 * k + 2) from nI_add _ _]; exact xv_ixN (k := 7 * k + 2) (m := L) (by omega) (by omega)) rfl rfl ?_
  refine xi_aload_n (q := 251) dL_law_250 rfl rfl ?_
  refine xi_iload_n (q := 252) dL_law_251 rfl rfl ?_
  refine xi_iconst (x := 3) (q := 253) dL_law_252 (by decide) rfl ?_
  refine xi_iadd (q := 254) dL_law_253 rfl ?_
  refine xi_roald (j := 6) (w := (L, xs)) (q := 255) dL_law_254 rfl (by rw [show (nI (7 * k) + 3 : Int32) = nI (7 * k + 3) from nI_add _ _]; exact xv_ixN (k := 7 * k + 3) (m := L) (by omega) (by omega)) rfl rfl ?_
  refine xv_cV3 (q := 258) xm_X8_set ln_L_18 dL_law_255 ⟨by omega, hS.1.1⟩ rfl ⟨(Nat.le_of_ble_eq_true rfl), (Nat.le_of_ble_eq_true rfl)⟩ (Nat.le_of_ble_eq_true rfl) ⟨rfl, rfl⟩ rfl (Nat.le_of_ble_eq_true rfl) (Nat.le_of_ble_eq_true rfl) ?_
  refine ⟨σ, _, _, _, rfl, hS, by omega, hVV.1.1, fun ha Sa Fa => ?_⟩
  have Ma : xs_Mo ha σ := xs_Mok hMo Fa
  obtain ⟨C, dk, hM, hR⟩ := id Ma
  refine xi_aload_n (q := 259) dL_law_258 rfl rfl ?_
  refine xi_aload_n (q := 260) dL_law_259 rfl rfl ?_
  refine xi_iload_n (q := 261) dL_law_260 rfl rfl ?_
  refine xi_iconst (x := 1) (q := 262) dL_law_261 (by decide) rfl ?_
  refine xi_iadd (q := 263) dL_law_262 rfl ?_
  refine xi_roald (j := 6) (w := (L, xs)) (q := 264) dL_law_263 rfl (by rw [show (nI (7 * k) + 1 : Int32) = nI (7 * k + 1) from nI_add _ _]; exact xv_ixN (k := 7 * k + 1) (m := L) (by omega) (by omega)) rfl rfl ?_
  refine xi_aload_n (q := 265) dL_law_264 rfl rfl ?_
  refine xi_iload_n (q := 266) dL_law_265 rfl rfl ?_
  refine xi_iconst (x := 2) (q := 267) dL_law_266 (by decide) rfl ?_
  refine xi_iadd (q := 268) dL_law_267 rfl ?_
  refine xi_roald (j := 6) (w := (L, xs)) (q := 269) dL_law_268 rfl (by rw [show (nI (7 * k) + 2 : Int32) = nI (7 * k + 2) from nI_add _ _]; exact xv_ixN (k := 7 * k + 2) (m := L) (by omega) (by omega)) rfl rfl ?_
  refine xi_aload_n (q := 270) dL_law_269 rfl rfl ?_
  refine xi_iload_n (q := 271) dL_law_270 rfl rfl ?_
  refine xi_iconst (x := 3) (q := 272) dL_law_271 (by decide) rfl ?_
  refine xi_iadd (q := 273) dL_law_272 rfl ?_
  refine xi_roald (j := 6) (w := (L, xs)) (q := 274) dL_law_273 rfl (by rw [show (nI (7 * k) + 3 : Int32) = nI (7 * k + 3) from nI_add _ _]; exact xv_ixN (k := 7 * k + 3) (m := L) (by omega) (by omega)) rfl rfl ?_
  refine xv_cV3 (q := 277) xm_X9_set ln_L_21 dL_law_274 ⟨by omega, xs_M83 hM⟩ rfl ⟨(Nat.le_of_ble_eq_true rfl), (Nat.le_of_ble_eq_true rfl)⟩ (Nat.le_of_ble_eq_true rfl) ⟨rfl, rfl⟩ rfl (Nat.le_of_ble_eq_true rfl) (Nat.le_of_ble_eq_true rfl) ?_
  refine ⟨σ, _, _, _, rfl, Ma, by omega, hVV.1.1, fun hb Mb Fb => ?_⟩
  have Sb := xs_Sk Sa (fun i hi => Fb i (Or.inl hi))
  refine xi_icmp_eq (q := 280) (q2 := 1693) dL_law_277 (by decide) rfl (fun c_277 => ?_) (fun c_277 => ?_)
  · exact K hb _ Sb Mb (xq_set1 hVV _ _ _)
  · exact absurd rfl c_277
set_option maxRecDepth 20000 in
set_option maxHeartbeats 2000000 in
/-- copy -/
theorem xl_c2 {L : Nat} {xs : Nat → Int32} {k : Nat} {h : xv_H} {σ : xs_Sg} (hL : L ≤ 3584) (hk : 7 * k + 7 ≤ L) (hS : xs_S h σ) (hMo : xs_Mo h σ) (hVV : xs_VV σ) (K : ∀ (hb : xv_H) (σ' : xs_Sg), xs_S hb σ' → xs_Mo hb σ' → xs_VV σ' → xv_V (L, xs) mL_law xl_P 104 25323 1693 [(0, .ref 1006), (1, .ref 0), (2, .ref 83), (3, .int (nI (7 * k)))] [] hb 104) : xv_V (L, xs) mL_law xl_P 104 25323 282 [(0, .ref 1006), (1, .ref 0), (2, .ref 83), (3, .int (nI (7 * k)))] [] h 104 := by
  refine xi_aload_n (q := 283) dL_law_282 rfl rfl ?_
  refine xi_aload_n (q := 284) dL_law_283 rfl rfl ?_
  refine xi_iload_n (q := 285) dL_law_284 rfl rfl ?_
  refine xi_iconst (x := 1) (q := 286) dL_law_285 (by decide) rfl ?_
  refine xi_iadd (q := 287) dL_law_286 rfl ?_
  refine xi_roald (j := 6) (w := (L, xs)) (q := 288) dL_law_287 rfl (by rw [show (nI (7 * k) + 1 : Int32) = nI (7 * k + 1) from nI_add _ _]; exact xv_ixN (k := 7 * k + 1) (m := L) (by omega) (by omega)) rfl rfl ?_
  refine xi_aload_n (q := 289) dL_law_288 rfl rfl ?_
  refine xi_iload_n (q := 290) dL_law_289 rfl rfl ?_
  refine xi_iconst (x := 2) (q := 291) dL_law_290 (by decide) rfl ?_
  refine xi_iadd (q := 292) dL_law_291 rfl ?_
  refine xi_roald (j := 6) (w := (L, xs)) (q := 293) dL_law_292 rfl (by rw [show (nI (7 * k) + 2 : Int32) = nI (7 * k + 2) from nI_add _ _]; exact xv_ixN (k := 7 * k + 2) (m := L) (by omega) (by omega)) rfl rfl ?_
  refine xi_aload_n (q := 294) dL_law_293 rfl rfl ?_
  refine xi_iload_n (q := 295) dL_law_294 rfl rfl ?_
  refine xi_iconst (x := 3) (q := 296) dL_law_295 (by decide) rfl ?_
  refine xi_iadd (q := 297) dL_law_296 rfl ?_
  refine xi_roald (j := 6) (w := (L, xs)) (q := 298) dL_law_297 rfl (by rw [show (nI (7 * k) + 3 : Int32) = nI (7 * k + 3) from nI_add _ _]; exact xv_ixN (k := 7 * k + 3) (m := L) (by omega) (by omega)) rfl rfl ?_
  refine xi_aload_n (q := 299) dL_law_298 rfl rfl ?_
  refine xi_iload_n (q := 300) dL_law_299 rfl rfl ?_
  refine xi_iconst (x := 4) (q := 301) dL_law_300 (by decide) rfl ?_
  refine xi_iadd (q := 302) dL_law_301 rfl ?_
  refine xi_roald (j := 6) (w := (L, xs)) (q := 303) dL_law_302 rfl (by rw [show (nI (7 * k) + 4 : Int32) = nI (7 * k + 4) from nI_add _ _]; exact xv_ixN (k := 7 * k + 4) (m := L) (by omega) (by omega)) rfl rfl ?_
  refine xi_aload_n (q := 304) dL_law_303 rfl rfl ?_
  refine xi_iload_n (q := 305) dL_law_304 rfl rfl ?_
  refine xi_iconst (x := 5) (q := 306) dL_law_305 (by decide) rfl ?_
  refine xi_iadd (q := 307) dL_law_306 rfl ?_
  refine xi_roald (j := 6) (w := (L, xs)) (q := 308) dL_law_307 rfl (by rw [show (nI (7 * k) + 5 : Int32) = nI (7 * k + 5) from nI_add _ _]; exact xv_ixN (k := 7 * k + 5) (m := L) (by omega) (by omega)) rfl rfl ?_
  refine xv_cV5 (q := 311) xm_X8_copy ln_L_22 dL_law_308 ⟨by omega, hS.1.1⟩ rfl ⟨(Nat.le_of_ble_eq_true rfl), (Nat.le_of_ble_eq_true rfl)⟩ (Nat.le_of_ble_eq_true rfl) ⟨rfl, rfl⟩ rfl (Nat.le_of_ble_eq_true rfl) (Nat.le_of_ble_eq_true rfl) ?_
  refine ⟨σ, _, _, _, _, _, rfl, hS, by omega, hVV.1.1, fun ha Sa Fa => ?_⟩
  have Ma : xs_Mo ha σ := xs_Mok hMo Fa
  obtain ⟨C, dk, hM, hR⟩ := id Ma
  refine xi_aload_n (q := 312) dL_law_311 rfl rfl ?_
  refine xi_aload_n (q := 313) dL_law_312 rfl rfl ?_
  refine xi_iload_n (q := 314) dL_law_313 rfl rfl ?_
  refine xi_iconst (x := 1) (q := 315) dL_law_314 (by decide) rfl ?_
  refine xi_iadd (q := 316) dL_law_315 rfl ?_
  refine xi_roald (j := 6) (w := (L, xs)) (q := 317) dL_law_316 rfl (by rw [show (nI (7 * k) + 1 : Int32) = nI (7 * k + 1) from nI_add _ _]; exact xv_ixN (k := 7 * k + 1) (m := L) (by omega) (by omega)) rfl rfl ?_
  refine xi_aload_n (q := 318) dL_law_317 rfl rfl ?_
  refine xi_iload_n (q := 319) dL_law_318 rfl rfl ?_
  refine xi_iconst (x := 2) (q := 320) dL_law_319 (by decide) rfl ?_
  refine xi_iadd (q := 321) dL_law_320 rfl ?_
  refine xi_roald (j := 6) (w := (L, xs)) (q := 322) dL_law_321 rfl (by rw [show (nI (7 * k) + 2 : Int32) = nI (7 * k + 2) from nI_add _ _]; exact xv_ixN (k := 7 * k + 2) (m := L) (by omega) (by omega)) rfl rfl ?_
  refine xi_aload_n (q := 323) dL_law_322 rfl rfl ?_
  refine xi_iload_n (q := 324) dL_law_323 rfl rfl ?_
  refine xi_iconst (x := 3) (q := 325) dL_law_324 (by decide) rfl ?_
  refine xi_iadd (q := 326) dL_law_325 rfl ?_
  refine xi_roald (j := 6) (w := (L, xs)) (q := 327) dL_law_326 rfl (by rw [show (nI (7 * k) + 3 : Int32) = nI (7 * k + 3) from nI_add _ _]; exact xv_ixN (k := 7 * k + 3) (m := L) (by omega) (by omega)) rfl rfl ?_
  refine xi_aload_n (q := 328) dL_law_327 rfl rfl ?_
  refine xi_iload_n (q := 329) dL_law_328 rfl rfl ?_
  refine xi_iconst (x := 4) (q := 330) dL_law_329 (by decide) rfl ?_
  refine xi_iadd (q := 331) dL_law_330 rfl ?_
  refine xi_roald (j := 6) (w := (L, xs)) (q := 332) dL_law_331 rfl (by rw [show (nI (7 * k) + 4 : Int32) = nI (7 * k + 4) from nI_add _ _]; exact xv_ixN (k := 7 * k + 4) (m := L) (by omega) (by omega)) rfl rfl ?_
  refine xi_aload_n (q := 333) dL_law_332 rfl rfl ?_
  refine xi_iload_n (q := 334) dL_law_333 rfl rfl ?_
  refine xi_iconst (x := 5) (q := 335) dL_law_334 (by decide) rfl ?_
  refine xi_iadd (q := 336) dL_law_335 rfl ?_
  refine xi_roald (j := 6) (w := (L, xs)) (q := 337) dL_law_336 rfl (by rw [show (nI (7 * k) + 5 : Int32) = nI (7 * k + 5) from nI_add _ _]; exact xv_ixN (k := 7 * k + 5) (m := L) (by omega) (by omega)) rfl rfl ?_
  refine xv_cV5 (q := 340) xm_X9_copy ln_L_26 dL_law_337 ⟨by omega, xs_M83 hM⟩ rfl ⟨(Nat.le_of_ble_eq_true rfl), (Nat.le_of_ble_eq_true rfl)⟩ (Nat.le_of_ble_eq_true rfl) ⟨rfl, rfl⟩ rfl (Nat.le_of_ble_eq_true rfl) (Nat.le_of_ble_eq_true rfl) ?_
  refine ⟨σ, _, _, _, _, _, rfl, Ma, by omega, hVV.1.1, fun hb Mb Fb => ?_⟩
  have Sb := xs_Sk Sa (fun i hi => Fb i (Or.inl hi))
  refine xi_icmp_eq (q := 343) (q2 := 1693) dL_law_340 (by decide) rfl (fun c_340 => ?_) (fun c_340 => ?_)
  · exact K hb _ Sb Mb (xq_copy hVV _ _ _ _ _)
  · exact absurd rfl c_340
set_option maxRecDepth 20000 in
set_option maxHeartbeats 2000000 in
/-- drop -/
theorem xl_c3 {L : Nat} {xs : Nat → Int32} {k : Nat} {h : xv_H} {σ : xs_Sg} (hL : L ≤ 3584) (hk : 7 * k + 7 ≤ L) (hS : xs_S h σ) (hMo : xs_Mo h σ) (hVV : xs_VV σ) (K : ∀ (hb : xv_H) (σ' : xs_Sg), xs_S hb σ' → xs_Mo hb σ' → xs_VV σ' → xv_V (L, xs) mL_law xl_P 104 25323 1693 [(0, .ref 1006), (1, .ref 0), (2, .ref 83), (3, .int (nI (7 * k)))] [] hb 104) : xv_V (L, xs) mL_law xl_P 104 25323 345 [(0, .ref 1006), (1, .ref 0), (2, .ref 83), (3, .int (nI (7 * k)))] [] h 104 := by
  refine xi_aload_n (q := 346) dL_law_345 rfl rfl ?_
  refine xi_aload_n (q := 347) dL_law_346 rfl rfl ?_
  refine xi_iload_n (q := 348) dL_law_347 rfl rfl ?_
  refine xi_iconst (x := 1) (q := 349) dL_law_348 (by decide) rfl ?_
  refine xi_iadd (q := 350) dL_law_349 rfl ?_
  refine xi_roald (j := 6) (w := (L, xs)) (q := 351) dL_law_350 rfl (by rw [show (nI (7 * k) + 1 : Int32) = nI (7 * k + 1) from nI_add _ _]; exact xv_ixN (k := 7 * k + 1) (m := L) (by omega) (by omega)) rfl rfl ?_
  refine xv_cV1 (q := 354) xm_X8_drop ln_L_27 dL_law_351 ⟨by omega, hS.1.1⟩ rfl ⟨(Nat.le_of_ble_eq_true rfl), (Nat.le_of_ble_eq_true rfl)⟩ (Nat.le_of_ble_eq_true rfl) ⟨rfl, rfl⟩ rfl (Nat.le_of_ble_eq_true rfl) (Nat.le_of_ble_eq_true rfl) ?_
  refine ⟨σ, _, rfl, hS, by omega, hVV.1.1, fun ha Sa Fa => ?_⟩
  have Ma : xs_Mo ha σ := xs_Mok hMo Fa
  obtain ⟨C, dk, hM, hR⟩ := id Ma
  refine xi_aload_n (q := 355) dL_law_354 rfl rfl ?_
  refine xi_aload_n (q := 356) dL_law_355 rfl rfl ?_
  refine xi_iload_n (q := 357) dL_law_356 rfl rfl ?_
  refine xi_iconst (x := 1) (q := 358) dL_law_357 (by decide) rfl ?_
  refine xi_iadd (q := 359) dL_law_358 rfl ?_
  refine xi_roald (j := 6) (w := (L, xs)) (q := 360) dL_law_359 rfl (by rw [show (nI (7 * k) + 1 : Int32) = nI (7 * k + 1) from nI_add _ _]; exact xv_ixN (k := 7 * k + 1) (m := L) (by omega) (by omega)) rfl rfl ?_
  refine xv_cV1 (q := 363) xm_X9_drop ln_L_31 dL_law_360 ⟨by omega, xs_M83 hM⟩ rfl ⟨(Nat.le_of_ble_eq_true rfl), (Nat.le_of_ble_eq_true rfl)⟩ (Nat.le_of_ble_eq_true rfl) ⟨rfl, rfl⟩ rfl (Nat.le_of_ble_eq_true rfl) (Nat.le_of_ble_eq_true rfl) ?_
  refine ⟨σ, _, rfl, Ma, by omega, hVV.1.1, fun hb Mb Fb => ?_⟩
  have Sb := xs_Sk Sa (fun i hi => Fb i (Or.inl hi))
  refine xi_icmp_eq (q := 366) (q2 := 1693) dL_law_363 (by decide) rfl (fun c_363 => ?_) (fun c_363 => ?_)
  · exact K hb _ Sb Mb (xq_drop hVV _)
  · exact absurd rfl c_363
set_option maxRecDepth 20000 in
set_option maxHeartbeats 2000000 in
/-- engine -/
theorem xl_c4 {L : Nat} {xs : Nat → Int32} {k : Nat} {h : xv_H} {σ : xs_Sg} (hL : L ≤ 3584) (hk : 7 * k + 7 ≤ L) (hS : xs_S h σ) (hMo : xs_Mo h σ) (hVV : xs_VV σ) (K : ∀ (hb : xv_H) (σ' : xs_Sg), xs_S hb σ' → xs_Mo hb σ' → xs_VV σ' → xv_V (L, xs) mL_law xl_P 104 25323 1693 [(0, .ref 1006), (1, .ref 0), (2, .ref 83), (3, .int (nI (7 * k)))] [] hb 104) : xv_V (L, xs) mL_law xl_P 104 25323 368 [(0, .ref 1006), (1, .ref 0), (2, .ref 83), (3, .int (nI (7 * k)))] [] h 104 := by
  refine xi_aload_n (q := 369) dL_law_368 rfl rfl ?_
  refine xi_aload_n (q := 370) dL_law_369 rfl rfl ?_
  refine xi_iload_n (q := 371) dL_law_370 rfl rfl ?_
  refine xi_iconst (x := 1) (q := 372) dL_law_371 (by decide) rfl ?_
  refine xi_iadd (q := 373) dL_law_372 rfl ?_
  refine xi_roald (j := 6) (w := (L, xs)) (q := 374) dL_law_373 rfl (by rw [show (nI (7 * k) + 1 : Int32) = nI (7 * k + 1) from nI_add _ _]; exact xv_ixN (k := 7 * k + 1) (m := L) (by omega) (by omega)) rfl rfl ?_
  refine xi_aload_n (q := 375) dL_law_374 rfl rfl ?_
  refine xi_iload_n (q := 376) dL_law_375 rfl rfl ?_
  refine xi_iconst (x := 2) (q := 377) dL_law_376 (by decide) rfl ?_
  refine xi_iadd (q := 378) dL_law_377 rfl ?_
  refine xi_roald (j := 6) (w := (L, xs)) (q := 379) dL_law_378 rfl (by rw [show (nI (7 * k) + 2 : Int32) = nI (7 * k + 2) from nI_add _ _]; exact xv_ixN (k := 7 * k + 2) (m := L) (by omega) (by omega)) rfl rfl ?_
  refine xi_aload_n (q := 380) dL_law_379 rfl rfl ?_
  refine xi_iload_n (q := 381) dL_law_380 rfl rfl ?_
  refine xi_iconst (x := 3) (q := 382) dL_law_381 (by decide) rfl ?_
  refine xi_iadd (q := 383) dL_law_382 rfl ?_
  refine xi_roald (j := 6) (w := (L, xs)) (q := 384) dL_law_383 rfl (by rw [show (nI (7 * k) + 3 : Int32) = nI (7 * k + 3) from nI_add _ _]; exact xv_ixN (k := 7 * k + 3) (m := L) (by omega) (by omega)) rfl rfl ?_
  refine xv_cV3 (q := 387) xm_X8_engine ln_L_32 dL_law_384 ⟨by omega, hS.1.1⟩ rfl ⟨(Nat.le_of_ble_eq_true rfl), (Nat.le_of_ble_eq_true rfl)⟩ (Nat.le_of_ble_eq_true rfl) ⟨rfl, rfl⟩ rfl (Nat.le_of_ble_eq_true rfl) (Nat.le_of_ble_eq_true rfl) ?_
  refine ⟨σ, _, _, _, rfl, hS, by omega, hVV.1.1, fun ha Sa Fa => ?_⟩
  have Ma : xs_Mo ha σ := xs_Mok hMo Fa
  obtain ⟨C, dk, hM, hR⟩ := id Ma
  refine xi_aload_n (q := 388) dL_law_387 rfl rfl ?_
  refine xi_aload_n (q := 389) dL_law_388 rfl rfl ?_
  refine xi_iload_n (q := 390) dL_law_389 rfl rfl ?_
  refine xi_iconst (x := 1) (q := 391) dL_law_390 (by decide) rfl ?_
  refine xi_iadd (q := 392) dL_law_391 rfl ?_
  refine xi_roald (j := 6) (w := (L, xs)) (q := 393) dL_law_392 rfl (by rw [show (nI (7 * k) + 1 : Int32) = nI (7 * k + 1) from nI_add _ _]; exact xv_ixN (k := 7 * k + 1) (m := L) (by omega) (by omega)) rfl rfl ?_
  refine xi_aload_n (q := 394) dL_law_393 rfl rfl ?_
  refine xi_iload_n (q := 395) dL_law_394 rfl rfl ?_
  refine xi_iconst (x := 2) (q := 396) dL_law_395 (by decide) rfl ?_
  refine xi_iadd (q := 397) dL_law_396 rfl ?_
  refine xi_roald (j := 6) (w := (L, xs)) (q := 398) dL_law_397 rfl (by rw [show (nI (7 * k) + 2 : Int32) = nI (7 * k + 2) from nI_add _ _]; exact xv_ixN (k := 7 * k + 2) (m := L) (by omega) (by omega)) rfl rfl ?_
  refine xi_aload_n (q := 399) dL_law_398 rfl rfl ?_
  refine xi_iload_n (q := 400) dL_law_399 rfl rfl ?_
  refine xi_iconst (x := 3) (q := 401) dL_law_400 (by decide) rfl ?_
  refine xi_iadd (q := 402) dL_law_401 rfl ?_
  refine xi_roald (j := 6) (w := (L, xs)) (q := 403) dL_law_402 rfl (by rw [show (nI (7 * k) + 3 : Int32) = nI (7 * k + 3) from nI_add _ _]; exact xv_ixN (k := 7 * k + 3) (m := L) (by omega) (by omega)) rfl rfl ?_
  refine xv_cV3 (q := 406) xm_X9_engine ln_L_35 dL_law_403 ⟨by omega, xs_M83 hM⟩ rfl ⟨(Nat.le_of_ble_eq_true rfl), (Nat.le_of_ble_eq_true rfl)⟩ (Nat.le_of_ble_eq_true rfl) ⟨rfl, rfl⟩ rfl (Nat.le_of_ble_eq_true rfl) (Nat.le_of_ble_eq_true rfl) ?_
  refine ⟨σ, _, _, _, rfl, Ma, by omega, hVV.1.1, fun hb Mb Fb => ?_⟩
  have Sb := xs_Sk Sa (fun i hi => Fb i (Or.inl hi))
  refine xi_icmp_eq (q := 409) (q2 := 1693) dL_law_406 (by decide) rfl (fun c_406 => ?_) (fun c_406 => ?_)
  · exact K hb _ Sb Mb (xq_engine hVV _ _ _)
  · exact absurd rfl c_406
set_option maxRecDepth 20000 in
set_option maxHeartbeats 2000000 in
/-- adjust -/
theorem xl_c5 {L : Nat} {xs : Nat → Int32} {k : Nat} {h : xv_H} {σ : xs_Sg} (hL : L ≤ 3584) (hk : 7 * k + 7 ≤ L) (hS : xs_S h σ) (hMo : xs_Mo h σ) (hVV : xs_VV σ) (K : ∀ (hb : xv_H) (σ' : xs_Sg), xs_S hb σ' → xs_Mo hb σ' → xs_VV σ' → xv_V (L, xs) mL_law xl_P 104 25323 1693 [(0, .ref 1006), (1, .ref 0), (2, .ref 83), (3, .int (nI (7 * k)))] [] hb 104) : xv_V (L, xs) mL_law xl_P 104 25323 411 [(0, .ref 1006), (1, .ref 0), (2, .ref 83), (3, .int (nI (7 * k)))] [] h 104 := by
  refine xi_aload_n (q := 412) dL_law_411 rfl rfl ?_
  refine xi_aload_n (q := 413) dL_law_412 rfl rfl ?_
  refine xi_iload_n (q := 414) dL_law_413 rfl rfl ?_
  refine xi_iconst (x := 1) (q := 415) dL_law_414 (by decide) rfl ?_
  refine xi_iadd (q := 416) dL_law_415 rfl ?_
  refine xi_roald (j := 6) (w := (L, xs)) (q := 417) dL_law_416 rfl (by rw [show (nI (7 * k) + 1 : Int32) = nI (7 * k + 1) from nI_add _ _]; exact xv_ixN (k := 7 * k + 1) (m := L) (by omega) (by omega)) rfl rfl ?_
  refine xi_aload_n (q := 418) dL_law_417 rfl rfl ?_
  refine xi_iload_n (q := 419) dL_law_418 rfl rfl ?_
  refine xi_iconst (x := 2) (q := 420) dL_law_419 (by decide) rfl ?_
  refine xi_iadd (q := 421) dL_law_420 rfl ?_
  refine xi_roald (j := 6) (w := (L, xs)) (q := 422) dL_law_421 rfl (by rw [show (nI (7 * k) + 2 : Int32) = nI (7 * k + 2) from nI_add _ _]; exact xv_ixN (k := 7 * k + 2) (m := L) (by omega) (by omega)) rfl rfl ?_
  refine xi_aload_n (q := 423) dL_law_422 rfl rfl ?_
  refine xi_iload_n (q := 424) dL_law_423 rfl rfl ?_
  refine xi_iconst (x := 3) (q := 425) dL_law_424 (by decide) rfl ?_
  refine xi_iadd (q := 426) dL_law_425 rfl ?_
  refine xi_roald (j := 6) (w := (L, xs)) (q := 427) dL_law_426 rfl (by rw [show (nI (7 * k) + 3 : Int32) = nI (7 * k + 3) from nI_add _ _]; exact xv_ixN (k := 7 * k + 3) (m := L) (by omega) (by omega)) rfl rfl ?_
  refine xv_cV3 (q := 430) xm_X8_adjust ln_L_36 dL_law_427 ⟨by omega, hS.1.1⟩ rfl ⟨(Nat.le_of_ble_eq_true rfl), (Nat.le_of_ble_eq_true rfl)⟩ (Nat.le_of_ble_eq_true rfl) ⟨rfl, rfl⟩ rfl (Nat.le_of_ble_eq_true rfl) (Nat.le_of_ble_eq_true rfl) ?_
  refine ⟨σ, _, _, _, rfl, hS, by omega, hVV.1.1, fun ha Sa Fa => ?_⟩
  have Ma : xs_Mo ha σ := xs_Mok hMo Fa
  obtain ⟨C, dk, hM, hR⟩ := id Ma
  refine xi_aload_n (q := 431) dL_law_430 rfl rfl ?_
  refine xi_aload_n (q := 432) dL_law_431 rfl rfl ?_
  refine xi_iload_n (q := 433) dL_law_432 rfl rfl ?_
  refine xi_iconst (x := 1) (q := 434) dL_law_433 (by decide) rfl ?_
  refine xi_iadd (q := 435) dL_law_434 rfl ?_
  refine xi_roald (j := 6) (w := (L, xs)) (q := 436) dL_law_435 rfl (by rw [show (nI (7 * k) + 1 : Int32) = nI (7 * k + 1) from nI_add _ _]; exact xv_ixN (k := 7 * k + 1) (m := L) (by omega) (by omega)) rfl rfl ?_
  refine xi_aload_n (q := 437) dL_law_436 rfl rfl ?_
  refine xi_iload_n (q := 438) dL_law_437 rfl rfl ?_
  refine xi_iconst (x := 2) (q := 439) dL_law_438 (by decide) rfl ?_
  refine xi_iadd (q := 440) dL_law_439 rfl ?_
  refine xi_roald (j := 6) (w := (L, xs)) (q := 441) dL_law_440 rfl (by rw [show (nI (7 * k) + 2 : Int32) = nI (7 * k + 2) from nI_add _ _]; exact xv_ixN (k := 7 * k + 2) (m := L) (by omega) (by omega)) rfl rfl ?_
  refine xi_aload_n (q := 442) dL_law_441 rfl rfl ?_
  refine xi_iload_n (q := 443) dL_law_442 rfl rfl ?_
  refine xi_iconst (x := 3) (q := 444) dL_law_443 (by decide) rfl ?_
  refine xi_iadd (q := 445) dL_law_444 rfl ?_
  refine xi_roald (j := 6) (w := (L, xs)) (q := 446) dL_law_445 rfl (by rw [show (nI (7 * k) + 3 : Int32) = nI (7 * k + 3) from nI_add _ _]; exact xv_ixN (k := 7 * k + 3) (m := L) (by omega) (by omega)) rfl rfl ?_
  refine xv_cV3 (q := 449) xm_X9_adjust ln_L_39 dL_law_446 ⟨by omega, xs_M83 hM⟩ rfl ⟨(Nat.le_of_ble_eq_true rfl), (Nat.le_of_ble_eq_true rfl)⟩ (Nat.le_of_ble_eq_true rfl) ⟨rfl, rfl⟩ rfl (Nat.le_of_ble_eq_true rfl) (Nat.le_of_ble_eq_true rfl) ?_
  refine ⟨σ, _, _, _, rfl, Ma, by omega, hVV.1.1, fun hb Mb Fb => ?_⟩
  have Sb := xs_Sk Sa (fun i hi => Fb i (Or.inl hi))
  refine xi_icmp_eq (q := 452) (q2 := 1693) dL_law_449 (by decide) rfl (fun c_449 => ?_) (fun c_449 => ?_)
  · exact K hb _ Sb Mb (xq_adjust hVV _ _ _)
  · exact absurd rfl c_449
set_option maxRecDepth 20000 in
set_option maxHeartbeats 2000000 in
/-- sicken -/
theorem xl_c6 {L : Nat} {xs : Nat → Int32} {k : Nat} {h : xv_H} {σ : xs_Sg} (hL : L ≤ 3584) (hk : 7 * k + 7 ≤ L) (hS : xs_S h σ) (hMo : xs_Mo h σ) (hVV : xs_VV σ) (K : ∀ (hb : xv_H) (σ' : xs_Sg), xs_S hb σ' → xs_Mo hb σ' → xs_VV σ' → xv_V (L, xs) mL_law xl_P 104 25323 1693 [(0, .ref 1006), (1, .ref 0), (2, .ref 83), (3, .int (nI (7 * k)))] [] hb 104) : xv_V (L, xs) mL_law xl_P 104 25323 454 [(0, .ref 1006), (1, .ref 0), (2, .ref 83), (3, .int (nI (7 * k)))] [] h 104 := by
  refine xi_aload_n (q := 455) dL_law_454 rfl rfl ?_
  refine xi_aload_n (q := 456) dL_law_455 rfl rfl ?_
  refine xi_iload_n (q := 457) dL_law_456 rfl rfl ?_
  refine xi_iconst (x := 1) (q := 458) dL_law_457 (by decide) rfl ?_
  refine xi_iadd (q := 459) dL_law_458 rfl ?_
  refine xi_roald (j := 6) (w := (L, xs)) (q := 460) dL_law_459 rfl (by rw [show (nI (7 * k) + 1 : Int32) = nI (7 * k + 1) from nI_add _ _]; exact xv_ixN (k := 7 * k + 1) (m := L) (by omega) (by omega)) rfl rfl ?_
  refine xi_aload_n (q := 461) dL_law_460 rfl rfl ?_
  refine xi_iload_n (q := 462) dL_law_461 rfl rfl ?_
  refine xi_iconst (x := 2) (q := 463) dL_law_462 (by decide) rfl ?_
  refine xi_iadd (q := 464) dL_law_463 rfl ?_
  refine xi_roald (j := 6) (w := (L, xs)) (q := 465) dL_law_464 rfl (by rw [show (nI (7 * k) + 2 : Int32) = nI (7 * k + 2) from nI_add _ _]; exact xv_ixN (k := 7 * k + 2) (m := L) (by omega) (by omega)) rfl rfl ?_
  refine xv_cV2 (q := 468) xm_X8_sicken ln_L_40 dL_law_465 ⟨by omega, hS.1.1⟩ rfl ⟨(Nat.le_of_ble_eq_true rfl), (Nat.le_of_ble_eq_true rfl)⟩ (Nat.le_of_ble_eq_true rfl) ⟨rfl, rfl⟩ rfl (Nat.le_of_ble_eq_true rfl) (Nat.le_of_ble_eq_true rfl) ?_
  refine ⟨σ, _, _, rfl, hS, by omega, hVV.1.1, fun ha Sa Fa => ?_⟩
  have Ma : xs_Mo ha σ := xs_Mok hMo Fa
  obtain ⟨C, dk, hM, hR⟩ := id Ma
  refine xi_aload_n (q := 469) dL_law_468 rfl rfl ?_
  refine xi_aload_n (q := 470) dL_law_469 rfl rfl ?_
  refine xi_iload_n (q := 471) dL_law_470 rfl rfl ?_
  refine xi_iconst (x := 1) (q := 472) dL_law_471 (by decide) rfl ?_
  refine xi_iadd (q := 473) dL_law_472 rfl ?_
  refine xi_roald (j := 6) (w := (L, xs)) (q := 474) dL_law_473 rfl (by rw [show (nI (7 * k) + 1 : Int32) = nI (7 * k + 1) from nI_add _ _]; exact xv_ixN (k := 7 * k + 1) (m := L) (by omega) (by omega)) rfl rfl ?_
  refine xi_aload_n (q := 475) dL_law_474 rfl rfl ?_
  refine xi_iload_n (q := 476) dL_law_475 rfl rfl ?_
  refine xi_iconst (x := 2) (q := 477) dL_law_476 (by decide) rfl ?_
  refine xi_iadd (q := 478) dL_law_477 rfl ?_
  refine xi_roald (j := 6) (w := (L, xs)) (q := 479) dL_law_478 rfl (by rw [show (nI (7 * k) + 2 : Int32) = nI (7 * k + 2) from nI_add _ _]; exact xv_ixN (k := 7 * k + 2) (m := L) (by omega) (by omega)) rfl rfl ?_
  refine xv_cV2 (q := 482) xm_X9_sicken ln_L_44 dL_law_479 ⟨by omega, xs_M83 hM⟩ rfl ⟨(Nat.le_of_ble_eq_true rfl), (Nat.le_of_ble_eq_true rfl)⟩ (Nat.le_of_ble_eq_true rfl) ⟨rfl, rfl⟩ rfl (Nat.le_of_ble_eq_true rfl) (Nat.le_of_ble_eq_true rfl) ?_
  refine ⟨σ, _, _, rfl, Ma, by omega, hVV.1.1, fun hb Mb Fb => ?_⟩
  have Sb := xs_Sk Sa (fun i hi => Fb i (Or.inl hi))
  refine xi_icmp_eq (q := 485) (q2 := 1693) dL_law_482 (by decide) rfl (fun c_482 => ?_) (fun c_482 => ?_)
  · exact K hb _ Sb Mb (xq_sicken hVV _ _)
  · exact absurd rfl c_482
set_option maxRecDepth 20000 in
set_option maxHeartbeats 2000000 in
/-- twin -/
theorem xl_c7 {L : Nat} {xs : Nat → Int32} {k : Nat} {h : xv_H} {σ : xs_Sg} (hL : L ≤ 3584) (hk : 7 * k + 7 ≤ L) (hS : xs_S h σ) (hMo : xs_Mo h σ) (hVV : xs_VV σ) (K : ∀ (hb : xv_H) (σ' : xs_Sg), xs_S hb σ' → xs_Mo hb σ' → xs_VV σ' → xv_V (L, xs) mL_law xl_P 104 25323 1693 [(0, .ref 1006), (1, .ref 0), (2, .ref 83), (3, .int (nI (7 * k)))] [] hb 104) : xv_V (L, xs) mL_law xl_P 104 25323 487 [(0, .ref 1006), (1, .ref 0), (2, .ref 83), (3, .int (nI (7 * k)))] [] h 104 := by
  refine xi_aload_n (q := 488) dL_law_487 rfl rfl ?_
  refine xi_aload_n (q := 489) dL_law_488 rfl rfl ?_
  refine xi_iload_n (q := 490) dL_law_489 rfl rfl ?_
  refine xi_iconst (x := 1) (q := 491) dL_law_490 (by decide) rfl ?_
  refine xi_iadd (q := 492) dL_law_491 rfl ?_
  refine xi_roald (j := 6) (w := (L, xs)) (q := 493) dL_law_492 rfl (by rw [show (nI (7 * k) + 1 : Int32) = nI (7 * k + 1) from nI_add _ _]; exact xv_ixN (k := 7 * k + 1) (m := L) (by omega) (by omega)) rfl rfl ?_
  refine xi_aload_n (q := 494) dL_law_493 rfl rfl ?_
  refine xi_iload_n (q := 495) dL_law_494 rfl rfl ?_
  refine xi_iconst (x := 2) (q := 496) dL_law_495 (by decide) rfl ?_
  refine xi_iadd (q := 497) dL_law_496 rfl ?_
  refine xi_roald (j := 6) (w := (L, xs)) (q := 498) dL_law_497 rfl (by rw [show (nI (7 * k) + 2 : Int32) = nI (7 * k + 2) from nI_add _ _]; exact xv_ixN (k := 7 * k + 2) (m := L) (by omega) (by omega)) rfl rfl ?_
  refine xv_cV2 (q := 501) xm_X8_twin ln_L_45 dL_law_498 ⟨by omega, hS.1.1⟩ rfl ⟨(Nat.le_of_ble_eq_true rfl), (Nat.le_of_ble_eq_true rfl)⟩ (Nat.le_of_ble_eq_true rfl) ⟨rfl, rfl⟩ rfl (Nat.le_of_ble_eq_true rfl) (Nat.le_of_ble_eq_true rfl) ?_
  refine ⟨σ, _, _, rfl, hS, by omega, hVV.1.1, fun ha Sa Fa => ?_⟩
  have Ma : xs_Mo ha σ := xs_Mok hMo Fa
  obtain ⟨C, dk, hM, hR⟩ := id Ma
  refine xi_aload_n (q := 502) dL_law_501 rfl rfl ?_
  refine xi_aload_n (q := 503) dL_law_502 rfl rfl ?_
  refine xi_iload_n (q := 504) dL_law_503 rfl rfl ?_
  refine xi_iconst (x := 1) (q := 505) dL_law_504 (by decide) rfl ?_
  refine xi_iadd (q := 506) dL_law_505 rfl ?_
  refine xi_roald (j := 6) (w := (L, xs)) (q := 507) dL_law_506 rfl (by rw [show (nI (7 * k) + 1 : Int32) = nI (7 * k + 1) from nI_add _ _]; exact xv_ixN (k := 7 * k + 1) (m := L) (by omega) (by omega)) rfl rfl ?_
  refine xi_aload_n (q := 508) dL_law_507 rfl rfl ?_
  refine xi_iload_n (q := 509) dL_law_508 rfl rfl ?_
  refine xi_iconst (x := 2) (q := 510) dL_law_509 (by decide) rfl ?_
  refine xi_iadd (q := 511) dL_law_510 rfl ?_
  refine xi_roald (j := 6) (w := (L, xs)) (q := 512) dL_law_511 rfl (by rw [show (nI (7 * k) + 2 : Int32) = nI (7 * k + 2) from nI_add _ _]; exact xv_ixN (k := 7 * k + 2) (m := L) (by omega) (by omega)) rfl rfl ?_
  refine xv_cV2 (q := 515) xm_X9_twin ln_L_48 dL_law_512 ⟨by omega, xs_M83 hM⟩ rfl ⟨(Nat.le_of_ble_eq_true rfl), (Nat.le_of_ble_eq_true rfl)⟩ (Nat.le_of_ble_eq_true rfl) ⟨rfl, rfl⟩ rfl (Nat.le_of_ble_eq_true rfl) (Nat.le_of_ble_eq_true rfl) ?_
  refine ⟨σ, _, _, rfl, Ma, by omega, hVV.1.1, fun hb Mb Fb => ?_⟩
  have Sb := xs_Sk Sa (fun i hi => Fb i (Or.inl hi))
  refine xi_icmp_eq (q := 518) (q2 := 1693) dL_law_515 (by decide) rfl (fun c_515 => ?_) (fun c_515 => ?_)
  · exact K hb _ Sb Mb (xq_twin hVV _ _)
  · exact absurd rfl c_515
set_option maxRecDepth 20000 in
set_option maxHeartbeats 2000000 in
/-- clear -/
theorem xl_c8 {L : Nat} {xs : Nat → Int32} {k : Nat} {h : xv_H} {σ : xs_Sg} (hL : L ≤ 3584) (hk : 7 * k + 7 ≤ L) (hS : xs_S h σ) (hMo : xs_Mo h σ) (hVV : xs_VV σ) (K : ∀ (hb : xv_H) (σ' : xs_Sg), xs_S hb σ' → xs_Mo hb σ' → xs_VV σ' → xv_V (L, xs) mL_law xl_P 104 25323 1693 [(0, .ref 1006), (1, .ref 0), (2, .ref 83), (3, .int (nI (7 * k)))] [] hb 104) : xv_V (L, xs) mL_law xl_P 104 25323 520 [(0, .ref 1006), (1, .ref 0), (2, .ref 83), (3, .int (nI (7 * k)))] [] h 104 := by
  refine xi_aload_n (q := 521) dL_law_520 rfl rfl ?_
  refine xi_aload_n (q := 522) dL_law_521 rfl rfl ?_
  refine xi_iload_n (q := 523) dL_law_522 rfl rfl ?_
  refine xi_iconst (x := 1) (q := 524) dL_law_523 (by decide) rfl ?_
  refine xi_iadd (q := 525) dL_law_524 rfl ?_
  refine xi_roald (j := 6) (w := (L, xs)) (q := 526) dL_law_525 rfl (by rw [show (nI (7 * k) + 1 : Int32) = nI (7 * k + 1) from nI_add _ _]; exact xv_ixN (k := 7 * k + 1) (m := L) (by omega) (by omega)) rfl rfl ?_
  refine xv_cV1 (q := 529) xm_X8_clear ln_L_49 dL_law_526 ⟨by omega, hS.1.1⟩ rfl ⟨(Nat.le_of_ble_eq_true rfl), (Nat.le_of_ble_eq_true rfl)⟩ (Nat.le_of_ble_eq_true rfl) ⟨rfl, rfl⟩ rfl (Nat.le_of_ble_eq_true rfl) (Nat.le_of_ble_eq_true rfl) ?_
  refine ⟨σ, _, rfl, hS, by omega, hVV.1.1, fun ha Sa Fa => ?_⟩
  have Ma : xs_Mo ha σ := xs_Mok hMo Fa
  obtain ⟨C, dk, hM, hR⟩ := id Ma
  refine xi_aload_n (q := 530) dL_law_529 rfl rfl ?_
  refine xi_aload_n (q := 531) dL_law_530 rfl rfl ?_
  refine xi_iload_n (q := 532) dL_law_531 rfl rfl ?_
  refine xi_iconst (x := 1) (q := 533) dL_law_532 (by decide) rfl ?_
  refine xi_iadd (q := 534) dL_law_533 rfl ?_
  refine xi_roald (j := 6) (w := (L, xs)) (q := 535) dL_law_534 rfl (by rw [show (nI (7 * k) + 1 : Int32) = nI (7 * k + 1) from nI_add _ _]; exact xv_ixN (k := 7 * k + 1) (m := L) (by omega) (by omega)) rfl rfl ?_
  refine xv_cV1 (q := 538) xm_X9_clear ln_L_52 dL_law_535 ⟨by omega, xs_M83 hM⟩ rfl ⟨(Nat.le_of_ble_eq_true rfl), (Nat.le_of_ble_eq_true rfl)⟩ (Nat.le_of_ble_eq_true rfl) ⟨rfl, rfl⟩ rfl (Nat.le_of_ble_eq_true rfl) (Nat.le_of_ble_eq_true rfl) ?_
  refine ⟨σ, _, rfl, Ma, by omega, hVV.1.1, fun hb Mb Fb => ?_⟩
  have Sb := xs_Sk Sa (fun i hi => Fb i (Or.inl hi))
  refine xi_icmp_eq (q := 541) (q2 := 1693) dL_law_538 (by decide) rfl (fun c_538 => ?_) (fun c_538 => ?_)
  · exact K hb _ Sb Mb (xq_clear hVV _)
  · exact absurd rfl c_538
set_option maxRecDepth 20000 in
set_option maxHeartbeats 2000000 in
/-- number -/
theorem xl_c9 {L : Nat} {xs : Nat → Int32} {k : Nat} {h : xv_H} {σ : xs_Sg} (hL : L ≤ 3584) (hk : 7 * k + 7 ≤ L) (hS : xs_S h σ) (hMo : xs_Mo h σ) (hVV : xs_VV σ) (K : ∀ (hb : xv_H) (σ' : xs_Sg), xs_S hb σ' → xs_Mo hb σ' → xs_VV σ' → xv_V (L, xs) mL_law xl_P 104 25323 1693 [(0, .ref 1006), (1, .ref 0), (2, .ref 83), (3, .int (nI (7 * k)))] [] hb 104) : xv_V (L, xs) mL_law xl_P 104 25323 543 [(0, .ref 1006), (1, .ref 0), (2, .ref 83), (3, .int (nI (7 * k)))] [] h 104 := by
  refine xi_aload_n (q := 544) dL_law_543 rfl rfl ?_
  refine xi_aload_n (q := 545) dL_law_544 rfl rfl ?_
  refine xi_iload_n (q := 546) dL_law_545 rfl rfl ?_
  refine xi_iconst (x := 1) (q := 547) dL_law_546 (by decide) rfl ?_
  refine xi_iadd (q := 548) dL_law_547 rfl ?_
  refine xi_roald (j := 6) (w := (L, xs)) (q := 549) dL_law_548 rfl (by rw [show (nI (7 * k) + 1 : Int32) = nI (7 * k + 1) from nI_add _ _]; exact xv_ixN (k := 7 * k + 1) (m := L) (by omega) (by omega)) rfl rfl ?_
  refine xi_aload_n (q := 550) dL_law_549 rfl rfl ?_
  refine xi_iload_n (q := 551) dL_law_550 rfl rfl ?_
  refine xi_iconst (x := 2) (q := 552) dL_law_551 (by decide) rfl ?_
  refine xi_iadd (q := 553) dL_law_552 rfl ?_
  refine xi_roald (j := 6) (w := (L, xs)) (q := 554) dL_law_553 rfl (by rw [show (nI (7 * k) + 2 : Int32) = nI (7 * k + 2) from nI_add _ _]; exact xv_ixN (k := 7 * k + 2) (m := L) (by omega) (by omega)) rfl rfl ?_
  refine xv_cV2 (q := 557) xm_X8_number ln_L_53 dL_law_554 ⟨by omega, hS.1.1⟩ rfl ⟨(Nat.le_of_ble_eq_true rfl), (Nat.le_of_ble_eq_true rfl)⟩ (Nat.le_of_ble_eq_true rfl) ⟨rfl, rfl⟩ rfl (Nat.le_of_ble_eq_true rfl) (Nat.le_of_ble_eq_true rfl) ?_
  refine ⟨σ, _, _, rfl, hS, by omega, hVV.1.1, fun ha Sa Fa => ?_⟩
  have Ma : xs_Mo ha σ := xs_Mok hMo Fa
  obtain ⟨C, dk, hM, hR⟩ := id Ma
  refine xi_aload_n (q := 558) dL_law_557 rfl rfl ?_
  refine xi_aload_n (q := 559) dL_law_558 rfl rfl ?_
  refine xi_iload_n (q := 560) dL_law_559 rfl rfl ?_
  refine xi_iconst (x := 1) (q := 561) dL_law_560 (by decide) rfl ?_
  refine xi_iadd (q := 562) dL_law_561 rfl ?_
  refine xi_roald (j := 6) (w := (L, xs)) (q := 563) dL_law_562 rfl (by rw [show (nI (7 * k) + 1 : Int32) = nI (7 * k + 1) from nI_add _ _]; exact xv_ixN (k := 7 * k + 1) (m := L) (by omega) (by omega)) rfl rfl ?_
  refine xi_aload_n (q := 564) dL_law_563 rfl rfl ?_
  refine xi_iload_n (q := 565) dL_law_564 rfl rfl ?_
  refine xi_iconst (x := 2) (q := 566) dL_law_565 (by decide) rfl ?_
  refine xi_iadd (q := 567) dL_law_566 rfl ?_
  refine xi_roald (j := 6) (w := (L, xs)) (q := 568) dL_law_567 rfl (by rw [show (nI (7 * k) + 2 : Int32) = nI (7 * k + 2) from nI_add _ _]; exact xv_ixN (k := 7 * k + 2) (m := L) (by omega) (by omega)) rfl rfl ?_
  refine xv_cV2 (q := 571) xm_X9_number ln_L_56 dL_law_568 ⟨by omega, xs_M83 hM⟩ rfl ⟨(Nat.le_of_ble_eq_true rfl), (Nat.le_of_ble_eq_true rfl)⟩ (Nat.le_of_ble_eq_true rfl) ⟨rfl, rfl⟩ rfl (Nat.le_of_ble_eq_true rfl) (Nat.le_of_ble_eq_true rfl) ?_
  refine ⟨σ, _, _, rfl, Ma, by omega, hVV.1.1, fun hb Mb Fb => ?_⟩
  have Sb := xs_Sk Sa (fun i hi => Fb i (Or.inl hi))
  refine xi_icmp_eq (q := 574) (q2 := 1693) dL_law_571 (by decide) rfl (fun c_571 => ?_) (fun c_571 => ?_)
  · exact K hb _ Sb Mb (xq_number hVV _ _)
  · exact absurd rfl c_571
set_option maxRecDepth 20000 in
set_option maxHeartbeats 2000000 in
/-- piston -/
theorem xl_c10 {L : Nat} {xs : Nat → Int32} {k : Nat} {h : xv_H} {σ : xs_Sg} (hL : L ≤ 3584) (hk : 7 * k + 7 ≤ L) (hS : xs_S h σ) (hMo : xs_Mo h σ) (hVV : xs_VV σ) (K : ∀ (hb : xv_H) (σ' : xs_Sg), xs_S hb σ' → xs_Mo hb σ' → xs_VV σ' → xv_V (L, xs) mL_law xl_P 104 25323 1693 [(0, .ref 1006), (1, .ref 0), (2, .ref 83), (3, .int (nI (7 * k)))] [] hb 104) : xv_V (L, xs) mL_law xl_P 104 25323 576 [(0, .ref 1006), (1, .ref 0), (2, .ref 83), (3, .int (nI (7 * k)))] [] h 104 := by
  refine xi_aload_n (q := 577) dL_law_576 rfl rfl ?_
  refine xi_aload_n (q := 578) dL_law_577 rfl rfl ?_
  refine xi_iload_n (q := 579) dL_law_578 rfl rfl ?_
  refine xi_iconst (x := 1) (q := 580) dL_law_579 (by decide) rfl ?_
  refine xi_iadd (q := 581) dL_law_580 rfl ?_
  refine xi_roald (j := 6) (w := (L, xs)) (q := 582) dL_law_581 rfl (by rw [show (nI (7 * k) + 1 : Int32) = nI (7 * k + 1) from nI_add _ _]; exact xv_ixN (k := 7 * k + 1) (m := L) (by omega) (by omega)) rfl rfl ?_
  refine xi_aload_n (q := 583) dL_law_582 rfl rfl ?_
  refine xi_iload_n (q := 584) dL_law_583 rfl rfl ?_
  refine xi_iconst (x := 2) (q := 585) dL_law_584 (by decide) rfl ?_
  refine xi_iadd (q := 586) dL_law_585 rfl ?_
  refine xi_roald (j := 6) (w := (L, xs)) (q := 587) dL_law_586 rfl (by rw [show (nI (7 * k) + 2 : Int32) = nI (7 * k + 2) from nI_add _ _]; exact xv_ixN (k := 7 * k + 2) (m := L) (by omega) (by omega)) rfl rfl ?_
  refine xv_cV2 (q := 590) xm_X8_piston ln_L_57 dL_law_587 ⟨by omega, hS.1.1⟩ rfl ⟨(Nat.le_of_ble_eq_true rfl), (Nat.le_of_ble_eq_true rfl)⟩ (Nat.le_of_ble_eq_true rfl) ⟨rfl, rfl⟩ rfl (Nat.le_of_ble_eq_true rfl) (Nat.le_of_ble_eq_true rfl) ?_
  refine ⟨σ, _, _, rfl, hS, by omega, hVV.1.1, fun ha Sa Fa => ?_⟩
  have Ma : xs_Mo ha σ := xs_Mok hMo Fa
  obtain ⟨C, dk, hM, hR⟩ := id Ma
  refine xi_aload_n (q := 591) dL_law_590 rfl rfl ?_
  refine xi_aload_n (q := 592) dL_law_591 rfl rfl ?_
  refine xi_iload_n (q := 593) dL_law_592 rfl rfl ?_
  refine xi_iconst (x := 1) (q := 594) dL_law_593 (by decide) rfl ?_
  refine xi_iadd (q := 595) dL_law_594 rfl ?_
  refine xi_roald (j := 6) (w := (L, xs)) (q := 596) dL_law_595 rfl (by rw [show (nI (7 * k) + 1 : Int32) = nI (7 * k + 1) from nI_add _ _]; exact xv_ixN (k := 7 * k + 1) (m := L) (by omega) (by omega)) rfl rfl ?_
  refine xi_aload_n (q := 597) dL_law_596 rfl rfl ?_
  refine xi_iload_n (q := 598) dL_law_597 rfl rfl ?_
  refine xi_iconst (x := 2) (q := 599) dL_law_598 (by decide) rfl ?_
  refine xi_iadd (q := 600) dL_law_599 rfl ?_
  refine xi_roald (j := 6) (w := (L, xs)) (q := 601) dL_law_600 rfl (by rw [show (nI (7 * k) + 2 : Int32) = nI (7 * k + 2) from nI_add _ _]; exact xv_ixN (k := 7 * k + 2) (m := L) (by omega) (by omega)) rfl rfl ?_
  refine xv_cV2 (q := 604) xm_X9_piston ln_L_60 dL_law_601 ⟨by omega, xs_M83 hM⟩ rfl ⟨(Nat.le_of_ble_eq_true rfl), (Nat.le_of_ble_eq_true rfl)⟩ (Nat.le_of_ble_eq_true rfl) ⟨rfl, rfl⟩ rfl (Nat.le_of_ble_eq_true rfl) (Nat.le_of_ble_eq_true rfl) ?_
  refine ⟨σ, _, _, rfl, Ma, by omega, hVV.1.1, fun hb Mb Fb => ?_⟩
  have Sb := xs_Sk Sa (fun i hi => Fb i (Or.inl hi))
  refine xi_icmp_eq (q := 607) (q2 := 1693) dL_law_604 (by decide) rfl (fun c_604 => ?_) (fun c_604 => ?_)
  · exact K hb _ Sb Mb (xq_piston hVV _ _)
  · exact absurd rfl c_604
set_option maxRecDepth 20000 in
set_option maxHeartbeats 2000000 in
/-- valve -/
theorem xl_c11 {L : Nat} {xs : Nat → Int32} {k : Nat} {h : xv_H} {σ : xs_Sg} (hL : L ≤ 3584) (hk : 7 * k + 7 ≤ L) (hS : xs_S h σ) (hMo : xs_Mo h σ) (hVV : xs_VV σ) (K : ∀ (hb : xv_H) (σ' : xs_Sg), xs_S hb σ' → xs_Mo hb σ' → xs_VV σ' → xv_V (L, xs) mL_law xl_P 104 25323 1693 [(0, .ref 1006), (1, .ref 0), (2, .ref 83), (3, .int (nI (7 * k)))] [] hb 104) : xv_V (L, xs) mL_law xl_P 104 25323 609 [(0, .ref 1006), (1, .ref 0), (2, .ref 83), (3, .int (nI (7 * k)))] [] h 104 := by
  refine xi_aload_n (q := 610) dL_law_609 rfl rfl ?_
  refine xi_aload_n (q := 611) dL_law_610 rfl rfl ?_
  refine xi_iload_n (q := 612) dL_law_611 rfl rfl ?_
  refine xi_iconst (x := 1) (q := 613) dL_law_612 (by decide) rfl ?_
  refine xi_iadd (q := 614) dL_law_613 rfl ?_
  refine xi_roald (j := 6) (w := (L, xs)) (q := 615) dL_law_614 rfl (by rw [show (nI (7 * k) + 1 : Int32) = nI (7 * k + 1) from nI_add _ _]; exact xv_ixN (k := 7 * k + 1) (m := L) (by omega) (by omega)) rfl rfl ?_
  refine xi_aload_n (q := 616) dL_law_615 rfl rfl ?_
  refine xi_iload_n (q := 617) dL_law_616 rfl rfl ?_
  refine xi_iconst (x := 2) (q := 618) dL_law_617 (by decide) rfl ?_
  refine xi_iadd (q := 619) dL_law_618 rfl ?_
  refine xi_roald (j := 6) (w := (L, xs)) (q := 620) dL_law_619 rfl (by rw [show (nI (7 * k) + 2 : Int32) = nI (7 * k + 2) from nI_add _ _]; exact xv_ixN (k := 7 * k + 2) (m := L) (by omega) (by omega)) rfl rfl ?_
  refine xi_aload_n (q := 621) dL_law_620 rfl rfl ?_
  refine xi_iload_n (q := 622) dL_law_621 rfl rfl ?_
  refine xi_iconst (x := 3) (q := 623) dL_law_622 (by decide) rfl ?_
  refine xi_iadd (q := 624) dL_law_623 rfl ?_
  refine xi_roald (j := 6) (w := (L, xs)) (q := 625) dL_law_624 rfl (by rw [show (nI (7 * k) + 3 : Int32) = nI (7 * k + 3) from nI_add _ _]; exact xv_ixN (k := 7 * k + 3) (m := L) (by omega) (by omega)) rfl rfl ?_
  refine xv_cV3 (q := 628) xm_X8_valve ln_L_61 dL_law_625 ⟨by omega, hS.1.1⟩ rfl ⟨(Nat.le_of_ble_eq_true rfl), (Nat.le_of_ble_eq_true rfl)⟩ (Nat.le_of_ble_eq_true rfl) ⟨rfl, rfl⟩ rfl (Nat.le_of_ble_eq_true rfl) (Nat.le_of_ble_eq_true rfl) ?_
  refine ⟨σ, _, _, _, rfl, hS, by omega, hVV.1.1, fun ha Sa Fa => ?_⟩
  have Ma : xs_Mo ha σ := xs_Mok hMo Fa
  obtain ⟨C, dk, hM, hR⟩ := id Ma
  refine xi_aload_n (q := 629) dL_law_628 rfl rfl ?_
  refine xi_aload_n (q := 630) dL_law_629 rfl rfl ?_
  refine xi_iload_n (q := 631) dL_law_630 rfl rfl ?_
  refine xi_iconst (x := 1) (q := 632) dL_law_631 (by decide) rfl ?_
  refine xi_iadd (q := 633) dL_law_632 rfl ?_
  refine xi_roald (j := 6) (w := (L, xs)) (q := 634) dL_law_633 rfl (by rw [show (nI (7 * k) + 1 : Int32) = nI (7 * k + 1) from nI_add _ _]; exact xv_ixN (k := 7 * k + 1) (m := L) (by omega) (by omega)) rfl rfl ?_
  refine xi_aload_n (q := 635) dL_law_634 rfl rfl ?_
  refine xi_iload_n (q := 636) dL_law_635 rfl rfl ?_
  refine xi_iconst (x := 2) (q := 637) dL_law_636 (by decide) rfl ?_
  refine xi_iadd (q := 638) dL_law_637 rfl ?_
  refine xi_roald (j := 6) (w := (L, xs)) (q := 639) dL_law_638 rfl (by rw [show (nI (7 * k) + 2 : Int32) = nI (7 * k + 2) from nI_add _ _]; exact xv_ixN (k := 7 * k + 2) (m := L) (by omega) (by omega)) rfl rfl ?_
  refine xi_aload_n (q := 640) dL_law_639 rfl rfl ?_
  refine xi_iload_n (q := 641) dL_law_640 rfl rfl ?_
  refine xi_iconst (x := 3) (q := 642) dL_law_641 (by decide) rfl ?_
  refine xi_iadd (q := 643) dL_law_642 rfl ?_
  refine xi_roald (j := 6) (w := (L, xs)) (q := 644) dL_law_643 rfl (by rw [show (nI (7 * k) + 3 : Int32) = nI (7 * k + 3) from nI_add _ _]; exact xv_ixN (k := 7 * k + 3) (m := L) (by omega) (by omega)) rfl rfl ?_
  refine xv_cV3 (q := 647) xm_X9_valve ln_L_64 dL_law_644 ⟨by omega, xs_M83 hM⟩ rfl ⟨(Nat.le_of_ble_eq_true rfl), (Nat.le_of_ble_eq_true rfl)⟩ (Nat.le_of_ble_eq_true rfl) ⟨rfl, rfl⟩ rfl (Nat.le_of_ble_eq_true rfl) (Nat.le_of_ble_eq_true rfl) ?_
  refine ⟨σ, _, _, _, rfl, Ma, by omega, hVV.1.1, fun hb Mb Fb => ?_⟩
  have Sb := xs_Sk Sa (fun i hi => Fb i (Or.inl hi))
  refine xi_icmp_eq (q := 650) (q2 := 1693) dL_law_647 (by decide) rfl (fun c_647 => ?_) (fun c_647 => ?_)
  · exact K hb _ Sb Mb (xq_valve hVV _ _ _)
  · exact absurd rfl c_647
set_option maxRecDepth 20000 in
set_option maxHeartbeats 2000000 in
/-- open -/
theorem xl_c12 {L : Nat} {xs : Nat → Int32} {k : Nat} {h : xv_H} {σ : xs_Sg} (hL : L ≤ 3584) (hk : 7 * k + 7 ≤ L) (hS : xs_S h σ) (hMo : xs_Mo h σ) (hVV : xs_VV σ) (K : ∀ (hb : xv_H) (σ' : xs_Sg), xs_S hb σ' → xs_Mo hb σ' → xs_VV σ' → xv_V (L, xs) mL_law xl_P 104 25323 1693 [(0, .ref 1006), (1, .ref 0), (2, .ref 83), (3, .int (nI (7 * k)))] [] hb 104) : xv_V (L, xs) mL_law xl_P 104 25323 652 [(0, .ref 1006), (1, .ref 0), (2, .ref 83), (3, .int (nI (7 * k)))] [] h 104 := by
  refine xi_aload_n (q := 653) dL_law_652 rfl rfl ?_
  refine xi_aload_n (q := 654) dL_law_653 rfl rfl ?_
  refine xi_iload_n (q := 655) dL_law_654 rfl rfl ?_
  refine xi_iconst (x := 1) (q := 656) dL_law_655 (by decide) rfl ?_
  refine xi_iadd (q := 657) dL_law_656 rfl ?_
  refine xi_roald (j := 6) (w := (L, xs)) (q := 658) dL_law_657 rfl (by rw [show (nI (7 * k) + 1 : Int32) = nI (7 * k + 1) from nI_add _ _]; exact xv_ixN (k := 7 * k + 1) (m := L) (by omega) (by omega)) rfl rfl ?_
  refine xi_aload_n (q := 659) dL_law_658 rfl rfl ?_
  refine xi_iload_n (q := 660) dL_law_659 rfl rfl ?_
  refine xi_iconst (x := 2) (q := 661) dL_law_660 (by decide) rfl ?_
  refine xi_iadd (q := 662) dL_law_661 rfl ?_
  refine xi_roald (j := 6) (w := (L, xs)) (q := 663) dL_law_662 rfl (by rw [show (nI (7 * k) + 2 : Int32) = nI (7 * k + 2) from nI_add _ _]; exact xv_ixN (k := 7 * k + 2) (m := L) (by omega) (by omega)) rfl rfl ?_
  refine xi_aload_n (q := 664) dL_law_663 rfl rfl ?_
  refine xi_iload_n (q := 665) dL_law_664 rfl rfl ?_
  refine xi_iconst (x := 3) (q := 666) dL_law_665 (by decide) rfl ?_
  refine xi_iadd (q := 667) dL_law_666 rfl ?_
  refine xi_roald (j := 6) (w := (L, xs)) (q := 668) dL_law_667 rfl (by rw [show (nI (7 * k) + 3 : Int32) = nI (7 * k + 3) from nI_add _ _]; exact xv_ixN (k := 7 * k + 3) (m := L) (by omega) (by omega)) rfl rfl ?_
  refine xi_aload_n (q := 669) dL_law_668 rfl rfl ?_
  refine xi_iload_n (q := 670) dL_law_669 rfl rfl ?_
  refine xi_iconst (x := 4) (q := 671) dL_law_670 (by decide) rfl ?_
  refine xi_iadd (q := 672) dL_law_671 rfl ?_
  refine xi_roald (j := 6) (w := (L, xs)) (q := 673) dL_law_672 rfl (by rw [show (nI (7 * k) + 4 : Int32) = nI (7 * k + 4) from nI_add _ _]; exact xv_ixN (k := 7 * k + 4) (m := L) (by omega) (by omega)) rfl rfl ?_
  refine xi_aload_n (q := 674) dL_law_673 rfl rfl ?_
  refine xi_iload_n (q := 675) dL_law_674 rfl rfl ?_
  refine xi_iconst (x := 5) (q := 676) dL_law_675 (by decide) rfl ?_
  refine xi_iadd (q := 677) dL_law_676 rfl ?_
  refine xi_roald (j := 6) (w := (L, xs)) (q := 678) dL_law_677 rfl (by rw [show (nI (7 * k) + 5 : Int32) = nI (7 * k + 5) from nI_add _ _]; exact xv_ixN (k := 7 * k + 5) (m := L) (by omega) (by omega)) rfl rfl ?_
  refine xv_cV5 (q := 681) xm_X8_open ln_L_65 dL_law_678 ⟨by omega, hS.1.1⟩ rfl ⟨(Nat.le_of_ble_eq_true rfl), (Nat.le_of_ble_eq_true rfl)⟩ (Nat.le_of_ble_eq_true rfl) ⟨rfl, rfl⟩ rfl (Nat.le_of_ble_eq_true rfl) (Nat.le_of_ble_eq_true rfl) ?_
  refine ⟨σ, _, _, _, _, _, rfl, hS, by omega, hVV.1.1, fun ha Sa Fa => ?_⟩
  have Ma : xs_Mo ha σ := xs_Mok hMo Fa
  obtain ⟨C, dk, hM, hR⟩ := id Ma
  refine xi_aload_n (q := 682) dL_law_681 rfl rfl ?_
  refine xi_aload_n (q := 683) dL_law_682 rfl rfl ?_
  refine xi_iload_n (q := 684) dL_law_683 rfl rfl ?_
  refine xi_iconst (x := 1) (q := 685) dL_law_684 (by decide) rfl ?_
  refine xi_iadd (q := 686) dL_law_685 rfl ?_
  refine xi_roald (j := 6) (w := (L, xs)) (q := 687) dL_law_686 rfl (by rw [show (nI (7 * k) + 1 : Int32) = nI (7 * k + 1) from nI_add _ _]; exact xv_ixN (k := 7 * k + 1) (m := L) (by omega) (by omega)) rfl rfl ?_
  refine xi_aload_n (q := 688) dL_law_687 rfl rfl ?_
  refine xi_iload_n (q := 689) dL_law_688 rfl rfl ?_
  refine xi_iconst (x := 2) (q := 690) dL_law_689 (by decide) rfl ?_
  refine xi_iadd (q := 691) dL_law_690 rfl ?_
  refine xi_roald (j := 6) (w := (L, xs)) (q := 692) dL_law_691 rfl (by rw [show (nI (7 * k) + 2 : Int32) = nI (7 * k + 2) from nI_add _ _]; exact xv_ixN (k := 7 * k + 2) (m := L) (by omega) (by omega)) rfl rfl ?_
  refine xi_aload_n (q := 693) dL_law_692 rfl rfl ?_
  refine xi_iload_n (q := 694) dL_law_693 rfl rfl ?_
  refine xi_iconst (x := 3) (q := 695) dL_law_694 (by decide) rfl ?_
  refine xi_iadd (q := 696) dL_law_695 rfl ?_
  refine xi_roald (j := 6) (w := (L, xs)) (q := 697) dL_law_696 rfl (by rw [show (nI (7 * k) + 3 : Int32) = nI (7 * k + 3) from nI_add _ _]; exact xv_ixN (k := 7 * k + 3) (m := L) (by omega) (by omega)) rfl rfl ?_
  refine xi_aload_n (q := 698) dL_law_697 rfl rfl ?_
  refine xi_iload_n (q := 699) dL_law_698 rfl rfl ?_
  refine xi_iconst (x := 4) (q := 700) dL_law_699 (by decide) rfl ?_
  refine xi_iadd (q := 701) dL_law_700 rfl ?_
  refine xi_roald (j := 6) (w := (L, xs)) (q := 702) dL_law_701 rfl (by rw [show (nI (7 * k) + 4 : Int32) = nI (7 * k + 4) from nI_add _ _]; exact xv_ixN (k := 7 * k + 4) (m := L) (by omega) (by omega)) rfl rfl ?_
  refine xi_aload_n (q := 703) dL_law_702 rfl rfl ?_
  refine xi_iload_n (q := 704) dL_law_703 rfl rfl ?_
  refine xi_iconst (x := 5) (q := 705) dL_law_704 (by decide) rfl ?_
  refine xi_iadd (q := 706) dL_law_705 rfl ?_
  refine xi_roald (j := 6) (w := (L, xs)) (q := 707) dL_law_706 rfl (by rw [show (nI (7 * k) + 5 : Int32) = nI (7 * k + 5) from nI_add _ _]; exact xv_ixN (k := 7 * k + 5) (m := L) (by omega) (by omega)) rfl rfl ?_
  refine xv_cV5 (q := 710) xm_X9_open ln_L_68 dL_law_707 ⟨by omega, xs_M83 hM⟩ rfl ⟨(Nat.le_of_ble_eq_true rfl), (Nat.le_of_ble_eq_true rfl)⟩ (Nat.le_of_ble_eq_true rfl) ⟨rfl, rfl⟩ rfl (Nat.le_of_ble_eq_true rfl) (Nat.le_of_ble_eq_true rfl) ?_
  refine ⟨σ, _, _, _, _, _, rfl, Ma, by omega, hVV.1.1, fun hb Mb Fb => ?_⟩
  have Sb := xs_Sk Sa (fun i hi => Fb i (Or.inl hi))
  refine xi_icmp_eq (q := 713) (q2 := 1693) dL_law_710 (by decide) rfl (fun c_710 => ?_) (fun c_710 => ?_)
  · exact K hb _ Sb Mb (xq_open hVV _ _ _ _ _)
  · exact absurd rfl c_710
set_option maxRecDepth 20000 in
set_option maxHeartbeats 2000000 in
/-- event -/
theorem xl_c13 {L : Nat} {xs : Nat → Int32} {k : Nat} {h : xv_H} {σ : xs_Sg} (hL : L ≤ 3584) (hk : 7 * k + 7 ≤ L) (hS : xs_S h σ) (hMo : xs_Mo h σ) (hVV : xs_VV σ) (K : ∀ (hb : xv_H) (σ' : xs_Sg), xs_S hb σ' → xs_Mo hb σ' → xs_VV σ' → xv_V (L, xs) mL_law xl_P 104 25323 1693 [(0, .ref 1006), (1, .ref 0), (2, .ref 83), (3, .int (nI (7 * k)))] [] hb 104) : xv_V (L, xs) mL_law xl_P 104 25323 715 [(0, .ref 1006), (1, .ref 0), (2, .ref 83), (3, .int (nI (7 * k)))] [] h 104 := by
  refine xi_aload_n (q := 716) dL_law_715 rfl rfl ?_
  refine xi_aload_n (q := 717) dL_law_716 rfl rfl ?_
  refine xi_iload_n (q := 718) dL_law_717 rfl rfl ?_
  refine xi_iconst (x := 1) (q := 719) dL_law_718 (by decide) rfl ?_
  refine xi_iadd (q := 720) dL_law_719 rfl ?_
  refine xi_roald (j := 6) (w := (L, xs)) (q := 721) dL_law_720 rfl (by rw [show (nI (7 * k) + 1 : Int32) = nI (7 * k + 1) from nI_add _ _]; exact xv_ixN (k := 7 * k + 1) (m := L) (by omega) (by omega)) rfl rfl ?_
  refine xi_aload_n (q := 722) dL_law_721 rfl rfl ?_
  refine xi_iload_n (q := 723) dL_law_722 rfl rfl ?_
  refine xi_iconst (x := 2) (q := 724) dL_law_723 (by decide) rfl ?_
  refine xi_iadd (q := 725) dL_law_724 rfl ?_
  refine xi_roald (j := 6) (w := (L, xs)) (q := 726) dL_law_725 rfl (by rw [show (nI (7 * k) + 2 : Int32) = nI (7 * k + 2) from nI_add _ _]; exact xv_ixN (k := 7 * k + 2) (m := L) (by omega) (by omega)) rfl rfl ?_
  refine xi_aload_n (q := 727) dL_law_726 rfl rfl ?_
  refine xi_iload_n (q := 728) dL_law_727 rfl rfl ?_
  refine xi_iconst (x := 3) (q := 729) dL_law_728 (by decide) rfl ?_
  refine xi_iadd (q := 730) dL_law_729 rfl ?_
  refine xi_roald (j := 6) (w := (L, xs)) (q := 731) dL_law_730 rfl (by rw [show (nI (7 * k) + 3 : Int32) = nI (7 * k + 3) from nI_add _ _]; exact xv_ixN (k := 7 * k + 3) (m := L) (by omega) (by omega)) rfl rfl ?_
  refine xi_aload_n (q := 732) dL_law_731 rfl rfl ?_
  refine xi_iload_n (q := 733) dL_law_732 rfl rfl ?_
  refine xi_iconst (x := 4) (q := 734) dL_law_733 (by decide) rfl ?_
  refine xi_iadd (q := 735) dL_law_734 rfl ?_
  refine xi_roald (j := 6) (w := (L, xs)) (q := 736) dL_law_735 rfl (by rw [show (nI (7 * k) + 4 : Int32) = nI (7 * k + 4) from nI_add _ _]; exact xv_ixN (k := 7 * k + 4) (m := L) (by omega) (by omega)) rfl rfl ?_
  refine xv_cV4 (q := 739) xm_X8_event ln_L_69 dL_law_736 ⟨by omega, hS.1.1⟩ rfl ⟨(Nat.le_of_ble_eq_true rfl), (Nat.le_of_ble_eq_true rfl)⟩ (Nat.le_of_ble_eq_true rfl) ⟨rfl, rfl⟩ rfl (Nat.le_of_ble_eq_true rfl) (Nat.le_of_ble_eq_true rfl) ?_
  refine ⟨σ, _, _, _, _, rfl, hS, by omega, hVV.1.1, fun ha Sa Fa => ?_⟩
  have Ma : xs_Mo ha σ := xs_Mok hMo Fa
  obtain ⟨C, dk, hM, hR⟩ := id Ma
  refine xi_aload_n (q := 740) dL_law_739 rfl rfl ?_
  refine xi_aload_n (q := 741) dL_law_740 rfl rfl ?_
  refine xi_iload_n (q := 742) dL_law_741 rfl rfl ?_
  refine xi_iconst (x := 1) (q := 743) dL_law_742 (by decide) rfl ?_
  refine xi_iadd (q := 744) dL_law_743 rfl ?_
  refine xi_roald (j := 6) (w := (L, xs)) (q := 745) dL_law_744 rfl (by rw [show (nI (7 * k) + 1 : Int32) = nI (7 * k + 1) from nI_add _ _]; exact xv_ixN (k := 7 * k + 1) (m := L) (by omega) (by omega)) rfl rfl ?_
  refine xi_aload_n (q := 746) dL_law_745 rfl rfl ?_
  refine xi_iload_n (q := 747) dL_law_746 rfl rfl ?_
  refine xi_iconst (x := 2) (q := 748) dL_law_747 (by decide) rfl ?_
  refine xi_iadd (q := 749) dL_law_748 rfl ?_
  refine xi_roald (j := 6) (w := (L, xs)) (q := 750) dL_law_749 rfl (by rw [show (nI (7 * k) + 2 : Int32) = nI (7 * k + 2) from nI_add _ _]; exact xv_ixN (k := 7 * k + 2) (m := L) (by omega) (by omega)) rfl rfl ?_
  refine xi_aload_n (q := 751) dL_law_750 rfl rfl ?_
  refine xi_iload_n (q := 752) dL_law_751 rfl rfl ?_
  refine xi_iconst (x := 3) (q := 753) dL_law_752 (by decide) rfl ?_
  refine xi_iadd (q := 754) dL_law_753 rfl ?_
  refine xi_roald (j := 6) (w := (L, xs)) (q := 755) dL_law_754 rfl (by rw [show (nI (7 * k) + 3 : Int32) = nI (7 * k + 3) from nI_add _ _]; exact xv_ixN (k := 7 * k + 3) (m := L) (by omega) (by omega)) rfl rfl ?_
  refine xi_aload_n (q := 756) dL_law_755 rfl rfl ?_
  refine xi_iload_n (q := 757) dL_law_756 rfl rfl ?_
  refine xi_iconst (x := 4) (q := 758) dL_law_757 (by decide) rfl ?_
  refine xi_iadd (q := 759) dL_law_758 rfl ?_
  refine xi_roald (j := 6) (w := (L, xs)) (q := 760) dL_law_759 rfl (by rw [show (nI (7 * k) + 4 : Int32) = nI (7 * k + 4) from nI_add _ _]; exact xv_ixN (k := 7 * k + 4) (m := L) (by omega) (by omega)) rfl rfl ?_
  refine xv_cV4 (q := 763) xm_X9_event ln_L_73 dL_law_760 ⟨by omega, xs_M83 hM⟩ rfl ⟨(Nat.le_of_ble_eq_true rfl), (Nat.le_of_ble_eq_true rfl)⟩ (Nat.le_of_ble_eq_true rfl) ⟨rfl, rfl⟩ rfl (Nat.le_of_ble_eq_true rfl) (Nat.le_of_ble_eq_true rfl) ?_
  refine ⟨σ, _, _, _, _, rfl, Ma, by omega, hVV.1.1, fun hb Mb Fb => ?_⟩
  have Sb := xs_Sk Sa (fun i hi => Fb i (Or.inl hi))
  refine xi_icmp_eq (q := 766) (q2 := 1693) dL_law_763 (by decide) rfl (fun c_763 => ?_) (fun c_763 => ?_)
  · exact K hb _ Sb Mb (xq_event hVV _ _ _ _)
  · exact absurd rfl c_763
set_option maxRecDepth 20000 in
set_option maxHeartbeats 2000000 in
/-- valves -/
theorem xl_c14 {L : Nat} {xs : Nat → Int32} {k : Nat} {h : xv_H} {σ : xs_Sg} (hL : L ≤ 3584) (hk : 7 * k + 7 ≤ L) (hS : xs_S h σ) (hMo : xs_Mo h σ) (hVV : xs_VV σ) (K : ∀ (hb : xv_H) (σ' : xs_Sg), xs_S hb σ' → xs_Mo hb σ' → xs_VV σ' → xv_V (L, xs) mL_law xl_P 104 25323 1693 [(0, .ref 1006), (1, .ref 0), (2, .ref 83), (3, .int (nI (7 * k)))] [] hb 104) : xv_V (L, xs) mL_law xl_P 104 25323 768 [(0, .ref 1006), (1, .ref 0), (2, .ref 83), (3, .int (nI (7 * k)))] [] h 104 := by
  refine xi_aload_n (q := 769) dL_law_768 rfl rfl ?_
  refine xi_aload_n (q := 770) dL_law_769 rfl rfl ?_
  refine xi_iload_n (q := 771) dL_law_770 rfl rfl ?_
  refine xi_iconst (x := 1) (q := 772) dL_law_771 (by decide) rfl ?_
  refine xi_iadd (q := 773) dL_law_772 rfl ?_
  refine xi_roald (j := 6) (w := (L, xs)) (q := 774) dL_law_773 rfl (by rw [show (nI (7 * k) + 1 : Int32) = nI (7 * k + 1) from nI_add _ _]; exact xv_ixN (k := 7 * k + 1) (m := L) (by omega) (by omega)) rfl rfl ?_
  refine xi_aload_n (q := 775) dL_law_774 rfl rfl ?_
  refine xi_iload_n (q := 776) dL_law_775 rfl rfl ?_
  refine xi_iconst (x := 2) (q := 777) dL_law_776 (by decide) rfl ?_
  refine xi_iadd (q := 778) dL_law_777 rfl ?_
  refine xi_roald (j := 6) (w := (L, xs)) (q := 779) dL_law_778 rfl (by rw [show (nI (7 * k) + 2 : Int32) = nI (7 * k + 2) from nI_add _ _]; exact xv_ixN (k := 7 * k + 2) (m := L) (by omega) (by omega)) rfl rfl ?_
  refine xv_cV2 (q := 782) xm_X8_valves ln_L_74 dL_law_779 ⟨by omega, hS.1.1⟩ rfl ⟨(Nat.le_of_ble_eq_true rfl), (Nat.le_of_ble_eq_true rfl)⟩ (Nat.le_of_ble_eq_true rfl) ⟨rfl, rfl⟩ rfl (Nat.le_of_ble_eq_true rfl) (Nat.le_of_ble_eq_true rfl) ?_
  refine ⟨σ, _, _, rfl, hS, by omega, hVV.1.1, fun ha Sa Fa => ?_⟩
  have Ma : xs_Mo ha σ := xs_Mok hMo Fa
  obtain ⟨C, dk, hM, hR⟩ := id Ma
  refine xi_aload_n (q := 783) dL_law_782 rfl rfl ?_
  refine xi_aload_n (q := 784) dL_law_783 rfl rfl ?_
  refine xi_iload_n (q := 785) dL_law_784 rfl rfl ?_
  refine xi_iconst (x := 1) (q := 786) dL_law_785 (by decide) rfl ?_
  refine xi_iadd (q := 787) dL_law_786 rfl ?_
  refine xi_roald (j := 6) (w := (L, xs)) (q := 788) dL_law_787 rfl (by rw [show (nI (7 * k) + 1 : Int32) = nI (7 * k + 1) from nI_add _ _]; exact xv_ixN (k := 7 * k + 1) (m := L) (by omega) (by omega)) rfl rfl ?_
  refine xi_aload_n (q := 789) dL_law_788 rfl rfl ?_
  refine xi_iload_n (q := 790) dL_law_789 rfl rfl ?_
  refine xi_iconst (x := 2) (q := 791) dL_law_790 (by decide) rfl ?_
  refine xi_iadd (q := 792) dL_law_791 rfl ?_
  refine xi_roald (j := 6) (w := (L, xs)) (q := 793) dL_law_792 rfl (by rw [show (nI (7 * k) + 2 : Int32) = nI (7 * k + 2) from nI_add _ _]; exact xv_ixN (k := 7 * k + 2) (m := L) (by omega) (by omega)) rfl rfl ?_
  refine xv_cV2 (q := 796) xm_X9_valves ln_L_77 dL_law_793 ⟨by omega, xs_M83 hM⟩ rfl ⟨(Nat.le_of_ble_eq_true rfl), (Nat.le_of_ble_eq_true rfl)⟩ (Nat.le_of_ble_eq_true rfl) ⟨rfl, rfl⟩ rfl (Nat.le_of_ble_eq_true rfl) (Nat.le_of_ble_eq_true rfl) ?_
  refine ⟨σ, _, _, rfl, Ma, by omega, hVV.1.1, fun hb Mb Fb => ?_⟩
  have Sb := xs_Sk Sa (fun i hi => Fb i (Or.inl hi))
  refine xi_icmp_eq (q := 799) (q2 := 1693) dL_law_796 (by decide) rfl (fun c_796 => ?_) (fun c_796 => ?_)
  · exact K hb _ Sb Mb (xq_valves hVV _ _)
  · exact absurd rfl c_796
set_option maxRecDepth 20000 in
set_option maxHeartbeats 2000000 in
/-- setting -/
theorem xl_c15 {L : Nat} {xs : Nat → Int32} {k : Nat} {h : xv_H} {σ : xs_Sg} (hL : L ≤ 3584) (hk : 7 * k + 7 ≤ L) (hS : xs_S h σ) (hMo : xs_Mo h σ) (hVV : xs_VV σ) (K : ∀ (hb : xv_H) (σ' : xs_Sg), xs_S hb σ' → xs_Mo hb σ' → xs_VV σ' → xv_V (L, xs) mL_law xl_P 104 25323 1693 [(0, .ref 1006), (1, .ref 0), (2, .ref 83), (3, .int (nI (7 * k)))] [] hb 104) : xv_V (L, xs) mL_law xl_P 104 25323 801 [(0, .ref 1006), (1, .ref 0), (2, .ref 83), (3, .int (nI (7 * k)))] [] h 104 := by
  refine xi_aload_n (q := 802) dL_law_801 rfl rfl ?_
  refine xi_aload_n (q := 803) dL_law_802 rfl rfl ?_
  refine xi_iload_n (q := 804) dL_law_803 rfl rfl ?_
  refine xi_iconst (x := 1) (q := 805) dL_law_804 (by decide) rfl ?_
  refine xi_iadd (q := 806) dL_law_805 rfl ?_
  refine xi_roald (j := 6) (w := (L, xs)) (q := 807) dL_law_806 rfl (by rw [show (nI (7 * k) + 1 : Int32) = nI (7 * k + 1) from nI_add _ _]; exact xv_ixN (k := 7 * k + 1) (m := L) (by omega) (by omega)) rfl rfl ?_
  refine xi_aload_n (q := 808) dL_law_807 rfl rfl ?_
  refine xi_iload_n (q := 809) dL_law_808 rfl rfl ?_
  refine xi_iconst (x := 2) (q := 810) dL_law_809 (by decide) rfl ?_
  refine xi_iadd (q := 811) dL_law_810 rfl ?_
  refine xi_roald (j := 6) (w := (L, xs)) (q := 812) dL_law_811 rfl (by rw [show (nI (7 * k) + 2 : Int32) = nI (7 * k + 2) from nI_add _ _]; exact xv_ixN (k := 7 * k + 2) (m := L) (by omega) (by omega)) rfl rfl ?_
  refine xv_cV2 (q := 815) xm_X8_setting ln_L_78 dL_law_812 ⟨by omega, hS.1.1⟩ rfl ⟨(Nat.le_of_ble_eq_true rfl), (Nat.le_of_ble_eq_true rfl)⟩ (Nat.le_of_ble_eq_true rfl) ⟨rfl, rfl⟩ rfl (Nat.le_of_ble_eq_true rfl) (Nat.le_of_ble_eq_true rfl) ?_
  refine ⟨σ, _, _, rfl, hS, by omega, hVV.1.1, fun ha Sa Fa => ?_⟩
  have Ma : xs_Mo ha σ := xs_Mok hMo Fa
  obtain ⟨C, dk, hM, hR⟩ := id Ma
  refine xi_aload_n (q := 816) dL_law_815 rfl rfl ?_
  refine xi_aload_n (q := 817) dL_law_816 rfl rfl ?_
  refine xi_iload_n (q := 818) dL_law_817 rfl rfl ?_
  refine xi_iconst (x := 1) (q := 819) dL_law_818 (by decide) rfl ?_
  refine xi_iadd (q := 820) dL_law_819 rfl ?_
  refine xi_roald (j := 6) (w := (L, xs)) (q := 821) dL_law_820 rfl (by rw [show (nI (7 * k) + 1 : Int32) = nI (7 * k + 1) from nI_add _ _]; exact xv_ixN (k := 7 * k + 1) (m := L) (by omega) (by omega)) rfl rfl ?_
  refine xi_aload_n (q := 822) dL_law_821 rfl rfl ?_
  refine xi_iload_n (q := 823) dL_law_822 rfl rfl ?_
  refine xi_iconst (x := 2) (q := 824) dL_law_823 (by decide) rfl ?_
  refine xi_iadd (q := 825) dL_law_824 rfl ?_
  refine xi_roald (j := 6) (w := (L, xs)) (q := 826) dL_law_825 rfl (by rw [show (nI (7 * k) + 2 : Int32) = nI (7 * k + 2) from nI_add _ _]; exact xv_ixN (k := 7 * k + 2) (m := L) (by omega) (by omega)) rfl rfl ?_
  refine xv_cV2 (q := 829) xm_X9_setting ln_L_81 dL_law_826 ⟨by omega, xs_M83 hM⟩ rfl ⟨(Nat.le_of_ble_eq_true rfl), (Nat.le_of_ble_eq_true rfl)⟩ (Nat.le_of_ble_eq_true rfl) ⟨rfl, rfl⟩ rfl (Nat.le_of_ble_eq_true rfl) (Nat.le_of_ble_eq_true rfl) ?_
  refine ⟨σ, _, _, rfl, Ma, by omega, hVV.1.1, fun hb Mb Fb => ?_⟩
  have Sb := xs_Sk Sa (fun i hi => Fb i (Or.inl hi))
  refine xi_icmp_eq (q := 832) (q2 := 1693) dL_law_829 (by decide) rfl (fun c_829 => ?_) (fun c_829 => ?_)
  · exact K hb _ Sb Mb (xq_setting hVV _ _)
  · exact absurd rfl c_829
set_option maxRecDepth 20000 in
set_option maxHeartbeats 2000000 in
/-- tune -/
theorem xl_c16 {L : Nat} {xs : Nat → Int32} {k : Nat} {h : xv_H} {σ : xs_Sg} (hL : L ≤ 3584) (hk : 7 * k + 7 ≤ L) (hS : xs_S h σ) (hMo : xs_Mo h σ) (hVV : xs_VV σ) (K : ∀ (hb : xv_H) (σ' : xs_Sg), xs_S hb σ' → xs_Mo hb σ' → xs_VV σ' → xv_V (L, xs) mL_law xl_P 104 25323 1693 [(0, .ref 1006), (1, .ref 0), (2, .ref 83), (3, .int (nI (7 * k)))] [] hb 104) : xv_V (L, xs) mL_law xl_P 104 25323 834 [(0, .ref 1006), (1, .ref 0), (2, .ref 83), (3, .int (nI (7 * k)))] [] h 104 := by
  refine xi_aload_n (q := 835) dL_law_834 rfl rfl ?_
  refine xi_aload_n (q := 836) dL_law_835 rfl rfl ?_
  refine xi_iload_n (q := 837) dL_law_836 rfl rfl ?_
  refine xi_iconst (x := 1) (q := 838) dL_law_837 (by decide) rfl ?_
  refine xi_iadd (q := 839) dL_law_838 rfl ?_
  refine xi_roald (j := 6) (w := (L, xs)) (q := 840) dL_law_839 rfl (by rw [show (nI (7 * k) + 1 : Int32) = nI (7 * k + 1) from nI_add _ _]; exact xv_ixN (k := 7 * k + 1) (m := L) (by omega) (by omega)) rfl rfl ?_
  refine xv_cV1 (q := 843) xm_X8_tune ln_L_82 dL_law_840 ⟨by omega, hS.1.1⟩ rfl ⟨(Nat.le_of_ble_eq_true rfl), (Nat.le_of_ble_eq_true rfl)⟩ (Nat.le_of_ble_eq_true rfl) ⟨rfl, rfl⟩ rfl (Nat.le_of_ble_eq_true rfl) (Nat.le_of_ble_eq_true rfl) ?_
  refine ⟨σ, _, rfl, hS, by omega, hVV.1.1, fun ha Sa Fa => ?_⟩
  have Ma : xs_Mo ha σ := xs_Mok hMo Fa
  obtain ⟨C, dk, hM, hR⟩ := id Ma
  refine xi_aload_n (q := 844) dL_law_843 rfl rfl ?_
  refine xi_aload_n (q := 845) dL_law_844 rfl rfl ?_
  refine xi_iload_n (q := 846) dL_law_845 rfl rfl ?_
  refine xi_iconst (x := 1) (q := 847) dL_law_846 (by decide) rfl ?_
  refine xi_iadd (q := 848) dL_law_847 rfl ?_
  refine xi_roald (j := 6) (w := (L, xs)) (q := 849) dL_law_848 rfl (by rw [show (nI (7 * k) + 1 : Int32) = nI (7 * k + 1) from nI_add _ _]; exact xv_ixN (k := 7 * k + 1) (m := L) (by omega) (by omega)) rfl rfl ?_
  refine xv_cV1 (q := 852) xm_X9_tune ln_L_85 dL_law_849 ⟨by omega, xs_M83 hM⟩ rfl ⟨(Nat.le_of_ble_eq_true rfl), (Nat.le_of_ble_eq_true rfl)⟩ (Nat.le_of_ble_eq_true rfl) ⟨rfl, rfl⟩ rfl (Nat.le_of_ble_eq_true rfl) (Nat.le_of_ble_eq_true rfl) ?_
  refine ⟨σ, _, rfl, Ma, by omega, hVV.1.1, fun hb Mb Fb => ?_⟩
  have Sb := xs_Sk Sa (fun i hi => Fb i (Or.inl hi))
  refine xi_icmp_eq (q := 855) (q2 := 1693) dL_law_852 (by decide) rfl (fun c_852 => ?_) (fun c_852 => ?_)
  · exact K hb _ Sb Mb (xq_tune hVV _)
  · exact absurd rfl c_852
set_option maxRecDepth 20000 in
set_option maxHeartbeats 2000000 in
/-- card -/
theorem xl_c17 {L : Nat} {xs : Nat → Int32} {k : Nat} {h : xv_H} {σ : xs_Sg} (hL : L ≤ 3584) (hk : 7 * k + 7 ≤ L) (hS : xs_S h σ) (hMo : xs_Mo h σ) (hVV : xs_VV σ) (K : ∀ (hb : xv_H) (σ' : xs_Sg), xs_S hb σ' → xs_Mo hb σ' → xs_VV σ' → xv_V (L, xs) mL_law xl_P 104 25323 1693 [(0, .ref 1006), (1, .ref 0), (2, .ref 83), (3, .int (nI (7 * k)))] [] hb 104) : xv_V (L, xs) mL_law xl_P 104 25323 857 [(0, .ref 1006), (1, .ref 0), (2, .ref 83), (3, .int (nI (7 * k)))] [] h 104 := by
  refine xi_aload_n (q := 858) dL_law_857 rfl rfl ?_
  refine xi_aload_n (q := 859) dL_law_858 rfl rfl ?_
  refine xi_iload_n (q := 860) dL_law_859 rfl rfl ?_
  refine xi_iconst (x := 1) (q := 861) dL_law_860 (by decide) rfl ?_
  refine xi_iadd (q := 862) dL_law_861 rfl ?_
  refine xi_roald (j := 6) (w := (L, xs)) (q := 863) dL_law_862 rfl (by rw [show (nI (7 * k) + 1 : Int32) = nI (7 * k + 1) from nI_add _ _]; exact xv_ixN (k := 7 * k + 1) (m := L) (by omega) (by omega)) rfl rfl ?_
  refine xi_aload_n (q := 864) dL_law_863 rfl rfl ?_
  refine xi_iload_n (q := 865) dL_law_864 rfl rfl ?_
  refine xi_iconst (x := 2) (q := 866) dL_law_865 (by decide) rfl ?_
  refine xi_iadd (q := 867) dL_law_866 rfl ?_
  refine xi_roald (j := 6) (w := (L, xs)) (q := 868) dL_law_867 rfl (by rw [show (nI (7 * k) + 2 : Int32) = nI (7 * k + 2) from nI_add _ _]; exact xv_ixN (k := 7 * k + 2) (m := L) (by omega) (by omega)) rfl rfl ?_
  refine xi_aload_n (q := 869) dL_law_868 rfl rfl ?_
  refine xi_iload_n (q := 870) dL_law_869 rfl rfl ?_
  refine xi_iconst (x := 3) (q := 871) dL_law_870 (by decide) rfl ?_
  refine xi_iadd (q := 872) dL_law_871 rfl ?_
  refine xi_roald (j := 6) (w := (L, xs)) (q := 873) dL_law_872 rfl (by rw [show (nI (7 * k) + 3 : Int32) = nI (7 * k + 3) from nI_add _ _]; exact xv_ixN (k := 7 * k + 3) (m := L) (by omega) (by omega)) rfl rfl ?_
  refine xi_aload_n (q := 874) dL_law_873 rfl rfl ?_
  refine xi_iload_n (q := 875) dL_law_874 rfl rfl ?_
  refine xi_iconst (x := 4) (q := 876) dL_law_875 (by decide) rfl ?_
  refine xi_iadd (q := 877) dL_law_876 rfl ?_
  refine xi_roald (j := 6) (w := (L, xs)) (q := 878) dL_law_877 rfl (by rw [show (nI (7 * k) + 4 : Int32) = nI (7 * k + 4) from nI_add _ _]; exact xv_ixN (k := 7 * k + 4) (m := L) (by omega) (by omega)) rfl rfl ?_
  refine xi_aload_n (q := 879) dL_law_878 rfl rfl ?_
  refine xi_iload_n (q := 880) dL_law_879 rfl rfl ?_
  refine xi_iconst (x := 5) (q := 881) dL_law_880 (by decide) rfl ?_
  refine xi_iadd (q := 882) dL_law_881 rfl ?_
  refine xi_roald (j := 6) (w := (L, xs)) (q := 883) dL_law_882 rfl (by rw [show (nI (7 * k) + 5 : Int32) = nI (7 * k + 5) from nI_add _ _]; exact xv_ixN (k := 7 * k + 5) (m := L) (by omega) (by omega)) rfl rfl ?_
  refine xi_aload_n (q := 884) dL_law_883 rfl rfl ?_
  refine xi_iload_n (q := 885) dL_law_884 rfl rfl ?_
  refine xi_bipush (x := 6) (q := 887) dL_law_885 (by decide) rfl ?_
  refine xi_iadd (q := 888) dL_law_887 rfl ?_
  refine xi_roald (j := 6) (w := (L, xs)) (q := 889) dL_law_888 rfl (by rw [show (nI (7 * k) + 6 : Int32) = nI (7 * k + 6) from nI_add _ _]; exact xv_ixN (k := 7 * k + 6) (m := L) (by omega) (by omega)) rfl rfl ?_
  refine xv_cV6 (q := 892) xm_X8_card ln_L_86 dL_law_889 ⟨by omega, hS.1.1⟩ rfl ⟨(Nat.le_of_ble_eq_true rfl), (Nat.le_of_ble_eq_true rfl)⟩ (Nat.le_of_ble_eq_true rfl) ⟨rfl, rfl⟩ rfl (Nat.le_of_ble_eq_true rfl) (Nat.le_of_ble_eq_true rfl) ?_
  refine ⟨σ, _, _, _, _, _, _, rfl, hS, by omega, hVV.1.1, fun ha Sa Fa => ?_⟩
  have Ma : xs_Mo ha σ := xs_Mok hMo Fa
  obtain ⟨C, dk, hM, hR⟩ := id Ma
  refine xi_aload_n (q := 893) dL_law_892 rfl rfl ?_
  refine xi_aload_n (q := 894) dL_law_893 rfl rfl ?_
  refine xi_iload_n (q := 895) dL_law_894 rfl rfl ?_
  refine xi_iconst (x := 1) (q := 896) dL_law_895 (by decide) rfl ?_
  refine xi_iadd (q := 897) dL_law_896 rfl ?_
  refine xi_roald (j := 6) (w := (L, xs)) (q := 898) dL_law_897 rfl (by rw [show (nI (7 * k) + 1 : Int32) = nI (7 * k + 1) from nI_add _ _]; exact xv_ixN (k := 7 * k + 1) (m := L) (by omega) (by omega)) rfl rfl ?_
  refine xi_aload_n (q := 899) dL_law_898 rfl rfl ?_
  refine xi_iload_n (q := 900) dL_law_899 rfl rfl ?_
  refine xi_iconst (x := 2) (q := 901) dL_law_900 (by decide) rfl ?_
  refine xi_iadd (q := 902) dL_law_901 rfl ?_
  refine xi_roald (j := 6) (w := (L, xs)) (q := 903) dL_law_902 rfl (by rw [show (nI (7 * k) + 2 : Int32) = nI (7 * k + 2) from nI_add _ _]; exact xv_ixN (k := 7 * k + 2) (m := L) (by omega) (by omega)) rfl rfl ?_
  refine xi_aload_n (q := 904) dL_law_903 rfl rfl ?_
  refine xi_iload_n (q := 905) dL_law_904 rfl rfl ?_
  refine xi_iconst (x := 3) (q := 906) dL_law_905 (by decide) rfl ?_
  refine xi_iadd (q := 907) dL_law_906 rfl ?_
  refine xi_roald (j := 6) (w := (L, xs)) (q := 908) dL_law_907 rfl (by rw [show (nI (7 * k) + 3 : Int32) = nI (7 * k + 3) from nI_add _ _]; exact xv_ixN (k := 7 * k + 3) (m := L) (by omega) (by omega)) rfl rfl ?_
  refine xi_aload_n (q := 909) dL_law_908 rfl rfl ?_
  refine xi_iload_n (q := 910) dL_law_909 rfl rfl ?_
  refine xi_iconst (x := 4) (q := 911) dL_law_910 (by decide) rfl ?_
  refine xi_iadd (q := 912) dL_law_911 rfl ?_
  refine xi_roald (j := 6) (w := (L, xs)) (q := 913) dL_law_912 rfl (by rw [show (nI (7 * k) + 4 : Int32) = nI (7 * k + 4) from nI_add _ _]; exact xv_ixN (k := 7 * k + 4) (m := L) (by omega) (by omega)) rfl rfl ?_
  refine xi_aload_n (q := 914) dL_law_913 rfl rfl ?_
  refine xi_iload_n (q := 915) dL_law_914 rfl rfl ?_
  refine xi_iconst (x := 5) (q := 916) dL_law_915 (by decide) rfl ?_
  refine xi_iadd (q := 917) dL_law_916 rfl ?_
  refine xi_roald (j := 6) (w := (L, xs)) (q := 918) dL_law_917 rfl (by rw [show (nI (7 * k) + 5 : Int32) = nI (7 * k + 5) from nI_add _ _]; exact xv_ixN (k := 7 * k + 5) (m := L) (by omega) (by omega)) rfl rfl ?_
  refine xi_aload_n (q := 919) dL_law_918 rfl rfl ?_
  refine xi_iload_n (q := 920) dL_law_919 rfl rfl ?_
  refine xi_bipush (x := 6) (q := 922) dL_law_920 (by decide) rfl ?_
  refine xi_iadd (q := 923) dL_law_922 rfl ?_
  refine xi_roald (j := 6) (w := (L, xs)) (q := 924) dL_law_923 rfl (by rw [show (nI (7 * k) + 6 : Int32) = nI (7 * k + 6) from nI_add _ _]; exact xv_ixN (k := 7 * k + 6) (m := L) (by omega) (by omega)) rfl rfl ?_
  refine xv_cV6 (q := 927) xm_X9_card ln_L_90 dL_law_924 ⟨by omega, xs_M83 hM⟩ rfl ⟨(Nat.le_of_ble_eq_true rfl), (Nat.le_of_ble_eq_true rfl)⟩ (Nat.le_of_ble_eq_true rfl) ⟨rfl, rfl⟩ rfl (Nat.le_of_ble_eq_true rfl) (Nat.le_of_ble_eq_true rfl) ?_
  refine ⟨σ, _, _, _, _, _, _, rfl, Ma, by omega, hVV.1.1, fun hb Mb Fb => ?_⟩
  have Sb := xs_Sk Sa (fun i hi => Fb i (Or.inl hi))
  refine xi_icmp_eq (q := 930) (q2 := 1693) dL_law_927 (by decide) rfl (fun c_927 => ?_) (fun c_927 => ?_)
  · exact K hb _ Sb Mb (xq_card hVV _ _ _ _ _ _)
  · exact absurd rfl c_927
set_option maxRecDepth 20000 in
set_option maxHeartbeats 2000000 in
/-- look -/
theorem xl_c18 {L : Nat} {xs : Nat → Int32} {k : Nat} {h : xv_H} {σ : xs_Sg} (hL : L ≤ 3584) (hk : 7 * k + 7 ≤ L) (hS : xs_S h σ) (hMo : xs_Mo h σ) (hVV : xs_VV σ) (K : ∀ (hb : xv_H) (σ' : xs_Sg), xs_S hb σ' → xs_Mo hb σ' → xs_VV σ' → xv_V (L, xs) mL_law xl_P 104 25323 1693 [(0, .ref 1006), (1, .ref 0), (2, .ref 83), (3, .int (nI (7 * k)))] [] hb 104) : xv_V (L, xs) mL_law xl_P 104 25323 932 [(0, .ref 1006), (1, .ref 0), (2, .ref 83), (3, .int (nI (7 * k)))] [] h 104 := by
  refine xi_aload_n (q := 933) dL_law_932 rfl rfl ?_
  refine xi_aload_n (q := 934) dL_law_933 rfl rfl ?_
  refine xi_iload_n (q := 935) dL_law_934 rfl rfl ?_
  refine xi_iconst (x := 1) (q := 936) dL_law_935 (by decide) rfl ?_
  refine xi_iadd (q := 937) dL_law_936 rfl ?_
  refine xi_roald (j := 6) (w := (L, xs)) (q := 938) dL_law_937 rfl (by rw [show (nI (7 * k) + 1 : Int32) = nI (7 * k + 1) from nI_add _ _]; exact xv_ixN (k := 7 * k + 1) (m := L) (by omega) (by omega)) rfl rfl ?_
  refine xi_aload_n (q := 939) dL_law_938 rfl rfl ?_
  refine xi_iload_n (q := 940) dL_law_939 rfl rfl ?_
  refine xi_iconst (x := 2) (q := 941) dL_law_940 (by decide) rfl ?_
  refine xi_iadd (q := 942) dL_law_941 rfl ?_
  refine xi_roald (j := 6) (w := (L, xs)) (q := 943) dL_law_942 rfl (by rw [show (nI (7 * k) + 2 : Int32) = nI (7 * k + 2) from nI_add _ _]; exact xv_ixN (k := 7 * k + 2) (m := L) (by omega) (by omega)) rfl rfl ?_
  refine xi_aload_n (q := 944) dL_law_943 rfl rfl ?_
  refine xi_iload_n (q := 945) dL_law_944 rfl rfl ?_
  refine xi_iconst (x := 3) (q := 946) dL_law_945 (by decide) rfl ?_
  refine xi_iadd (q := 947) dL_law_946 rfl ?_
  refine xi_roald (j := 6) (w := (L, xs)) (q := 948) dL_law_947 rfl (by rw [show (nI (7 * k) + 3 : Int32) = nI (7 * k + 3) from nI_add _ _]; exact xv_ixN (k := 7 * k + 3) (m := L) (by omega) (by omega)) rfl rfl ?_
  refine xi_aload_n (q := 949) dL_law_948 rfl rfl ?_
  refine xi_iload_n (q := 950) dL_law_949 rfl rfl ?_
  refine xi_iconst (x := 4) (q := 951) dL_law_950 (by decide) rfl ?_
  refine xi_iadd (q := 952) dL_law_951 rfl ?_
  refine xi_roald (j := 6) (w := (L, xs)) (q := 953) dL_law_952 rfl (by rw [show (nI (7 * k) + 4 : Int32) = nI (7 * k + 4) from nI_add _ _]; exact xv_ixN (k := 7 * k + 4) (m := L) (by omega) (by omega)) rfl rfl ?_
  refine xi_aload_n (q := 954) dL_law_953 rfl rfl ?_
  refine xi_iload_n (q := 955) dL_law_954 rfl rfl ?_
  refine xi_iconst (x := 5) (q := 956) dL_law_955 (by decide) rfl ?_
  refine xi_iadd (q := 957) dL_law_956 rfl ?_
  refine xi_roald (j := 6) (w := (L, xs)) (q := 958) dL_law_957 rfl (by rw [show (nI (7 * k) + 5 : Int32) = nI (7 * k + 5) from nI_add _ _]; exact xv_ixN (k := 7 * k + 5) (m := L) (by omega) (by omega)) rfl rfl ?_
  refine xi_aload_n (q := 959) dL_law_958 rfl rfl ?_
  refine xi_iload_n (q := 960) dL_law_959 rfl rfl ?_
  refine xi_bipush (x := 6) (q := 962) dL_law_960 (by decide) rfl ?_
  refine xi_iadd (q := 963) dL_law_962 rfl ?_
  refine xi_roald (j := 6) (w := (L, xs)) (q := 964) dL_law_963 rfl (by rw [show (nI (7 * k) + 6 : Int32) = nI (7 * k + 6) from nI_add _ _]; exact xv_ixN (k := 7 * k + 6) (m := L) (by omega) (by omega)) rfl rfl ?_
  refine xv_cV6 (q := 967) xm_X8_look ln_L_91 dL_law_964 ⟨by omega, hS.1.1⟩ rfl ⟨(Nat.le_of_ble_eq_true rfl), (Nat.le_of_ble_eq_true rfl)⟩ (Nat.le_of_ble_eq_true rfl) ⟨rfl, rfl⟩ rfl (Nat.le_of_ble_eq_true rfl) (Nat.le_of_ble_eq_true rfl) ?_
  refine ⟨σ, _, _, _, _, _, _, rfl, hS, by omega, hVV.1.1, fun ha Sa Fa => ?_⟩
  have Ma : xs_Mo ha σ := xs_Mok hMo Fa
  obtain ⟨C, dk, hM, hR⟩ := id Ma
  refine xi_aload_n (q := 968) dL_law_967 rfl rfl ?_
  refine xi_aload_n (q := 969) dL_law_968 rfl rfl ?_
  refine xi_iload_n (q := 970) dL_law_969 rfl rfl ?_
  refine xi_iconst (x := 1) (q := 971) dL_law_970 (by decide) rfl ?_
  refine xi_iadd (q := 972) dL_law_971 rfl ?_
  refine xi_roald (j := 6) (w := (L, xs)) (q := 973) dL_law_972 rfl (by rw [show (nI (7 * k) + 1 : Int32) = nI (7 * k + 1) from nI_add _ _]; exact xv_ixN (k := 7 * k + 1) (m := L) (by omega) (by omega)) rfl rfl ?_
  refine xi_aload_n (q := 974) dL_law_973 rfl rfl ?_
  refine xi_iload_n (q := 975) dL_law_974 rfl rfl ?_
  refine xi_iconst (x := 2) (q := 976) dL_law_975 (by decide) rfl ?_
  refine xi_iadd (q := 977) dL_law_976 rfl ?_
  refine xi_roald (j := 6) (w := (L, xs)) (q := 978) dL_law_977 rfl (by rw [show (nI (7 * k) + 2 : Int32) = nI (7 * k + 2) from nI_add _ _]; exact xv_ixN (k := 7 * k + 2) (m := L) (by omega) (by omega)) rfl rfl ?_
  refine xi_aload_n (q := 979) dL_law_978 rfl rfl ?_
  refine xi_iload_n (q := 980) dL_law_979 rfl rfl ?_
  refine xi_iconst (x := 3) (q := 981) dL_law_980 (by decide) rfl ?_
  refine xi_iadd (q := 982) dL_law_981 rfl ?_
  refine xi_roald (j := 6) (w := (L, xs)) (q := 983) dL_law_982 rfl (by rw [show (nI (7 * k) + 3 : Int32) = nI (7 * k + 3) from nI_add _ _]; exact xv_ixN (k := 7 * k + 3) (m := L) (by omega) (by omega)) rfl rfl ?_
  refine xi_aload_n (q := 984) dL_law_983 rfl rfl ?_
  refine xi_iload_n (q := 985) dL_law_984 rfl rfl ?_
  refine xi_iconst (x := 4) (q := 986) dL_law_985 (by decide) rfl ?_
  refine xi_iadd (q := 987) dL_law_986 rfl ?_
  refine xi_roald (j := 6) (w := (L, xs)) (q := 988) dL_law_987 rfl (by rw [show (nI (7 * k) + 4 : Int32) = nI (7 * k + 4) from nI_add _ _]; exact xv_ixN (k := 7 * k + 4) (m := L) (by omega) (by omega)) rfl rfl ?_
  refine xi_aload_n (q := 989) dL_law_988 rfl rfl ?_
  refine xi_iload_n (q := 990) dL_law_989 rfl rfl ?_
  refine xi_iconst (x := 5) (q := 991) dL_law_990 (by decide) rfl ?_
  refine xi_iadd (q := 992) dL_law_991 rfl ?_
  refine xi_roald (j := 6) (w := (L, xs)) (q := 993) dL_law_992 rfl (by rw [show (nI (7 * k) + 5 : Int32) = nI (7 * k + 5) from nI_add _ _]; exact xv_ixN (k := 7 * k + 5) (m := L) (by omega) (by omega)) rfl rfl ?_
  refine xi_aload_n (q := 994) dL_law_993 rfl rfl ?_
  refine xi_iload_n (q := 995) dL_law_994 rfl rfl ?_
  refine xi_bipush (x := 6) (q := 997) dL_law_995 (by decide) rfl ?_
  refine xi_iadd (q := 998) dL_law_997 rfl ?_
  refine xi_roald (j := 6) (w := (L, xs)) (q := 999) dL_law_998 rfl (by rw [show (nI (7 * k) + 6 : Int32) = nI (7 * k + 6) from nI_add _ _]; exact xv_ixN (k := 7 * k + 6) (m := L) (by omega) (by omega)) rfl rfl ?_
  refine xv_cV6 (q := 1002) xm_X9_look ln_L_94 dL_law_999 ⟨by omega, xs_M83 hM⟩ rfl ⟨(Nat.le_of_ble_eq_true rfl), (Nat.le_of_ble_eq_true rfl)⟩ (Nat.le_of_ble_eq_true rfl) ⟨rfl, rfl⟩ rfl (Nat.le_of_ble_eq_true rfl) (Nat.le_of_ble_eq_true rfl) ?_
  refine ⟨σ, _, _, _, _, _, _, rfl, Ma, by omega, hVV.1.1, fun hb Mb Fb => ?_⟩
  have Sb := xs_Sk Sa (fun i hi => Fb i (Or.inl hi))
  refine xi_icmp_eq (q := 1005) (q2 := 1693) dL_law_1002 (by decide) rfl (fun c_1002 => ?_) (fun c_1002 => ?_)
  · exact K hb _ Sb Mb (xq_look hVV _ _ _ _ _ _)
  · exact absurd rfl c_1002
set_option maxRecDepth 20000 in
set_option maxHeartbeats 2000000 in
/-- work -/
theorem xl_c19 {L : Nat} {xs : Nat → Int32} {k : Nat} {h : xv_H} {σ : xs_Sg} (hL : L ≤ 3584) (hk : 7 * k + 7 ≤ L) (hS : xs_S h σ) (hMo : xs_Mo h σ) (hVV : xs_VV σ) (K : ∀ (hb : xv_H) (σ' : xs_Sg), xs_S hb σ' → xs_Mo hb σ' → xs_VV σ' → xv_V (L, xs) mL_law xl_P 104 25323 1693 [(0, .ref 1006), (1, .ref 0), (2, .ref 83), (3, .int (nI (7 * k)))] [] hb 104) : xv_V (L, xs) mL_law xl_P 104 25323 1007 [(0, .ref 1006), (1, .ref 0), (2, .ref 83), (3, .int (nI (7 * k)))] [] h 104 := by
  refine xi_aload_n (q := 1008) dL_law_1007 rfl rfl ?_
  refine xi_aload_n (q := 1009) dL_law_1008 rfl rfl ?_
  refine xi_iload_n (q := 1010) dL_law_1009 rfl rfl ?_
  refine xi_iconst (x := 1) (q := 1011) dL_law_1010 (by decide) rfl ?_
  refine xi_iadd (q := 1012) dL_law_1011 rfl ?_
  refine xi_roald (j := 6) (w := (L, xs)) (q := 1013) dL_law_1012 rfl (by rw [show (nI (7 * k) + 1 : Int32) = nI (7 * k + 1) from nI_add _ _]; exact xv_ixN (k := 7 * k + 1) (m := L) (by omega) (by omega)) rfl rfl ?_
  refine xi_aload_n (q := 1014) dL_law_1013 rfl rfl ?_
  refine xi_iload_n (q := 1015) dL_law_1014 rfl rfl ?_
  refine xi_iconst (x := 2) (q := 1016) dL_law_1015 (by decide) rfl ?_
  refine xi_iadd (q := 1017) dL_law_1016 rfl ?_
  refine xi_roald (j := 6) (w := (L, xs)) (q := 1018) dL_law_1017 rfl (by rw [show (nI (7 * k) + 2 : Int32) = nI (7 * k + 2) from nI_add _ _]; exact xv_ixN (k := 7 * k + 2) (m := L) (by omega) (by omega)) rfl rfl ?_
  refine xi_aload_n (q := 1019) dL_law_1018 rfl rfl ?_
  refine xi_iload_n (q := 1020) dL_law_1019 rfl rfl ?_
  refine xi_iconst (x := 3) (q := 1021) dL_law_1020 (by decide) rfl ?_
  refine xi_iadd (q := 1022) dL_law_1021 rfl ?_
  refine xi_roald (j := 6) (w := (L, xs)) (q := 1023) dL_law_1022 rfl (by rw [show (nI (7 * k) + 3 : Int32) = nI (7 * k + 3) from nI_add _ _]; exact xv_ixN (k := 7 * k + 3) (m := L) (by omega) (by omega)) rfl rfl ?_
  refine xi_aload_n (q := 1024) dL_law_1023 rfl rfl ?_
  refine xi_iload_n (q := 1025) dL_law_1024 rfl rfl ?_
  refine xi_iconst (x := 4) (q := 1026) dL_law_1025 (by decide) rfl ?_
  refine xi_iadd (q := 1027) dL_law_1026 rfl ?_
  refine xi_roald (j := 6) (w := (L, xs)) (q := 1028) dL_law_1027 rfl (by rw [show (nI (7 * k) + 4 : Int32) = nI (7 * k + 4) from nI_add _ _]; exact xv_ixN (k := 7 * k + 4) (m := L) (by omega) (by omega)) rfl rfl ?_
  refine xi_aload_n (q := 1029) dL_law_1028 rfl rfl ?_
  refine xi_iload_n (q := 1030) dL_law_1029 rfl rfl ?_
  refine xi_iconst (x := 5) (q := 1031) dL_law_1030 (by decide) rfl ?_
  refine xi_iadd (q := 1032) dL_law_1031 rfl ?_
  refine xi_roald (j := 6) (w := (L, xs)) (q := 1033) dL_law_1032 rfl (by rw [show (nI (7 * k) + 5 : Int32) = nI (7 * k + 5) from nI_add _ _]; exact xv_ixN (k := 7 * k + 5) (m := L) (by omega) (by omega)) rfl rfl ?_
  refine xv_cV5 (q := 1036) xm_X8_work ln_L_95 dL_law_1033 ⟨by omega, hS.1.1⟩ rfl ⟨(Nat.le_of_ble_eq_true rfl), (Nat.le_of_ble_eq_true rfl)⟩ (Nat.le_of_ble_eq_true rfl) ⟨rfl, rfl⟩ rfl (Nat.le_of_ble_eq_true rfl) (Nat.le_of_ble_eq_true rfl) ?_
  refine ⟨σ, _, _, _, _, _, rfl, hS, by omega, hVV.1.1, fun ha Sa Fa => ?_⟩
  have Ma : xs_Mo ha σ := xs_Mok hMo Fa
  obtain ⟨C, dk, hM, hR⟩ := id Ma
  refine xi_aload_n (q := 1037) dL_law_1036 rfl rfl ?_
  refine xi_aload_n (q := 1038) dL_law_1037 rfl rfl ?_
  refine xi_iload_n (q := 1039) dL_law_1038 rfl rfl ?_
  refine xi_iconst (x := 1) (q := 1040) dL_law_1039 (by decide) rfl ?_
  refine xi_iadd (q := 1041) dL_law_1040 rfl ?_
  refine xi_roald (j := 6) (w := (L, xs)) (q := 1042) dL_law_1041 rfl (by rw [show (nI (7 * k) + 1 : Int32) = nI (7 * k + 1) from nI_add _ _]; exact xv_ixN (k := 7 * k + 1) (m := L) (by omega) (by omega)) rfl rfl ?_
  refine xi_aload_n (q := 1043) dL_law_1042 rfl rfl ?_
  refine xi_iload_n (q := 1044) dL_law_1043 rfl rfl ?_
  refine xi_iconst (x := 2) (q := 1045) dL_law_1044 (by decide) rfl ?_
  refine xi_iadd (q := 1046) dL_law_1045 rfl ?_
  refine xi_roald (j := 6) (w := (L, xs)) (q := 1047) dL_law_1046 rfl (by rw [show (nI (7 * k) + 2 : Int32) = nI (7 * k + 2) from nI_add _ _]; exact xv_ixN (k := 7 * k + 2) (m := L) (by omega) (by omega)) rfl rfl ?_
  refine xi_aload_n (q := 1048) dL_law_1047 rfl rfl ?_
  refine xi_iload_n (q := 1049) dL_law_1048 rfl rfl ?_
  refine xi_iconst (x := 3) (q := 1050) dL_law_1049 (by decide) rfl ?_
  refine xi_iadd (q := 1051) dL_law_1050 rfl ?_
  refine xi_roald (j := 6) (w := (L, xs)) (q := 1052) dL_law_1051 rfl (by rw [show (nI (7 * k) + 3 : Int32) = nI (7 * k + 3) from nI_add _ _]; exact xv_ixN (k := 7 * k + 3) (m := L) (by omega) (by omega)) rfl rfl ?_
  refine xi_aload_n (q := 1053) dL_law_1052 rfl rfl ?_
  refine xi_iload_n (q := 1054) dL_law_1053 rfl rfl ?_
  refine xi_iconst (x := 4) (q := 1055) dL_law_1054 (by decide) rfl ?_
  refine xi_iadd (q := 1056) dL_law_1055 rfl ?_
  refine xi_roald (j := 6) (w := (L, xs)) (q := 1057) dL_law_1056 rfl (by rw [show (nI (7 * k) + 4 : Int32) = nI (7 * k + 4) from nI_add _ _]; exact xv_ixN (k := 7 * k + 4) (m := L) (by omega) (by omega)) rfl rfl ?_
  refine xi_aload_n (q := 1058) dL_law_1057 rfl rfl ?_
  refine xi_iload_n (q := 1059) dL_law_1058 rfl rfl ?_
  refine xi_iconst (x := 5) (q := 1060) dL_law_1059 (by decide) rfl ?_
  refine xi_iadd (q := 1061) dL_law_1060 rfl ?_
  refine xi_roald (j := 6) (w := (L, xs)) (q := 1062) dL_law_1061 rfl (by rw [show (nI (7 * k) + 5 : Int32) = nI (7 * k + 5) from nI_add _ _]; exact xv_ixN (k := 7 * k + 5) (m := L) (by omega) (by omega)) rfl rfl ?_
  refine xv_cV5 (q := 1065) xm_X9_work ln_L_98 dL_law_1062 ⟨by omega, xs_M83 hM⟩ rfl ⟨(Nat.le_of_ble_eq_true rfl), (Nat.le_of_ble_eq_true rfl)⟩ (Nat.le_of_ble_eq_true rfl) ⟨rfl, rfl⟩ rfl (Nat.le_of_ble_eq_true rfl) (Nat.le_of_ble_eq_true rfl) ?_
  refine ⟨σ, _, _, _, _, _, rfl, Ma, by omega, hVV.1.1, fun hb Mb Fb => ?_⟩
  have Sb := xs_Sk Sa (fun i hi => Fb i (Or.inl hi))
  refine xi_icmp_eq (q := 1068) (q2 := 1693) dL_law_1065 (by decide) rfl (fun c_1065 => ?_) (fun c_1065 => ?_)
  · exact K hb _ Sb Mb (xq_work hVV _ _ _ _ _)
  · exact absurd rfl c_1065
set_option maxRecDepth 20000 in
set_option maxHeartbeats 2000000 in
/-- find -/
theorem xl_c20 {L : Nat} {xs : Nat → Int32} {k : Nat} {h : xv_H} {σ : xs_Sg} (hL : L ≤ 3584) (hk : 7 * k + 7 ≤ L) (hS : xs_S h σ) (hMo : xs_Mo h σ) (hVV : xs_VV σ) (K : ∀ (hb : xv_H) (σ' : xs_Sg), xs_S hb σ' → xs_Mo hb σ' → xs_VV σ' → xv_V (L, xs) mL_law xl_P 104 25323 1693 [(0, .ref 1006), (1, .ref 0), (2, .ref 83), (3, .int (nI (7 * k)))] [] hb 104) : xv_V (L, xs) mL_law xl_P 104 25323 1070 [(0, .ref 1006), (1, .ref 0), (2, .ref 83), (3, .int (nI (7 * k)))] [] h 104 := by
  refine xi_aload_n (q := 1071) dL_law_1070 rfl rfl ?_
  refine xi_aload_n (q := 1072) dL_law_1071 rfl rfl ?_
  refine xi_iload_n (q := 1073) dL_law_1072 rfl rfl ?_
  refine xi_iconst (x := 1) (q := 1074) dL_law_1073 (by decide) rfl ?_
  refine xi_iadd (q := 1075) dL_law_1074 rfl ?_
  refine xi_roald (j := 6) (w := (L, xs)) (q := 1076) dL_law_1075 rfl (by rw [show (nI (7 * k) + 1 : Int32) = nI (7 * k + 1) from nI_add _ _]; exact xv_ixN (k := 7 * k + 1) (m := L) (by omega) (by omega)) rfl rfl ?_
  refine xi_aload_n (q := 1077) dL_law_1076 rfl rfl ?_
  refine xi_iload_n (q := 1078) dL_law_1077 rfl rfl ?_
  refine xi_iconst (x := 2) (q := 1079) dL_law_1078 (by decide) rfl ?_
  refine xi_iadd (q := 1080) dL_law_1079 rfl ?_
  refine xi_roald (j := 6) (w := (L, xs)) (q := 1081) dL_law_1080 rfl (by rw [show (nI (7 * k) + 2 : Int32) = nI (7 * k + 2) from nI_add _ _]; exact xv_ixN (k := 7 * k + 2) (m := L) (by omega) (by omega)) rfl rfl ?_
  refine xi_aload_n (q := 1082) dL_law_1081 rfl rfl ?_
  refine xi_iload_n (q := 1083) dL_law_1082 rfl rfl ?_
  refine xi_iconst (x := 3) (q := 1084) dL_law_1083 (by decide) rfl ?_
  refine xi_iadd (q := 1085) dL_law_1084 rfl ?_
  refine xi_roald (j := 6) (w := (L, xs)) (q := 1086) dL_law_1085 rfl (by rw [show (nI (7 * k) + 3 : Int32) = nI (7 * k + 3) from nI_add _ _]; exact xv_ixN (k := 7 * k + 3) (m := L) (by omega) (by omega)) rfl rfl ?_
  refine xi_aload_n (q := 1087) dL_law_1086 rfl rfl ?_
  refine xi_iload_n (q := 1088) dL_law_1087 rfl rfl ?_
  refine xi_iconst (x := 4) (q := 1089) dL_law_1088 (by decide) rfl ?_
  refine xi_iadd (q := 1090) dL_law_1089 rfl ?_
  refine xi_roald (j := 6) (w := (L, xs)) (q := 1091) dL_law_1090 rfl (by rw [show (nI (7 * k) + 4 : Int32) = nI (7 * k + 4) from nI_add _ _]; exact xv_ixN (k := 7 * k + 4) (m := L) (by omega) (by omega)) rfl rfl ?_
  refine xi_aload_n (q := 1092) dL_law_1091 rfl rfl ?_
  refine xi_iload_n (q := 1093) dL_law_1092 rfl rfl ?_
  refine xi_iconst (x := 5) (q := 1094) dL_law_1093 (by decide) rfl ?_
  refine xi_iadd (q := 1095) dL_law_1094 rfl ?_
  refine xi_roald (j := 6) (w := (L, xs)) (q := 1096) dL_law_1095 rfl (by rw [show (nI (7 * k) + 5 : Int32) = nI (7 * k + 5) from nI_add _ _]; exact xv_ixN (k := 7 * k + 5) (m := L) (by omega) (by omega)) rfl rfl ?_
  refine xv_cV5 (q := 1099) xm_X8_find ln_L_99 dL_law_1096 ⟨by omega, hS.1.1⟩ rfl ⟨(Nat.le_of_ble_eq_true rfl), (Nat.le_of_ble_eq_true rfl)⟩ (Nat.le_of_ble_eq_true rfl) ⟨rfl, rfl⟩ rfl (Nat.le_of_ble_eq_true rfl) (Nat.le_of_ble_eq_true rfl) ?_
  refine ⟨σ, _, _, _, _, _, rfl, hS, by omega, hVV.1.1, fun ha Sa Fa => ?_⟩
  have Ma : xs_Mo ha σ := xs_Mok hMo Fa
  obtain ⟨C, dk, hM, hR⟩ := id Ma
  refine xi_aload_n (q := 1100) dL_law_1099 rfl rfl ?_
  refine xi_aload_n (q := 1101) dL_law_1100 rfl rfl ?_
  refine xi_iload_n (q := 1102) dL_law_1101 rfl rfl ?_
  refine xi_iconst (x := 1) (q := 1103) dL_law_1102 (by decide) rfl ?_
  refine xi_iadd (q := 1104) dL_law_1103 rfl ?_
  refine xi_roald (j := 6) (w := (L, xs)) (q := 1105) dL_law_1104 rfl (by rw [show (nI (7 * k) + 1 : Int32) = nI (7 * k + 1) from nI_add _ _]; exact xv_ixN (k := 7 * k + 1) (m := L) (by omega) (by omega)) rfl rfl ?_
  refine xi_aload_n (q := 1106) dL_law_1105 rfl rfl ?_
  refine xi_iload_n (q := 1107) dL_law_1106 rfl rfl ?_
  refine xi_iconst (x := 2) (q := 1108) dL_law_1107 (by decide) rfl ?_
  refine xi_iadd (q := 1109) dL_law_1108 rfl ?_
  refine xi_roald (j := 6) (w := (L, xs)) (q := 1110) dL_law_1109 rfl (by rw [show (nI (7 * k) + 2 : Int32) = nI (7 * k + 2) from nI_add _ _]; exact xv_ixN (k := 7 * k + 2) (m := L) (by omega) (by omega)) rfl rfl ?_
  refine xi_aload_n (q := 1111) dL_law_1110 rfl rfl ?_
  refine xi_iload_n (q := 1112) dL_law_1111 rfl rfl ?_
  refine xi_iconst (x := 3) (q := 1113) dL_law_1112 (by decide) rfl ?_
  refine xi_iadd (q := 1114) dL_law_1113 rfl ?_
  refine xi_roald (j := 6) (w := (L, xs)) (q := 1115) dL_law_1114 rfl (by rw [show (nI (7 * k) + 3 : Int32) = nI (7 * k + 3) from nI_add _ _]; exact xv_ixN (k := 7 * k + 3) (m := L) (by omega) (by omega)) rfl rfl ?_
  refine xi_aload_n (q := 1116) dL_law_1115 rfl rfl ?_
  refine xi_iload_n (q := 1117) dL_law_1116 rfl rfl ?_
  refine xi_iconst (x := 4) (q := 1118) dL_law_1117 (by decide) rfl ?_
  refine xi_iadd (q := 1119) dL_law_1118 rfl ?_
  refine xi_roald (j := 6) (w := (L, xs)) (q := 1120) dL_law_1119 rfl (by rw [show (nI (7 * k) + 4 : Int32) = nI (7 * k + 4) from nI_add _ _]; exact xv_ixN (k := 7 * k + 4) (m := L) (by omega) (by omega)) rfl rfl ?_
  refine xi_aload_n (q := 1121) dL_law_1120 rfl rfl ?_
  refine xi_iload_n (q := 1122) dL_law_1121 rfl rfl ?_
  refine xi_iconst (x := 5) (q := 1123) dL_law_1122 (by decide) rfl ?_
  refine xi_iadd (q := 1124) dL_law_1123 rfl ?_
  refine xi_roald (j := 6) (w := (L, xs)) (q := 1125) dL_law_1124 rfl (by rw [show (nI (7 * k) + 5 : Int32) = nI (7 * k + 5) from nI_add _ _]; exact xv_ixN (k := 7 * k + 5) (m := L) (by omega) (by omega)) rfl rfl ?_
  refine xv_cV5 (q := 1128) xm_X9_find ln_L_102 dL_law_1125 ⟨by omega, xs_M83 hM⟩ rfl ⟨(Nat.le_of_ble_eq_true rfl), (Nat.le_of_ble_eq_true rfl)⟩ (Nat.le_of_ble_eq_true rfl) ⟨rfl, rfl⟩ rfl (Nat.le_of_ble_eq_true rfl) (Nat.le_of_ble_eq_true rfl) ?_
  refine ⟨σ, _, _, _, _, _, rfl, Ma, by omega, hVV.1.1, fun hb Mb Fb => ?_⟩
  have Sb := xs_Sk Sa (fun i hi => Fb i (Or.inl hi))
  refine xi_icmp_eq (q := 1131) (q2 := 1693) dL_law_1128 (by decide) rfl (fun c_1128 => ?_) (fun c_1128 => ?_)
  · exact K hb _ Sb Mb (xq_find1 hVV _ _ _ _ _)
  · exact absurd rfl c_1128
set_option maxRecDepth 20000 in
set_option maxHeartbeats 2000000 in
/-- misfit -/
theorem xl_c21 {L : Nat} {xs : Nat → Int32} {k : Nat} {h : xv_H} {σ : xs_Sg} (hL : L ≤ 3584) (hk : 7 * k + 7 ≤ L) (hS : xs_S h σ) (hMo : xs_Mo h σ) (hVV : xs_VV σ) (K : ∀ (hb : xv_H) (σ' : xs_Sg), xs_S hb σ' → xs_Mo hb σ' → xs_VV σ' → xv_V (L, xs) mL_law xl_P 104 25323 1693 [(0, .ref 1006), (1, .ref 0), (2, .ref 83), (3, .int (nI (7 * k)))] [] hb 104) : xv_V (L, xs) mL_law xl_P 104 25323 1133 [(0, .ref 1006), (1, .ref 0), (2, .ref 83), (3, .int (nI (7 * k)))] [] h 104 := by
  refine xi_aload_n (q := 1134) dL_law_1133 rfl rfl ?_
  refine xi_aload_n (q := 1135) dL_law_1134 rfl rfl ?_
  refine xi_iload_n (q := 1136) dL_law_1135 rfl rfl ?_
  refine xi_iconst (x := 1) (q := 1137) dL_law_1136 (by decide) rfl ?_
  refine xi_iadd (q := 1138) dL_law_1137 rfl ?_
  refine xi_roald (j := 6) (w := (L, xs)) (q := 1139) dL_law_1138 rfl (by rw [show (nI (7 * k) + 1 : Int32) = nI (7 * k + 1) from nI_add _ _]; exact xv_ixN (k := 7 * k + 1) (m := L) (by omega) (by omega)) rfl rfl ?_
  refine xi_aload_n (q := 1140) dL_law_1139 rfl rfl ?_
  refine xi_iload_n (q := 1141) dL_law_1140 rfl rfl ?_
  refine xi_iconst (x := 2) (q := 1142) dL_law_1141 (by decide) rfl ?_
  refine xi_iadd (q := 1143) dL_law_1142 rfl ?_
  refine xi_roald (j := 6) (w := (L, xs)) (q := 1144) dL_law_1143 rfl (by rw [show (nI (7 * k) + 2 : Int32) = nI (7 * k + 2) from nI_add _ _]; exact xv_ixN (k := 7 * k + 2) (m := L) (by omega) (by omega)) rfl rfl ?_
  refine xv_cV2 (q := 1147) xm_X8_misfit ln_L_103 dL_law_1144 ⟨by omega, hS.1.1⟩ rfl ⟨(Nat.le_of_ble_eq_true rfl), (Nat.le_of_ble_eq_true rfl)⟩ (Nat.le_of_ble_eq_true rfl) ⟨rfl, rfl⟩ rfl (Nat.le_of_ble_eq_true rfl) (Nat.le_of_ble_eq_true rfl) ?_
  refine ⟨σ, _, _, rfl, hS, by omega, hVV.1.1, fun ha Sa Fa => ?_⟩
  have Ma : xs_Mo ha σ := xs_Mok hMo Fa
  obtain ⟨C, dk, hM, hR⟩ := id Ma
  refine xi_aload_n (q := 1148) dL_law_1147 rfl rfl ?_
  refine xi_aload_n (q := 1149) dL_law_1148 rfl rfl ?_
  refine xi_iload_n (q := 1150) dL_law_1149 rfl rfl ?_
  refine xi_iconst (x := 1) (q := 1151) dL_law_1150 (by decide) rfl ?_
  refine xi_iadd (q := 1152) dL_law_1151 rfl ?_
  refine xi_roald (j := 6) (w := (L, xs)) (q := 1153) dL_law_1152 rfl (by rw [show (nI (7 * k) + 1 : Int32) = nI (7 * k + 1) from nI_add _ _]; exact xv_ixN (k := 7 * k + 1) (m := L) (by omega) (by omega)) rfl rfl ?_
  refine xi_aload_n (q := 1154) dL_law_1153 rfl rfl ?_
  refine xi_iload_n (q := 1155) dL_law_1154 rfl rfl ?_
  refine xi_iconst (x := 2) (q := 1156) dL_law_1155 (by decide) rfl ?_
  refine xi_iadd (q := 1157) dL_law_1156 rfl ?_
  refine xi_roald (j := 6) (w := (L, xs)) (q := 1158) dL_law_1157 rfl (by rw [show (nI (7 * k) + 2 : Int32) = nI (7 * k + 2) from nI_add _ _]; exact xv_ixN (k := 7 * k + 2) (m := L) (by omega) (by omega)) rfl rfl ?_
  refine xv_cV2 (q := 1161) xm_X9_misfit ln_L_106 dL_law_1158 ⟨by omega, xs_M83 hM⟩ rfl ⟨(Nat.le_of_ble_eq_true rfl), (Nat.le_of_ble_eq_true rfl)⟩ (Nat.le_of_ble_eq_true rfl) ⟨rfl, rfl⟩ rfl (Nat.le_of_ble_eq_true rfl) (Nat.le_of_ble_eq_true rfl) ?_
  refine ⟨σ, _, _, rfl, Ma, by omega, hVV.1.1, fun hb Mb Fb => ?_⟩
  have Sb := xs_Sk Sa (fun i hi => Fb i (Or.inl hi))
  refine xi_icmp_eq (q := 1164) (q2 := 1693) dL_law_1161 (by decide) rfl (fun c_1161 => ?_) (fun c_1161 => ?_)
  · exact K hb _ Sb Mb (xq_misfit hVV _ _)
  · exact absurd rfl c_1161
set_option maxRecDepth 20000 in
set_option maxHeartbeats 2000000 in
/-- named -/
theorem xl_c22 {L : Nat} {xs : Nat → Int32} {k : Nat} {h : xv_H} {σ : xs_Sg} (hL : L ≤ 3584) (hk : 7 * k + 7 ≤ L) (hS : xs_S h σ) (hMo : xs_Mo h σ) (hVV : xs_VV σ) (K : ∀ (hb : xv_H) (σ' : xs_Sg), xs_S hb σ' → xs_Mo hb σ' → xs_VV σ' → xv_V (L, xs) mL_law xl_P 104 25323 1693 [(0, .ref 1006), (1, .ref 0), (2, .ref 83), (3, .int (nI (7 * k)))] [] hb 104) : xv_V (L, xs) mL_law xl_P 104 25323 1166 [(0, .ref 1006), (1, .ref 0), (2, .ref 83), (3, .int (nI (7 * k)))] [] h 104 := by
  refine xi_aload_n (q := 1167) dL_law_1166 rfl rfl ?_
  refine xi_aload_n (q := 1168) dL_law_1167 rfl rfl ?_
  refine xi_iload_n (q := 1169) dL_law_1168 rfl rfl ?_
  refine xi_iconst (x := 1) (q := 1170) dL_law_1169 (by decide) rfl ?_
  refine xi_iadd (q := 1171) dL_law_1170 rfl ?_
  refine xi_roald (j := 6) (w := (L, xs)) (q := 1172) dL_law_1171 rfl (by rw [show (nI (7 * k) + 1 : Int32) = nI (7 * k + 1) from nI_add _ _]; exact xv_ixN (k := 7 * k + 1) (m := L) (by omega) (by omega)) rfl rfl ?_
  refine xi_aload_n (q := 1173) dL_law_1172 rfl rfl ?_
  refine xi_iload_n (q := 1174) dL_law_1173 rfl rfl ?_
  refine xi_iconst (x := 2) (q := 1175) dL_law_1174 (by decide) rfl ?_
  refine xi_iadd (q := 1176) dL_law_1175 rfl ?_
  refine xi_roald (j := 6) (w := (L, xs)) (q := 1177) dL_law_1176 rfl (by rw [show (nI (7 * k) + 2 : Int32) = nI (7 * k + 2) from nI_add _ _]; exact xv_ixN (k := 7 * k + 2) (m := L) (by omega) (by omega)) rfl rfl ?_
  refine xi_aload_n (q := 1178) dL_law_1177 rfl rfl ?_
  refine xi_iload_n (q := 1179) dL_law_1178 rfl rfl ?_
  refine xi_iconst (x := 3) (q := 1180) dL_law_1179 (by decide) rfl ?_
  refine xi_iadd (q := 1181) dL_law_1180 rfl ?_
  refine xi_roald (j := 6) (w := (L, xs)) (q := 1182) dL_law_1181 rfl (by rw [show (nI (7 * k) + 3 : Int32) = nI (7 * k + 3) from nI_add _ _]; exact xv_ixN (k := 7 * k + 3) (m := L) (by omega) (by omega)) rfl rfl ?_
  refine xv_cV3 (q := 1185) xm_X8_named ln_L_107 dL_law_1182 ⟨by omega, hS.1.1⟩ rfl ⟨(Nat.le_of_ble_eq_true rfl), (Nat.le_of_ble_eq_true rfl)⟩ (Nat.le_of_ble_eq_true rfl) ⟨rfl, rfl⟩ rfl (Nat.le_of_ble_eq_true rfl) (Nat.le_of_ble_eq_true rfl) ?_
  refine ⟨σ, _, _, _, rfl, hS, by omega, hVV.1.1, fun ha Sa Fa => ?_⟩
  have Ma : xs_Mo ha σ := xs_Mok hMo Fa
  obtain ⟨C, dk, hM, hR⟩ := id Ma
  refine xi_aload_n (q := 1186) dL_law_1185 rfl rfl ?_
  refine xi_aload_n (q := 1187) dL_law_1186 rfl rfl ?_
  refine xi_iload_n (q := 1188) dL_law_1187 rfl rfl ?_
  refine xi_iconst (x := 1) (q := 1189) dL_law_1188 (by decide) rfl ?_
  refine xi_iadd (q := 1190) dL_law_1189 rfl ?_
  refine xi_roald (j := 6) (w := (L, xs)) (q := 1191) dL_law_1190 rfl (by rw [show (nI (7 * k) + 1 : Int32) = nI (7 * k + 1) from nI_add _ _]; exact xv_ixN (k := 7 * k + 1) (m := L) (by omega) (by omega)) rfl rfl ?_
  refine xi_aload_n (q := 1192) dL_law_1191 rfl rfl ?_
  refine xi_iload_n (q := 1193) dL_law_1192 rfl rfl ?_
  refine xi_iconst (x := 2) (q := 1194) dL_law_1193 (by decide) rfl ?_
  refine xi_iadd (q := 1195) dL_law_1194 rfl ?_
  refine xi_roald (j := 6) (w := (L, xs)) (q := 1196) dL_law_1195 rfl (by rw [show (nI (7 * k) + 2 : Int32) = nI (7 * k + 2) from nI_add _ _]; exact xv_ixN (k := 7 * k + 2) (m := L) (by omega) (by omega)) rfl rfl ?_
  refine xi_aload_n (q := 1197) dL_law_1196 rfl rfl ?_
  refine xi_iload_n (q := 1198) dL_law_1197 rfl rfl ?_
  refine xi_iconst (x := 3) (q := 1199) dL_law_1198 (by decide) rfl ?_
  refine xi_iadd (q := 1200) dL_law_1199 rfl ?_
  refine xi_roald (j := 6) (w := (L, xs)) (q := 1201) dL_law_1200 rfl (by rw [show (nI (7 * k) + 3 : Int32) = nI (7 * k + 3) from nI_add _ _]; exact xv_ixN (k := 7 * k + 3) (m := L) (by omega) (by omega)) rfl rfl ?_
  refine xv_cV3 (q := 1204) xm_X9_named ln_L_110 dL_law_1201 ⟨by omega, xs_M83 hM⟩ rfl ⟨(Nat.le_of_ble_eq_true rfl), (Nat.le_of_ble_eq_true rfl)⟩ (Nat.le_of_ble_eq_true rfl) ⟨rfl, rfl⟩ rfl (Nat.le_of_ble_eq_true rfl) (Nat.le_of_ble_eq_true rfl) ?_
  refine ⟨σ, _, _, _, rfl, Ma, by omega, hVV.1.1, fun hb Mb Fb => ?_⟩
  have Sb := xs_Sk Sa (fun i hi => Fb i (Or.inl hi))
  refine xi_icmp_eq (q := 1207) (q2 := 1693) dL_law_1204 (by decide) rfl (fun c_1204 => ?_) (fun c_1204 => ?_)
  · exact K hb _ Sb Mb (xq_named hVV _ _ _)
  · exact absurd rfl c_1204
set_option maxRecDepth 20000 in
set_option maxHeartbeats 2000000 in
/-- whose -/
theorem xl_c23 {L : Nat} {xs : Nat → Int32} {k : Nat} {h : xv_H} {σ : xs_Sg} (hL : L ≤ 3584) (hk : 7 * k + 7 ≤ L) (hS : xs_S h σ) (hMo : xs_Mo h σ) (hVV : xs_VV σ) (K : ∀ (hb : xv_H) (σ' : xs_Sg), xs_S hb σ' → xs_Mo hb σ' → xs_VV σ' → xv_V (L, xs) mL_law xl_P 104 25323 1693 [(0, .ref 1006), (1, .ref 0), (2, .ref 83), (3, .int (nI (7 * k)))] [] hb 104) : xv_V (L, xs) mL_law xl_P 104 25323 1209 [(0, .ref 1006), (1, .ref 0), (2, .ref 83), (3, .int (nI (7 * k)))] [] h 104 := by
  refine xi_aload_n (q := 1210) dL_law_1209 rfl rfl ?_
  refine xi_aload_n (q := 1211) dL_law_1210 rfl rfl ?_
  refine xi_iload_n (q := 1212) dL_law_1211 rfl rfl ?_
  refine xi_iconst (x := 1) (q := 1213) dL_law_1212 (by decide) rfl ?_
  refine xi_iadd (q := 1214) dL_law_1213 rfl ?_
  refine xi_roald (j := 6) (w := (L, xs)) (q := 1215) dL_law_1214 rfl (by rw [show (nI (7 * k) + 1 : Int32) = nI (7 * k + 1) from nI_add _ _]; exact xv_ixN (k := 7 * k + 1) (m := L) (by omega) (by omega)) rfl rfl ?_
  refine xi_aload_n (q := 1216) dL_law_1215 rfl rfl ?_
  refine xi_iload_n (q := 1217) dL_law_1216 rfl rfl ?_
  refine xi_iconst (x := 2) (q := 1218) dL_law_1217 (by decide) rfl ?_
  refine xi_iadd (q := 1219) dL_law_1218 rfl ?_
  refine xi_roald (j := 6) (w := (L, xs)) (q := 1220) dL_law_1219 rfl (by rw [show (nI (7 * k) + 2 : Int32) = nI (7 * k + 2) from nI_add _ _]; exact xv_ixN (k := 7 * k + 2) (m := L) (by omega) (by omega)) rfl rfl ?_
  refine xi_aload_n (q := 1221) dL_law_1220 rfl rfl ?_
  refine xi_iload_n (q := 1222) dL_law_1221 rfl rfl ?_
  refine xi_iconst (x := 3) (q := 1223) dL_law_1222 (by decide) rfl ?_
  refine xi_iadd (q := 1224) dL_law_1223 rfl ?_
  refine xi_roald (j := 6) (w := (L, xs)) (q := 1225) dL_law_1224 rfl (by rw [show (nI (7 * k) + 3 : Int32) = nI (7 * k + 3) from nI_add _ _]; exact xv_ixN (k := 7 * k + 3) (m := L) (by omega) (by omega)) rfl rfl ?_
  refine xi_aload_n (q := 1226) dL_law_1225 rfl rfl ?_
  refine xi_iload_n (q := 1227) dL_law_1226 rfl rfl ?_
  refine xi_iconst (x := 4) (q := 1228) dL_law_1227 (by decide) rfl ?_
  refine xi_iadd (q := 1229) dL_law_1228 rfl ?_
  refine xi_roald (j := 6) (w := (L, xs)) (q := 1230) dL_law_1229 rfl (by rw [show (nI (7 * k) + 4 : Int32) = nI (7 * k + 4) from nI_add _ _]; exact xv_ixN (k := 7 * k + 4) (m := L) (by omega) (by omega)) rfl rfl ?_
  refine xv_cV4 (q := 1233) xm_X8_whose ln_L_111 dL_law_1230 ⟨by omega, hS.1.1⟩ rfl ⟨(Nat.le_of_ble_eq_true rfl), (Nat.le_of_ble_eq_true rfl)⟩ (Nat.le_of_ble_eq_true rfl) ⟨rfl, rfl⟩ rfl (Nat.le_of_ble_eq_true rfl) (Nat.le_of_ble_eq_true rfl) ?_
  refine ⟨σ, _, _, _, _, rfl, hS, by omega, hVV.1.1, fun ha Sa Fa => ?_⟩
  have Ma : xs_Mo ha σ := xs_Mok hMo Fa
  obtain ⟨C, dk, hM, hR⟩ := id Ma
  refine xi_aload_n (q := 1234) dL_law_1233 rfl rfl ?_
  refine xi_aload_n (q := 1235) dL_law_1234 rfl rfl ?_
  refine xi_iload_n (q := 1236) dL_law_1235 rfl rfl ?_
  refine xi_iconst (x := 1) (q := 1237) dL_law_1236 (by decide) rfl ?_
  refine xi_iadd (q := 1238) dL_law_1237 rfl ?_
  refine xi_roald (j := 6) (w := (L, xs)) (q := 1239) dL_law_1238 rfl (by rw [show (nI (7 * k) + 1 : Int32) = nI (7 * k + 1) from nI_add _ _]; exact xv_ixN (k := 7 * k + 1) (m := L) (by omega) (by omega)) rfl rfl ?_
  refine xi_aload_n (q := 1240) dL_law_1239 rfl rfl ?_
  refine xi_iload_n (q := 1241) dL_law_1240 rfl rfl ?_
  refine xi_iconst (x := 2) (q := 1242) dL_law_1241 (by decide) rfl ?_
  refine xi_iadd (q := 1243) dL_law_1242 rfl ?_
  refine xi_roald (j := 6) (w := (L, xs)) (q := 1244) dL_law_1243 rfl (by rw [show (nI (7 * k) + 2 : Int32) = nI (7 * k + 2) from nI_add _ _]; exact xv_ixN (k := 7 * k + 2) (m := L) (by omega) (by omega)) rfl rfl ?_
  refine xi_aload_n (q := 1245) dL_law_1244 rfl rfl ?_
  refine xi_iload_n (q := 1246) dL_law_1245 rfl rfl ?_
  refine xi_iconst (x := 3) (q := 1247) dL_law_1246 (by decide) rfl ?_
  refine xi_iadd (q := 1248) dL_law_1247 rfl ?_
  refine xi_roald (j := 6) (w := (L, xs)) (q := 1249) dL_law_1248 rfl (by rw [show (nI (7 * k) + 3 : Int32) = nI (7 * k + 3) from nI_add _ _]; exact xv_ixN (k := 7 * k + 3) (m := L) (by omega) (by omega)) rfl rfl ?_
  refine xi_aload_n (q := 1250) dL_law_1249 rfl rfl ?_
  refine xi_iload_n (q := 1251) dL_law_1250 rfl rfl ?_
  refine xi_iconst (x := 4) (q := 1252) dL_law_1251 (by decide) rfl ?_
  refine xi_iadd (q := 1253) dL_law_1252 rfl ?_
  refine xi_roald (j := 6) (w := (L, xs)) (q := 1254) dL_law_1253 rfl (by rw [show (nI (7 * k) + 4 : Int32) = nI (7 * k + 4) from nI_add _ _]; exact xv_ixN (k := 7 * k + 4) (m := L) (by omega) (by omega)) rfl rfl ?_
  refine xv_cV4 (q := 1257) xm_X9_whose ln_L_114 dL_law_1254 ⟨by omega, xs_M83 hM⟩ rfl ⟨(Nat.le_of_ble_eq_true rfl), (Nat.le_of_ble_eq_true rfl)⟩ (Nat.le_of_ble_eq_true rfl) ⟨rfl, rfl⟩ rfl (Nat.le_of_ble_eq_true rfl) (Nat.le_of_ble_eq_true rfl) ?_
  refine ⟨σ, _, _, _, _, rfl, Ma, by omega, hVV.1.1, fun hb Mb Fb => ?_⟩
  have Sb := xs_Sk Sa (fun i hi => Fb i (Or.inl hi))
  refine xi_icmp_eq (q := 1260) (q2 := 1693) dL_law_1257 (by decide) rfl (fun c_1257 => ?_) (fun c_1257 => ?_)
  · exact K hb _ Sb Mb (xq_whose hVV _ _ _ _)
  · exact absurd rfl c_1257
set_option maxRecDepth 20000 in
set_option maxHeartbeats 2000000 in
/-- next -/
theorem xl_c24 {L : Nat} {xs : Nat → Int32} {k : Nat} {h : xv_H} {σ : xs_Sg} (hL : L ≤ 3584) (hk : 7 * k + 7 ≤ L) (hS : xs_S h σ) (hMo : xs_Mo h σ) (hVV : xs_VV σ) (K : ∀ (hb : xv_H) (σ' : xs_Sg), xs_S hb σ' → xs_Mo hb σ' → xs_VV σ' → xv_V (L, xs) mL_law xl_P 104 25323 1693 [(0, .ref 1006), (1, .ref 0), (2, .ref 83), (3, .int (nI (7 * k)))] [] hb 104) : xv_V (L, xs) mL_law xl_P 104 25323 1262 [(0, .ref 1006), (1, .ref 0), (2, .ref 83), (3, .int (nI (7 * k)))] [] h 104 := by
  refine xi_aload_n (q := 1263) dL_law_1262 rfl rfl ?_
  refine xi_aload_n (q := 1264) dL_law_1263 rfl rfl ?_
  refine xi_iload_n (q := 1265) dL_law_1264 rfl rfl ?_
  refine xi_iconst (x := 1) (q := 1266) dL_law_1265 (by decide) rfl ?_
  refine xi_iadd (q := 1267) dL_law_1266 rfl ?_
  refine xi_roald (j := 6) (w := (L, xs)) (q := 1268) dL_law_1267 rfl (by rw [show (nI (7 * k) + 1 : Int32) = nI (7 * k + 1) from nI_add _ _]; exact xv_ixN (k := 7 * k + 1) (m := L) (by omega) (by omega)) rfl rfl ?_
  refine xi_aload_n (q := 1269) dL_law_1268 rfl rfl ?_
  refine xi_iload_n (q := 1270) dL_law_1269 rfl rfl ?_
  refine xi_iconst (x := 2) (q := 1271) dL_law_1270 (by decide) rfl ?_
  refine xi_iadd (q := 1272) dL_law_1271 rfl ?_
  refine xi_roald (j := 6) (w := (L, xs)) (q := 1273) dL_law_1272 rfl (by rw [show (nI (7 * k) + 2 : Int32) = nI (7 * k + 2) from nI_add _ _]; exact xv_ixN (k := 7 * k + 2) (m := L) (by omega) (by omega)) rfl rfl ?_
  refine xi_aload_n (q := 1274) dL_law_1273 rfl rfl ?_
  refine xi_iload_n (q := 1275) dL_law_1274 rfl rfl ?_
  refine xi_iconst (x := 3) (q := 1276) dL_law_1275 (by decide) rfl ?_
  refine xi_iadd (q := 1277) dL_law_1276 rfl ?_
  refine xi_roald (j := 6) (w := (L, xs)) (q := 1278) dL_law_1277 rfl (by rw [show (nI (7 * k) + 3 : Int32) = nI (7 * k + 3) from nI_add _ _]; exact xv_ixN (k := 7 * k + 3) (m := L) (by omega) (by omega)) rfl rfl ?_
  refine xi_aload_n (q := 1279) dL_law_1278 rfl rfl ?_
  refine xi_iload_n (q := 1280) dL_law_1279 rfl rfl ?_
  refine xi_iconst (x := 4) (q := 1281) dL_law_1280 (by decide) rfl ?_
  refine xi_iadd (q := 1282) dL_law_1281 rfl ?_
  refine xi_roald (j := 6) (w := (L, xs)) (q := 1283) dL_law_1282 rfl (by rw [show (nI (7 * k) + 4 : Int32) = nI (7 * k + 4) from nI_add _ _]; exact xv_ixN (k := 7 * k + 4) (m := L) (by omega) (by omega)) rfl rfl ?_
  refine xv_cV4 (q := 1286) xm_X8_next ln_L_115 dL_law_1283 ⟨by omega, hS.1.1⟩ rfl ⟨(Nat.le_of_ble_eq_true rfl), (Nat.le_of_ble_eq_true rfl)⟩ (Nat.le_of_ble_eq_true rfl) ⟨rfl, rfl⟩ rfl (Nat.le_of_ble_eq_true rfl) (Nat.le_of_ble_eq_true rfl) ?_
  refine ⟨σ, _, _, _, _, rfl, hS, by omega, hVV.1.1, fun ha Sa Fa => ?_⟩
  have Ma : xs_Mo ha σ := xs_Mok hMo Fa
  obtain ⟨C, dk, hM, hR⟩ := id Ma
  refine xi_aload_n (q := 1287) dL_law_1286 rfl rfl ?_
  refine xi_aload_n (q := 1288) dL_law_1287 rfl rfl ?_
  refine xi_iload_n (q := 1289) dL_law_1288 rfl rfl ?_
  refine xi_iconst (x := 1) (q := 1290) dL_law_1289 (by decide) rfl ?_
  refine xi_iadd (q := 1291) dL_law_1290 rfl ?_
  refine xi_roald (j := 6) (w := (L, xs)) (q := 1292) dL_law_1291 rfl (by rw [show (nI (7 * k) + 1 : Int32) = nI (7 * k + 1) from nI_add _ _]; exact xv_ixN (k := 7 * k + 1) (m := L) (by omega) (by omega)) rfl rfl ?_
  refine xi_aload_n (q := 1293) dL_law_1292 rfl rfl ?_
  refine xi_iload_n (q := 1294) dL_law_1293 rfl rfl ?_
  refine xi_iconst (x := 2) (q := 1295) dL_law_1294 (by decide) rfl ?_
  refine xi_iadd (q := 1296) dL_law_1295 rfl ?_
  refine xi_roald (j := 6) (w := (L, xs)) (q := 1297) dL_law_1296 rfl (by rw [show (nI (7 * k) + 2 : Int32) = nI (7 * k + 2) from nI_add _ _]; exact xv_ixN (k := 7 * k + 2) (m := L) (by omega) (by omega)) rfl rfl ?_
  refine xi_aload_n (q := 1298) dL_law_1297 rfl rfl ?_
  refine xi_iload_n (q := 1299) dL_law_1298 rfl rfl ?_
  refine xi_iconst (x := 3) (q := 1300) dL_law_1299 (by decide) rfl ?_
  refine xi_iadd (q := 1301) dL_law_1300 rfl ?_
  refine xi_roald (j := 6) (w := (L, xs)) (q := 1302) dL_law_1301 rfl (by rw [show (nI (7 * k) + 3 : Int32) = nI (7 * k + 3) from nI_add _ _]; exact xv_ixN (k := 7 * k + 3) (m := L) (by omega) (by omega)) rfl rfl ?_
  refine xi_aload_n (q := 1303) dL_law_1302 rfl rfl ?_
  refine xi_iload_n (q := 1304) dL_law_1303 rfl rfl ?_
  refine xi_iconst (x := 4) (q := 1305) dL_law_1304 (by decide) rfl ?_
  refine xi_iadd (q := 1306) dL_law_1305 rfl ?_
  refine xi_roald (j := 6) (w := (L, xs)) (q := 1307) dL_law_1306 rfl (by rw [show (nI (7 * k) + 4 : Int32) = nI (7 * k + 4) from nI_add _ _]; exact xv_ixN (k := 7 * k + 4) (m := L) (by omega) (by omega)) rfl rfl ?_
  refine xv_cV4 (q := 1310) xm_X9_next ln_L_118 dL_law_1307 ⟨by omega, xs_M83 hM⟩ rfl ⟨(Nat.le_of_ble_eq_true rfl), (Nat.le_of_ble_eq_true rfl)⟩ (Nat.le_of_ble_eq_true rfl) ⟨rfl, rfl⟩ rfl (Nat.le_of_ble_eq_true rfl) (Nat.le_of_ble_eq_true rfl) ?_
  refine ⟨σ, _, _, _, _, rfl, Ma, by omega, hVV.1.1, fun hb Mb Fb => ?_⟩
  have Sb := xs_Sk Sa (fun i hi => Fb i (Or.inl hi))
  refine xi_icmp_eq (q := 1313) (q2 := 1693) dL_law_1310 (by decide) rfl (fun c_1310 => ?_) (fun c_1310 => ?_)
  · exact K hb _ Sb Mb (xq_next hVV _ _ _ _)
  · exact absurd rfl c_1310
set_option maxRecDepth 20000 in
set_option maxHeartbeats 2000000 in
/-- run -/
theorem xl_c25 {L : Nat} {xs : Nat → Int32} {k : Nat} {h : xv_H} {σ : xs_Sg} (hL : L ≤ 3584) (hk : 7 * k + 7 ≤ L) (hS : xs_S h σ) (hMo : xs_Mo h σ) (hVV : xs_VV σ) (K : ∀ (hb : xv_H) (σ' : xs_Sg), xs_S hb σ' → xs_Mo hb σ' → xs_VV σ' → xv_V (L, xs) mL_law xl_P 104 25323 1693 [(0, .ref 1006), (1, .ref 0), (2, .ref 83), (3, .int (nI (7 * k)))] [] hb 104) : xv_V (L, xs) mL_law xl_P 104 25323 1315 [(0, .ref 1006), (1, .ref 0), (2, .ref 83), (3, .int (nI (7 * k)))] [] h 104 := by
  refine xi_aload_n (q := 1316) dL_law_1315 rfl rfl ?_
  refine xi_aload_n (q := 1317) dL_law_1316 rfl rfl ?_
  refine xi_iload_n (q := 1318) dL_law_1317 rfl rfl ?_
  refine xi_iconst (x := 1) (q := 1319) dL_law_1318 (by decide) rfl ?_
  refine xi_iadd (q := 1320) dL_law_1319 rfl ?_
  refine xi_roald (j := 6) (w := (L, xs)) (q := 1321) dL_law_1320 rfl (by rw [show (nI (7 * k) + 1 : Int32) = nI (7 * k + 1) from nI_add _ _]; exact xv_ixN (k := 7 * k + 1) (m := L) (by omega) (by omega)) rfl rfl ?_
  refine xi_aload_n (q := 1322) dL_law_1321 rfl rfl ?_
  refine xi_iload_n (q := 1323) dL_law_1322 rfl rfl ?_
  refine xi_iconst (x := 2) (q := 1324) dL_law_1323 (by decide) rfl ?_
  refine xi_iadd (q := 1325) dL_law_1324 rfl ?_
  refine xi_roald (j := 6) (w := (L, xs)) (q := 1326) dL_law_1325 rfl (by rw [show (nI (7 * k) + 2 : Int32) = nI (7 * k + 2) from nI_add _ _]; exact xv_ixN (k := 7 * k + 2) (m := L) (by omega) (by omega)) rfl rfl ?_
  refine xi_aload_n (q := 1327) dL_law_1326 rfl rfl ?_
  refine xi_iload_n (q := 1328) dL_law_1327 rfl rfl ?_
  refine xi_iconst (x := 3) (q := 1329) dL_law_1328 (by decide) rfl ?_
  refine xi_iadd (q := 1330) dL_law_1329 rfl ?_
  refine xi_roald (j := 6) (w := (L, xs)) (q := 1331) dL_law_1330 rfl (by rw [show (nI (7 * k) + 3 : Int32) = nI (7 * k + 3) from nI_add _ _]; exact xv_ixN (k := 7 * k + 3) (m := L) (by omega) (by omega)) rfl rfl ?_
  refine xi_aload_n (q := 1332) dL_law_1331 rfl rfl ?_
  refine xi_iload_n (q := 1333) dL_law_1332 rfl rfl ?_
  refine xi_iconst (x := 4) (q := 1334) dL_law_1333 (by decide) rfl ?_
  refine xi_iadd (q := 1335) dL_law_1334 rfl ?_
  refine xi_roald (j := 6) (w := (L, xs)) (q := 1336) dL_law_1335 rfl (by rw [show (nI (7 * k) + 4 : Int32) = nI (7 * k + 4) from nI_add _ _]; exact xv_ixN (k := 7 * k + 4) (m := L) (by omega) (by omega)) rfl rfl ?_
  refine xi_aload_n (q := 1337) dL_law_1336 rfl rfl ?_
  refine xi_iload_n (q := 1338) dL_law_1337 rfl rfl ?_
  refine xi_iconst (x := 5) (q := 1339) dL_law_1338 (by decide) rfl ?_
  refine xi_iadd (q := 1340) dL_law_1339 rfl ?_
  refine xi_roald (j := 6) (w := (L, xs)) (q := 1341) dL_law_1340 rfl (by rw [show (nI (7 * k) + 5 : Int32) = nI (7 * k + 5) from nI_add _ _]; exact xv_ixN (k := 7 * k + 5) (m := L) (by omega) (by omega)) rfl rfl ?_
  refine xi_aload_n (q := 1342) dL_law_1341 rfl rfl ?_
  refine xi_iload_n (q := 1343) dL_law_1342 rfl rfl ?_
  refine xi_bipush (x := 6) (q := 1345) dL_law_1343 (by decide) rfl ?_
  refine xi_iadd (q := 1346) dL_law_1345 rfl ?_
  refine xi_roald (j := 6) (w := (L, xs)) (q := 1347) dL_law_1346 rfl (by rw [show (nI (7 * k) + 6 : Int32) = nI (7 * k + 6) from nI_add _ _]; exact xv_ixN (k := 7 * k + 6) (m := L) (by omega) (by omega)) rfl rfl ?_
  refine xv_cV6 (q := 1350) xm_X8_run ln_L_119 dL_law_1347 ⟨by omega, hS.1.1⟩ rfl ⟨(Nat.le_of_ble_eq_true rfl), (Nat.le_of_ble_eq_true rfl)⟩ (Nat.le_of_ble_eq_true rfl) ⟨rfl, rfl⟩ rfl (Nat.le_of_ble_eq_true rfl) (Nat.le_of_ble_eq_true rfl) ?_
  refine ⟨σ, _, _, _, _, _, _, rfl, hS, by omega, hVV.1.1, fun ha Sa Fa => ?_⟩
  have Ma : xs_Mo ha σ := xs_Mok hMo Fa
  obtain ⟨C, dk, hM, hR⟩ := id Ma
  refine xi_aload_n (q := 1351) dL_law_1350 rfl rfl ?_
  refine xi_aload_n (q := 1352) dL_law_1351 rfl rfl ?_
  refine xi_iload_n (q := 1353) dL_law_1352 rfl rfl ?_
  refine xi_iconst (x := 1) (q := 1354) dL_law_1353 (by decide) rfl ?_
  refine xi_iadd (q := 1355) dL_law_1354 rfl ?_
  refine xi_roald (j := 6) (w := (L, xs)) (q := 1356) dL_law_1355 rfl (by rw [show (nI (7 * k) + 1 : Int32) = nI (7 * k + 1) from nI_add _ _]; exact xv_ixN (k := 7 * k + 1) (m := L) (by omega) (by omega)) rfl rfl ?_
  refine xi_aload_n (q := 1357) dL_law_1356 rfl rfl ?_
  refine xi_iload_n (q := 1358) dL_law_1357 rfl rfl ?_
  refine xi_iconst (x := 2) (q := 1359) dL_law_1358 (by decide) rfl ?_
  refine xi_iadd (q := 1360) dL_law_1359 rfl ?_
  refine xi_roald (j := 6) (w := (L, xs)) (q := 1361) dL_law_1360 rfl (by rw [show (nI (7 * k) + 2 : Int32) = nI (7 * k + 2) from nI_add _ _]; exact xv_ixN (k := 7 * k + 2) (m := L) (by omega) (by omega)) rfl rfl ?_
  refine xi_aload_n (q := 1362) dL_law_1361 rfl rfl ?_
  refine xi_iload_n (q := 1363) dL_law_1362 rfl rfl ?_
  refine xi_iconst (x := 3) (q := 1364) dL_law_1363 (by decide) rfl ?_
  refine xi_iadd (q := 1365) dL_law_1364 rfl ?_
  refine xi_roald (j := 6) (w := (L, xs)) (q := 1366) dL_law_1365 rfl (by rw [show (nI (7 * k) + 3 : Int32) = nI (7 * k + 3) from nI_add _ _]; exact xv_ixN (k := 7 * k + 3) (m := L) (by omega) (by omega)) rfl rfl ?_
  refine xi_aload_n (q := 1367) dL_law_1366 rfl rfl ?_
  refine xi_iload_n (q := 1368) dL_law_1367 rfl rfl ?_
  refine xi_iconst (x := 4) (q := 1369) dL_law_1368 (by decide) rfl ?_
  refine xi_iadd (q := 1370) dL_law_1369 rfl ?_
  refine xi_roald (j := 6) (w := (L, xs)) (q := 1371) dL_law_1370 rfl (by rw [show (nI (7 * k) + 4 : Int32) = nI (7 * k + 4) from nI_add _ _]; exact xv_ixN (k := 7 * k + 4) (m := L) (by omega) (by omega)) rfl rfl ?_
  refine xi_aload_n (q := 1372) dL_law_1371 rfl rfl ?_
  refine xi_iload_n (q := 1373) dL_law_1372 rfl rfl ?_
  refine xi_iconst (x := 5) (q := 1374) dL_law_1373 (by decide) rfl ?_
  refine xi_iadd (q := 1375) dL_law_1374 rfl ?_
  refine xi_roald (j := 6) (w := (L, xs)) (q := 1376) dL_law_1375 rfl (by rw [show (nI (7 * k) + 5 : Int32) = nI (7 * k + 5) from nI_add _ _]; exact xv_ixN (k := 7 * k + 5) (m := L) (by omega) (by omega)) rfl rfl ?_
  refine xi_aload_n (q := 1377) dL_law_1376 rfl rfl ?_
  refine xi_iload_n (q := 1378) dL_law_1377 rfl rfl ?_
  refine xi_bipush (x := 6) (q := 1380) dL_law_1378 (by decide) rfl ?_
  refine xi_iadd (q := 1381) dL_law_1380 rfl ?_
  refine xi_roald (j := 6) (w := (L, xs)) (q := 1382) dL_law_1381 rfl (by rw [show (nI (7 * k) + 6 : Int32) = nI (7 * k + 6) from nI_add _ _]; exact xv_ixN (k := 7 * k + 6) (m := L) (by omega) (by omega)) rfl rfl ?_
  refine xv_cV6 (q := 1385) xm_X9_run ln_L_122 dL_law_1382 ⟨by omega, xs_M83 hM⟩ rfl ⟨(Nat.le_of_ble_eq_true rfl), (Nat.le_of_ble_eq_true rfl)⟩ (Nat.le_of_ble_eq_true rfl) ⟨rfl, rfl⟩ rfl (Nat.le_of_ble_eq_true rfl) (Nat.le_of_ble_eq_true rfl) ?_
  refine ⟨σ, _, _, _, _, _, _, rfl, Ma, by omega, hVV.1.1, fun hb Mb Fb => ?_⟩
  have Sb := xs_Sk Sa (fun i hi => Fb i (Or.inl hi))
  refine xi_icmp_eq (q := 1388) (q2 := 1693) dL_law_1385 (by decide) rfl (fun c_1385 => ?_) (fun c_1385 => ?_)
  · exact K hb _ Sb Mb (xq_run hVV _ _ _ _ _ _)
  · exact absurd rfl c_1385
set_option maxRecDepth 20000 in
set_option maxHeartbeats 2000000 in
/-- plan -/
theorem xl_c26 {L : Nat} {xs : Nat → Int32} {k : Nat} {h : xv_H} {σ : xs_Sg} (hL : L ≤ 3584) (hk : 7 * k + 7 ≤ L) (hS : xs_S h σ) (hMo : xs_Mo h σ) (hVV : xs_VV σ) (K : ∀ (hb : xv_H) (σ' : xs_Sg), xs_S hb σ' → xs_Mo hb σ' → xs_VV σ' → xv_V (L, xs) mL_law xl_P 104 25323 1693 [(0, .ref 1006), (1, .ref 0), (2, .ref 83), (3, .int (nI (7 * k)))] [] hb 104) : xv_V (L, xs) mL_law xl_P 104 25323 1390 [(0, .ref 1006), (1, .ref 0), (2, .ref 83), (3, .int (nI (7 * k)))] [] h 104 := by
  refine xi_aload_n (q := 1391) dL_law_1390 rfl rfl ?_
  refine xi_aload_n (q := 1392) dL_law_1391 rfl rfl ?_
  refine xi_iload_n (q := 1393) dL_law_1392 rfl rfl ?_
  refine xi_iconst (x := 1) (q := 1394) dL_law_1393 (by decide) rfl ?_
  refine xi_iadd (q := 1395) dL_law_1394 rfl ?_
  refine xi_roald (j := 6) (w := (L, xs)) (q := 1396) dL_law_1395 rfl (by rw [show (nI (7 * k) + 1 : Int32) = nI (7 * k + 1) from nI_add _ _]; exact xv_ixN (k := 7 * k + 1) (m := L) (by omega) (by omega)) rfl rfl ?_
  refine xi_aload_n (q := 1397) dL_law_1396 rfl rfl ?_
  refine xi_iload_n (q := 1398) dL_law_1397 rfl rfl ?_
  refine xi_iconst (x := 2) (q := 1399) dL_law_1398 (by decide) rfl ?_
  refine xi_iadd (q := 1400) dL_law_1399 rfl ?_
  refine xi_roald (j := 6) (w := (L, xs)) (q := 1401) dL_law_1400 rfl (by rw [show (nI (7 * k) + 2 : Int32) = nI (7 * k + 2) from nI_add _ _]; exact xv_ixN (k := 7 * k + 2) (m := L) (by omega) (by omega)) rfl rfl ?_
  refine xv_cV2 (q := 1404) xm_X8_plan ln_L_123 dL_law_1401 ⟨by omega, hS.1.1⟩ rfl ⟨(Nat.le_of_ble_eq_true rfl), (Nat.le_of_ble_eq_true rfl)⟩ (Nat.le_of_ble_eq_true rfl) ⟨rfl, rfl⟩ rfl (Nat.le_of_ble_eq_true rfl) (Nat.le_of_ble_eq_true rfl) ?_
  refine ⟨σ, _, _, rfl, hS, by omega, hVV.1.1, fun ha Sa Fa => ?_⟩
  have Ma : xs_Mo ha σ := xs_Mok hMo Fa
  obtain ⟨C, dk, hM, hR⟩ := id Ma
  refine xi_aload_n (q := 1405) dL_law_1404 rfl rfl ?_
  refine xi_aload_n (q := 1406) dL_law_1405 rfl rfl ?_
  refine xi_iload_n (q := 1407) dL_law_1406 rfl rfl ?_
  refine xi_iconst (x := 1) (q := 1408) dL_law_1407 (by decide) rfl ?_
  refine xi_iadd (q := 1409) dL_law_1408 rfl ?_
  refine xi_roald (j := 6) (w := (L, xs)) (q := 1410) dL_law_1409 rfl (by rw [show (nI (7 * k) + 1 : Int32) = nI (7 * k + 1) from nI_add _ _]; exact xv_ixN (k := 7 * k + 1) (m := L) (by omega) (by omega)) rfl rfl ?_
  refine xi_aload_n (q := 1411) dL_law_1410 rfl rfl ?_
  refine xi_iload_n (q := 1412) dL_law_1411 rfl rfl ?_
  refine xi_iconst (x := 2) (q := 1413) dL_law_1412 (by decide) rfl ?_
  refine xi_iadd (q := 1414) dL_law_1413 rfl ?_
  refine xi_roald (j := 6) (w := (L, xs)) (q := 1415) dL_law_1414 rfl (by rw [show (nI (7 * k) + 2 : Int32) = nI (7 * k + 2) from nI_add _ _]; exact xv_ixN (k := 7 * k + 2) (m := L) (by omega) (by omega)) rfl rfl ?_
  refine xv_cV2 (q := 1418) xm_X9_plan ln_L_126 dL_law_1415 ⟨by omega, xs_M83 hM⟩ rfl ⟨(Nat.le_of_ble_eq_true rfl), (Nat.le_of_ble_eq_true rfl)⟩ (Nat.le_of_ble_eq_true rfl) ⟨rfl, rfl⟩ rfl (Nat.le_of_ble_eq_true rfl) (Nat.le_of_ble_eq_true rfl) ?_
  refine ⟨σ, _, _, rfl, Ma, by omega, hVV.1.1, fun hb Mb Fb => ?_⟩
  have Sb := xs_Sk Sa (fun i hi => Fb i (Or.inl hi))
  refine xi_icmp_eq (q := 1421) (q2 := 1693) dL_law_1418 (by decide) rfl (fun c_1418 => ?_) (fun c_1418 => ?_)
  · exact K hb _ Sb Mb (xq_plan hVV _ _)
  · exact absurd rfl c_1418
set_option maxRecDepth 20000 in
set_option maxHeartbeats 2000000 in
/-- stoke -/
theorem xl_c27 {L : Nat} {xs : Nat → Int32} {k : Nat} {h : xv_H} {σ : xs_Sg} (hL : L ≤ 3584) (hk : 7 * k + 7 ≤ L) (hS : xs_S h σ) (hMo : xs_Mo h σ) (hVV : xs_VV σ) (K : ∀ (hb : xv_H) (σ' : xs_Sg), xs_S hb σ' → xs_Mo hb σ' → xs_VV σ' → xv_V (L, xs) mL_law xl_P 104 25323 1693 [(0, .ref 1006), (1, .ref 0), (2, .ref 83), (3, .int (nI (7 * k)))] [] hb 104) : xv_V (L, xs) mL_law xl_P 104 25323 1423 [(0, .ref 1006), (1, .ref 0), (2, .ref 83), (3, .int (nI (7 * k)))] [] h 104 := by
  refine xi_aload_n (q := 1424) dL_law_1423 rfl rfl ?_
  refine xi_aload_n (q := 1425) dL_law_1424 rfl rfl ?_
  refine xi_iload_n (q := 1426) dL_law_1425 rfl rfl ?_
  refine xi_iconst (x := 1) (q := 1427) dL_law_1426 (by decide) rfl ?_
  refine xi_iadd (q := 1428) dL_law_1427 rfl ?_
  refine xi_roald (j := 6) (w := (L, xs)) (q := 1429) dL_law_1428 rfl (by rw [show (nI (7 * k) + 1 : Int32) = nI (7 * k + 1) from nI_add _ _]; exact xv_ixN (k := 7 * k + 1) (m := L) (by omega) (by omega)) rfl rfl ?_
  refine xv_cV1 (q := 1432) xm_X8_stoke ln_L_127 dL_law_1429 ⟨by omega, hS.1.1⟩ rfl ⟨(Nat.le_of_ble_eq_true rfl), (Nat.le_of_ble_eq_true rfl)⟩ (Nat.le_of_ble_eq_true rfl) ⟨rfl, rfl⟩ rfl (Nat.le_of_ble_eq_true rfl) (Nat.le_of_ble_eq_true rfl) ?_
  refine ⟨σ, _, rfl, hS, by omega, hVV.1.1, fun ha Sa Fa => ?_⟩
  have Ma : xs_Mo ha σ := xs_Mok hMo Fa
  obtain ⟨C, dk, hM, hR⟩ := id Ma
  refine xi_aload_n (q := 1433) dL_law_1432 rfl rfl ?_
  refine xi_aload_n (q := 1434) dL_law_1433 rfl rfl ?_
  refine xi_iload_n (q := 1435) dL_law_1434 rfl rfl ?_
  refine xi_iconst (x := 1) (q := 1436) dL_law_1435 (by decide) rfl ?_
  refine xi_iadd (q := 1437) dL_law_1436 rfl ?_
  refine xi_roald (j := 6) (w := (L, xs)) (q := 1438) dL_law_1437 rfl (by rw [show (nI (7 * k) + 1 : Int32) = nI (7 * k + 1) from nI_add _ _]; exact xv_ixN (k := 7 * k + 1) (m := L) (by omega) (by omega)) rfl rfl ?_
  refine xv_cV1 (q := 1441) xm_X9_stoke ln_L_130 dL_law_1438 ⟨by omega, xs_M83 hM⟩ rfl ⟨(Nat.le_of_ble_eq_true rfl), (Nat.le_of_ble_eq_true rfl)⟩ (Nat.le_of_ble_eq_true rfl) ⟨rfl, rfl⟩ rfl (Nat.le_of_ble_eq_true rfl) (Nat.le_of_ble_eq_true rfl) ?_
  refine ⟨σ, _, rfl, Ma, by omega, hVV.1.1, fun hb Mb Fb => ?_⟩
  have Sb := xs_Sk Sa (fun i hi => Fb i (Or.inl hi))
  refine xi_icmp_eq (q := 1444) (q2 := 1693) dL_law_1441 (by decide) rfl (fun c_1441 => ?_) (fun c_1441 => ?_)
  · exact K hb _ Sb Mb (xq_stoke hVV _)
  · exact absurd rfl c_1441
set_option maxRecDepth 20000 in
set_option maxHeartbeats 2000000 in
/-- minute -/
theorem xl_c28 {L : Nat} {xs : Nat → Int32} {k : Nat} {h : xv_H} {σ : xs_Sg} (hL : L ≤ 3584) (hk : 7 * k + 7 ≤ L) (hS : xs_S h σ) (hMo : xs_Mo h σ) (hVV : xs_VV σ) (K : ∀ (hb : xv_H) (σ' : xs_Sg), xs_S hb σ' → xs_Mo hb σ' → xs_VV σ' → xv_V (L, xs) mL_law xl_P 104 25323 1693 [(0, .ref 1006), (1, .ref 0), (2, .ref 83), (3, .int (nI (7 * k)))] [] hb 104) : xv_V (L, xs) mL_law xl_P 104 25323 1446 [(0, .ref 1006), (1, .ref 0), (2, .ref 83), (3, .int (nI (7 * k)))] [] h 104 := by
  refine xi_aload_n (q := 1447) dL_law_1446 rfl rfl ?_
  refine xi_aload_n (q := 1448) dL_law_1447 rfl rfl ?_
  refine xi_iload_n (q := 1449) dL_law_1448 rfl rfl ?_
  refine xi_iconst (x := 1) (q := 1450) dL_law_1449 (by decide) rfl ?_
  refine xi_iadd (q := 1451) dL_law_1450 rfl ?_
  refine xi_roald (j := 6) (w := (L, xs)) (q := 1452) dL_law_1451 rfl (by rw [show (nI (7 * k) + 1 : Int32) = nI (7 * k + 1) from nI_add _ _]; exact xv_ixN (k := 7 * k + 1) (m := L) (by omega) (by omega)) rfl rfl ?_
  refine xi_aload_n (q := 1453) dL_law_1452 rfl rfl ?_
  refine xi_iload_n (q := 1454) dL_law_1453 rfl rfl ?_
  refine xi_iconst (x := 2) (q := 1455) dL_law_1454 (by decide) rfl ?_
  refine xi_iadd (q := 1456) dL_law_1455 rfl ?_
  refine xi_roald (j := 6) (w := (L, xs)) (q := 1457) dL_law_1456 rfl (by rw [show (nI (7 * k) + 2 : Int32) = nI (7 * k + 2) from nI_add _ _]; exact xv_ixN (k := 7 * k + 2) (m := L) (by omega) (by omega)) rfl rfl ?_
  refine xi_aload_n (q := 1458) dL_law_1457 rfl rfl ?_
  refine xi_iload_n (q := 1459) dL_law_1458 rfl rfl ?_
  refine xi_iconst (x := 3) (q := 1460) dL_law_1459 (by decide) rfl ?_
  refine xi_iadd (q := 1461) dL_law_1460 rfl ?_
  refine xi_roald (j := 6) (w := (L, xs)) (q := 1462) dL_law_1461 rfl (by rw [show (nI (7 * k) + 3 : Int32) = nI (7 * k + 3) from nI_add _ _]; exact xv_ixN (k := 7 * k + 3) (m := L) (by omega) (by omega)) rfl rfl ?_
  refine xv_cV3 (q := 1465) xm_X8_minute ln_L_131 dL_law_1462 ⟨by omega, hS.1.1⟩ rfl ⟨(Nat.le_of_ble_eq_true rfl), (Nat.le_of_ble_eq_true rfl)⟩ (Nat.le_of_ble_eq_true rfl) ⟨rfl, rfl⟩ rfl (Nat.le_of_ble_eq_true rfl) (Nat.le_of_ble_eq_true rfl) ?_
  refine ⟨σ, _, _, _, rfl, hS, by omega, hVV.1.1, hVV.1.2, fun ha Sa Fa => ?_⟩
  have Ma : xs_Mo ha σ := xs_Mok hMo Fa
  obtain ⟨C, dk, hM, hR⟩ := id Ma
  refine xi_aload_n (q := 1466) dL_law_1465 rfl rfl ?_
  refine xi_aload_n (q := 1467) dL_law_1466 rfl rfl ?_
  refine xi_iload_n (q := 1468) dL_law_1467 rfl rfl ?_
  refine xi_iconst (x := 1) (q := 1469) dL_law_1468 (by decide) rfl ?_
  refine xi_iadd (q := 1470) dL_law_1469 rfl ?_
  refine xi_roald (j := 6) (w := (L, xs)) (q := 1471) dL_law_1470 rfl (by rw [show (nI (7 * k) + 1 : Int32) = nI (7 * k + 1) from nI_add _ _]; exact xv_ixN (k := 7 * k + 1) (m := L) (by omega) (by omega)) rfl rfl ?_
  refine xi_aload_n (q := 1472) dL_law_1471 rfl rfl ?_
  refine xi_iload_n (q := 1473) dL_law_1472 rfl rfl ?_
  refine xi_iconst (x := 2) (q := 1474) dL_law_1473 (by decide) rfl ?_
  refine xi_iadd (q := 1475) dL_law_1474 rfl ?_
  refine xi_roald (j := 6) (w := (L, xs)) (q := 1476) dL_law_1475 rfl (by rw [show (nI (7 * k) + 2 : Int32) = nI (7 * k + 2) from nI_add _ _]; exact xv_ixN (k := 7 * k + 2) (m := L) (by omega) (by omega)) rfl rfl ?_
  refine xi_aload_n (q := 1477) dL_law_1476 rfl rfl ?_
  refine xi_iload_n (q := 1478) dL_law_1477 rfl rfl ?_
  refine xi_iconst (x := 3) (q := 1479) dL_law_1478 (by decide) rfl ?_
  refine xi_iadd (q := 1480) dL_law_1479 rfl ?_
  refine xi_roald (j := 6) (w := (L, xs)) (q := 1481) dL_law_1480 rfl (by rw [show (nI (7 * k) + 3 : Int32) = nI (7 * k + 3) from nI_add _ _]; exact xv_ixN (k := 7 * k + 3) (m := L) (by omega) (by omega)) rfl rfl ?_
  refine xv_cV3 (q := 1484) xm_X9_minute ln_L_134 dL_law_1481 ⟨by omega, xs_M83 hM⟩ rfl ⟨(Nat.le_of_ble_eq_true rfl), (Nat.le_of_ble_eq_true rfl)⟩ (Nat.le_of_ble_eq_true rfl) ⟨rfl, rfl⟩ rfl (Nat.le_of_ble_eq_true rfl) (Nat.le_of_ble_eq_true rfl) ?_
  refine ⟨σ, _, _, _, rfl, Ma, by omega, hVV.1.1, hVV.1.2, fun hb Mb Fb => ?_⟩
  have Sb := xs_Sk Sa (fun i hi => Fb i (Or.inl hi))
  refine xi_icmp_eq (q := 1487) (q2 := 1693) dL_law_1484 (by decide) rfl (fun c_1484 => ?_) (fun c_1484 => ?_)
  · exact K hb _ Sb Mb (xq_minute hVV _ _ _)
  · exact absurd rfl c_1484
set_option maxRecDepth 20000 in
set_option maxHeartbeats 2000000 in
/-- fire -/
theorem xl_c29 {L : Nat} {xs : Nat → Int32} {k : Nat} {h : xv_H} {σ : xs_Sg} (hL : L ≤ 3584) (hk : 7 * k + 7 ≤ L) (hS : xs_S h σ) (hMo : xs_Mo h σ) (hVV : xs_VV σ) (K : ∀ (hb : xv_H) (σ' : xs_Sg), xs_S hb σ' → xs_Mo hb σ' → xs_VV σ' → xv_V (L, xs) mL_law xl_P 104 25323 1693 [(0, .ref 1006), (1, .ref 0), (2, .ref 83), (3, .int (nI (7 * k)))] [] hb 104) : xv_V (L, xs) mL_law xl_P 104 25323 1489 [(0, .ref 1006), (1, .ref 0), (2, .ref 83), (3, .int (nI (7 * k)))] [] h 104 := by
  refine xi_aload_n (q := 1490) dL_law_1489 rfl rfl ?_
  refine xi_aload_n (q := 1491) dL_law_1490 rfl rfl ?_
  refine xi_iload_n (q := 1492) dL_law_1491 rfl rfl ?_
  refine xi_iconst (x := 1) (q := 1493) dL_law_1492 (by decide) rfl ?_
  refine xi_iadd (q := 1494) dL_law_1493 rfl ?_
  refine xi_roald (j := 6) (w := (L, xs)) (q := 1495) dL_law_1494 rfl (by rw [show (nI (7 * k) + 1 : Int32) = nI (7 * k + 1) from nI_add _ _]; exact xv_ixN (k := 7 * k + 1) (m := L) (by omega) (by omega)) rfl rfl ?_
  refine xv_cV1 (q := 1498) xm_X8_fire ln_L_135 dL_law_1495 ⟨by omega, hS.1.1⟩ rfl ⟨(Nat.le_of_ble_eq_true rfl), (Nat.le_of_ble_eq_true rfl)⟩ (Nat.le_of_ble_eq_true rfl) ⟨rfl, rfl⟩ rfl (Nat.le_of_ble_eq_true rfl) (Nat.le_of_ble_eq_true rfl) ?_
  refine ⟨σ, _, rfl, hS, by omega, hVV.1.1, fun ha Sa Fa => ?_⟩
  have Ma : xs_Mo ha σ := xs_Mok hMo Fa
  obtain ⟨C, dk, hM, hR⟩ := id Ma
  refine xi_aload_n (q := 1499) dL_law_1498 rfl rfl ?_
  refine xi_aload_n (q := 1500) dL_law_1499 rfl rfl ?_
  refine xi_iload_n (q := 1501) dL_law_1500 rfl rfl ?_
  refine xi_iconst (x := 1) (q := 1502) dL_law_1501 (by decide) rfl ?_
  refine xi_iadd (q := 1503) dL_law_1502 rfl ?_
  refine xi_roald (j := 6) (w := (L, xs)) (q := 1504) dL_law_1503 rfl (by rw [show (nI (7 * k) + 1 : Int32) = nI (7 * k + 1) from nI_add _ _]; exact xv_ixN (k := 7 * k + 1) (m := L) (by omega) (by omega)) rfl rfl ?_
  refine xv_cV1 (q := 1507) xm_X9_fire ln_L_138 dL_law_1504 ⟨by omega, xs_M83 hM⟩ rfl ⟨(Nat.le_of_ble_eq_true rfl), (Nat.le_of_ble_eq_true rfl)⟩ (Nat.le_of_ble_eq_true rfl) ⟨rfl, rfl⟩ rfl (Nat.le_of_ble_eq_true rfl) (Nat.le_of_ble_eq_true rfl) ?_
  refine ⟨σ, _, rfl, Ma, by omega, hVV.1.1, fun hb Mb Fb => ?_⟩
  have Sb := xs_Sk Sa (fun i hi => Fb i (Or.inl hi))
  refine xi_icmp_eq (q := 1510) (q2 := 1693) dL_law_1507 (by decide) rfl (fun c_1507 => ?_) (fun c_1507 => ?_)
  · exact K hb _ Sb Mb (xq_fire hVV _)
  · exact absurd rfl c_1507
set_option maxRecDepth 20000 in
set_option maxHeartbeats 2000000 in
/-- kind -/
theorem xl_c30 {L : Nat} {xs : Nat → Int32} {k : Nat} {h : xv_H} {σ : xs_Sg} (hL : L ≤ 3584) (hk : 7 * k + 7 ≤ L) (hS : xs_S h σ) (hMo : xs_Mo h σ) (hVV : xs_VV σ) (K : ∀ (hb : xv_H) (σ' : xs_Sg), xs_S hb σ' → xs_Mo hb σ' → xs_VV σ' → xv_V (L, xs) mL_law xl_P 104 25323 1693 [(0, .ref 1006), (1, .ref 0), (2, .ref 83), (3, .int (nI (7 * k)))] [] hb 104) : xv_V (L, xs) mL_law xl_P 104 25323 1512 [(0, .ref 1006), (1, .ref 0), (2, .ref 83), (3, .int (nI (7 * k)))] [] h 104 := by
  refine xi_aload_n (q := 1513) dL_law_1512 rfl rfl ?_
  refine xi_aload_n (q := 1514) dL_law_1513 rfl rfl ?_
  refine xi_iload_n (q := 1515) dL_law_1514 rfl rfl ?_
  refine xi_iconst (x := 1) (q := 1516) dL_law_1515 (by decide) rfl ?_
  refine xi_iadd (q := 1517) dL_law_1516 rfl ?_
  refine xi_roald (j := 6) (w := (L, xs)) (q := 1518) dL_law_1517 rfl (by rw [show (nI (7 * k) + 1 : Int32) = nI (7 * k + 1) from nI_add _ _]; exact xv_ixN (k := 7 * k + 1) (m := L) (by omega) (by omega)) rfl rfl ?_
  refine xv_cV1 (q := 1521) xm_X8_kind ln_L_139 dL_law_1518 ⟨by omega, hS.1.1⟩ rfl ⟨(Nat.le_of_ble_eq_true rfl), (Nat.le_of_ble_eq_true rfl)⟩ (Nat.le_of_ble_eq_true rfl) ⟨rfl, rfl⟩ rfl (Nat.le_of_ble_eq_true rfl) (Nat.le_of_ble_eq_true rfl) ?_
  refine ⟨σ, _, rfl, hS, by omega, hVV.1.1, fun ha Sa Fa => ?_⟩
  have Ma : xs_Mo ha σ := xs_Mok hMo Fa
  obtain ⟨C, dk, hM, hR⟩ := id Ma
  refine xi_aload_n (q := 1522) dL_law_1521 rfl rfl ?_
  refine xi_aload_n (q := 1523) dL_law_1522 rfl rfl ?_
  refine xi_iload_n (q := 1524) dL_law_1523 rfl rfl ?_
  refine xi_iconst (x := 1) (q := 1525) dL_law_1524 (by decide) rfl ?_
  refine xi_iadd (q := 1526) dL_law_1525 rfl ?_
  refine xi_roald (j := 6) (w := (L, xs)) (q := 1527) dL_law_1526 rfl (by rw [show (nI (7 * k) + 1 : Int32) = nI (7 * k + 1) from nI_add _ _]; exact xv_ixN (k := 7 * k + 1) (m := L) (by omega) (by omega)) rfl rfl ?_
  refine xv_cV1 (q := 1530) xm_X9_kind ln_L_142 dL_law_1527 ⟨by omega, xs_M83 hM⟩ rfl ⟨(Nat.le_of_ble_eq_true rfl), (Nat.le_of_ble_eq_true rfl)⟩ (Nat.le_of_ble_eq_true rfl) ⟨rfl, rfl⟩ rfl (Nat.le_of_ble_eq_true rfl) (Nat.le_of_ble_eq_true rfl) ?_
  refine ⟨σ, _, rfl, Ma, by omega, hVV.1.1, fun hb Mb Fb => ?_⟩
  have Sb := xs_Sk Sa (fun i hi => Fb i (Or.inl hi))
  refine xi_icmp_eq (q := 1533) (q2 := 1693) dL_law_1530 (by decide) rfl (fun c_1530 => ?_) (fun c_1530 => ?_)
  · exact K hb _ Sb Mb (xq_kind hVV _)
  · exact absurd rfl c_1530
set_option maxRecDepth 20000 in
set_option maxHeartbeats 2000000 in
/-- is -/
theorem xl_c31 {L : Nat} {xs : Nat → Int32} {k : Nat} {h : xv_H} {σ : xs_Sg} (hL : L ≤ 3584) (hk : 7 * k + 7 ≤ L) (hS : xs_S h σ) (hMo : xs_Mo h σ) (hVV : xs_VV σ) (K : ∀ (hb : xv_H) (σ' : xs_Sg), xs_S hb σ' → xs_Mo hb σ' → xs_VV σ' → xv_V (L, xs) mL_law xl_P 104 25323 1693 [(0, .ref 1006), (1, .ref 0), (2, .ref 83), (3, .int (nI (7 * k)))] [] hb 104) : xv_V (L, xs) mL_law xl_P 104 25323 1535 [(0, .ref 1006), (1, .ref 0), (2, .ref 83), (3, .int (nI (7 * k)))] [] h 104 := by
  refine xi_aload_n (q := 1536) dL_law_1535 rfl rfl ?_
  refine xi_aload_n (q := 1537) dL_law_1536 rfl rfl ?_
  refine xi_iload_n (q := 1538) dL_law_1537 rfl rfl ?_
  refine xi_iconst (x := 1) (q := 1539) dL_law_1538 (by decide) rfl ?_
  refine xi_iadd (q := 1540) dL_law_1539 rfl ?_
  refine xi_roald (j := 6) (w := (L, xs)) (q := 1541) dL_law_1540 rfl (by rw [show (nI (7 * k) + 1 : Int32) = nI (7 * k + 1) from nI_add _ _]; exact xv_ixN (k := 7 * k + 1) (m := L) (by omega) (by omega)) rfl rfl ?_
  refine xi_aload_n (q := 1542) dL_law_1541 rfl rfl ?_
  refine xi_iload_n (q := 1543) dL_law_1542 rfl rfl ?_
  refine xi_iconst (x := 2) (q := 1544) dL_law_1543 (by decide) rfl ?_
  refine xi_iadd (q := 1545) dL_law_1544 rfl ?_
  refine xi_roald (j := 6) (w := (L, xs)) (q := 1546) dL_law_1545 rfl (by rw [show (nI (7 * k) + 2 : Int32) = nI (7 * k + 2) from nI_add _ _]; exact xv_ixN (k := 7 * k + 2) (m := L) (by omega) (by omega)) rfl rfl ?_
  refine xv_cV2 (q := 1549) xm_X8_is ln_L_143 dL_law_1546 ⟨by omega, hS.1.1⟩ rfl ⟨(Nat.le_of_ble_eq_true rfl), (Nat.le_of_ble_eq_true rfl)⟩ (Nat.le_of_ble_eq_true rfl) ⟨rfl, rfl⟩ rfl (Nat.le_of_ble_eq_true rfl) (Nat.le_of_ble_eq_true rfl) ?_
  refine ⟨σ, _, _, rfl, hS, by omega, hVV.1.1, fun ha Sa Fa => ?_⟩
  have Ma : xs_Mo ha σ := xs_Mok hMo Fa
  obtain ⟨C, dk, hM, hR⟩ := id Ma
  refine xi_aload_n (q := 1550) dL_law_1549 rfl rfl ?_
  refine xi_aload_n (q := 1551) dL_law_1550 rfl rfl ?_
  refine xi_iload_n (q := 1552) dL_law_1551 rfl rfl ?_
  refine xi_iconst (x := 1) (q := 1553) dL_law_1552 (by decide) rfl ?_
  refine xi_iadd (q := 1554) dL_law_1553 rfl ?_
  refine xi_roald (j := 6) (w := (L, xs)) (q := 1555) dL_law_1554 rfl (by rw [show (nI (7 * k) + 1 : Int32) = nI (7 * k + 1) from nI_add _ _]; exact xv_ixN (k := 7 * k + 1) (m := L) (by omega) (by omega)) rfl rfl ?_
  refine xi_aload_n (q := 1556) dL_law_1555 rfl rfl ?_
  refine xi_iload_n (q := 1557) dL_law_1556 rfl rfl ?_
  refine xi_iconst (x := 2) (q := 1558) dL_law_1557 (by decide) rfl ?_
  refine xi_iadd (q := 1559) dL_law_1558 rfl ?_
  refine xi_roald (j := 6) (w := (L, xs)) (q := 1560) dL_law_1559 rfl (by rw [show (nI (7 * k) + 2 : Int32) = nI (7 * k + 2) from nI_add _ _]; exact xv_ixN (k := 7 * k + 2) (m := L) (by omega) (by omega)) rfl rfl ?_
  refine xv_cV2 (q := 1563) xm_X9_is ln_L_146 dL_law_1560 ⟨by omega, xs_M83 hM⟩ rfl ⟨(Nat.le_of_ble_eq_true rfl), (Nat.le_of_ble_eq_true rfl)⟩ (Nat.le_of_ble_eq_true rfl) ⟨rfl, rfl⟩ rfl (Nat.le_of_ble_eq_true rfl) (Nat.le_of_ble_eq_true rfl) ?_
  refine ⟨σ, _, _, rfl, Ma, by omega, hVV.1.1, fun hb Mb Fb => ?_⟩
  have Sb := xs_Sk Sa (fun i hi => Fb i (Or.inl hi))
  refine xi_icmp_eq (q := 1566) (q2 := 1693) dL_law_1563 (by decide) rfl (fun c_1563 => ?_) (fun c_1563 => ?_)
  · exact K hb _ Sb Mb (xq_is hVV _ _)
  · exact absurd rfl c_1563
set_option maxRecDepth 20000 in
set_option maxHeartbeats 2000000 in
/-- as -/
theorem xl_c32 {L : Nat} {xs : Nat → Int32} {k : Nat} {h : xv_H} {σ : xs_Sg} (hL : L ≤ 3584) (hk : 7 * k + 7 ≤ L) (hS : xs_S h σ) (hMo : xs_Mo h σ) (hVV : xs_VV σ) (K : ∀ (hb : xv_H) (σ' : xs_Sg), xs_S hb σ' → xs_Mo hb σ' → xs_VV σ' → xv_V (L, xs) mL_law xl_P 104 25323 1693 [(0, .ref 1006), (1, .ref 0), (2, .ref 83), (3, .int (nI (7 * k)))] [] hb 104) : xv_V (L, xs) mL_law xl_P 104 25323 1568 [(0, .ref 1006), (1, .ref 0), (2, .ref 83), (3, .int (nI (7 * k)))] [] h 104 := by
  refine xi_aload_n (q := 1569) dL_law_1568 rfl rfl ?_
  refine xi_aload_n (q := 1570) dL_law_1569 rfl rfl ?_
  refine xi_iload_n (q := 1571) dL_law_1570 rfl rfl ?_
  refine xi_iconst (x := 1) (q := 1572) dL_law_1571 (by decide) rfl ?_
  refine xi_iadd (q := 1573) dL_law_1572 rfl ?_
  refine xi_roald (j := 6) (w := (L, xs)) (q := 1574) dL_law_1573 rfl (by rw [show (nI (7 * k) + 1 : Int32) = nI (7 * k + 1) from nI_add _ _]; exact xv_ixN (k := 7 * k + 1) (m := L) (by omega) (by omega)) rfl rfl ?_
  refine xi_aload_n (q := 1575) dL_law_1574 rfl rfl ?_
  refine xi_iload_n (q := 1576) dL_law_1575 rfl rfl ?_
  refine xi_iconst (x := 2) (q := 1577) dL_law_1576 (by decide) rfl ?_
  refine xi_iadd (q := 1578) dL_law_1577 rfl ?_
  refine xi_roald (j := 6) (w := (L, xs)) (q := 1579) dL_law_1578 rfl (by rw [show (nI (7 * k) + 2 : Int32) = nI (7 * k + 2) from nI_add _ _]; exact xv_ixN (k := 7 * k + 2) (m := L) (by omega) (by omega)) rfl rfl ?_
  refine xv_cV2 (q := 1582) xm_X8_as ln_L_147 dL_law_1579 ⟨by omega, hS.1.1⟩ rfl ⟨(Nat.le_of_ble_eq_true rfl), (Nat.le_of_ble_eq_true rfl)⟩ (Nat.le_of_ble_eq_true rfl) ⟨rfl, rfl⟩ rfl (Nat.le_of_ble_eq_true rfl) (Nat.le_of_ble_eq_true rfl) ?_
  refine ⟨σ, _, _, rfl, hS, by omega, hVV.1.1, fun ha Sa Fa => ?_⟩
  have Ma : xs_Mo ha σ := xs_Mok hMo Fa
  obtain ⟨C, dk, hM, hR⟩ := id Ma
  refine xi_aload_n (q := 1583) dL_law_1582 rfl rfl ?_
  refine xi_aload_n (q := 1584) dL_law_1583 rfl rfl ?_
  refine xi_iload_n (q := 1585) dL_law_1584 rfl rfl ?_
  refine xi_iconst (x := 1) (q := 1586) dL_law_1585 (by decide) rfl ?_
  refine xi_iadd (q := 1587) dL_law_1586 rfl ?_
  refine xi_roald (j := 6) (w := (L, xs)) (q := 1588) dL_law_1587 rfl (by rw [show (nI (7 * k) + 1 : Int32) = nI (7 * k + 1) from nI_add _ _]; exact xv_ixN (k := 7 * k + 1) (m := L) (by omega) (by omega)) rfl rfl ?_
  refine xi_aload_n (q := 1589) dL_law_1588 rfl rfl ?_
  refine xi_iload_n (q := 1590) dL_law_1589 rfl rfl ?_
  refine xi_iconst (x := 2) (q := 1591) dL_law_1590 (by decide) rfl ?_
  refine xi_iadd (q := 1592) dL_law_1591 rfl ?_
  refine xi_roald (j := 6) (w := (L, xs)) (q := 1593) dL_law_1592 rfl (by rw [show (nI (7 * k) + 2 : Int32) = nI (7 * k + 2) from nI_add _ _]; exact xv_ixN (k := 7 * k + 2) (m := L) (by omega) (by omega)) rfl rfl ?_
  refine xv_cV2 (q := 1596) xm_X9_as ln_L_150 dL_law_1593 ⟨by omega, xs_M83 hM⟩ rfl ⟨(Nat.le_of_ble_eq_true rfl), (Nat.le_of_ble_eq_true rfl)⟩ (Nat.le_of_ble_eq_true rfl) ⟨rfl, rfl⟩ rfl (Nat.le_of_ble_eq_true rfl) (Nat.le_of_ble_eq_true rfl) ?_
  refine ⟨σ, _, _, rfl, Ma, by omega, hVV.1.1, fun hb Mb Fb => ?_⟩
  have Sb := xs_Sk Sa (fun i hi => Fb i (Or.inl hi))
  refine xi_icmp_eq (q := 1599) (q2 := 1693) dL_law_1596 (by decide) rfl (fun c_1596 => ?_) (fun c_1596 => ?_)
  · exact K hb _ Sb Mb (xq_asK hVV _ _)
  · exact absurd rfl c_1596
set_option maxRecDepth 20000 in
set_option maxHeartbeats 2000000 in
/-- ask -/
theorem xl_c33 {L : Nat} {xs : Nat → Int32} {k : Nat} {h : xv_H} {σ : xs_Sg} (hL : L ≤ 3584) (hk : 7 * k + 7 ≤ L) (hS : xs_S h σ) (hMo : xs_Mo h σ) (hVV : xs_VV σ) (K : ∀ (hb : xv_H) (σ' : xs_Sg), xs_S hb σ' → xs_Mo hb σ' → xs_VV σ' → xv_V (L, xs) mL_law xl_P 104 25323 1693 [(0, .ref 1006), (1, .ref 0), (2, .ref 83), (3, .int (nI (7 * k)))] [] hb 104) : xv_V (L, xs) mL_law xl_P 104 25323 1601 [(0, .ref 1006), (1, .ref 0), (2, .ref 83), (3, .int (nI (7 * k)))] [] h 104 := by
  refine xi_aload_n (q := 1602) dL_law_1601 rfl rfl ?_
  refine xi_aload_n (q := 1603) dL_law_1602 rfl rfl ?_
  refine xi_iload_n (q := 1604) dL_law_1603 rfl rfl ?_
  refine xi_iconst (x := 1) (q := 1605) dL_law_1604 (by decide) rfl ?_
  refine xi_iadd (q := 1606) dL_law_1605 rfl ?_
  refine xi_roald (j := 6) (w := (L, xs)) (q := 1607) dL_law_1606 rfl (by rw [show (nI (7 * k) + 1 : Int32) = nI (7 * k + 1) from nI_add _ _]; exact xv_ixN (k := 7 * k + 1) (m := L) (by omega) (by omega)) rfl rfl ?_
  refine xi_aload_n (q := 1608) dL_law_1607 rfl rfl ?_
  refine xi_iload_n (q := 1609) dL_law_1608 rfl rfl ?_
  refine xi_iconst (x := 2) (q := 1610) dL_law_1609 (by decide) rfl ?_
  refine xi_iadd (q := 1611) dL_law_1610 rfl ?_
  refine xi_roald (j := 6) (w := (L, xs)) (q := 1612) dL_law_1611 rfl (by rw [show (nI (7 * k) + 2 : Int32) = nI (7 * k + 2) from nI_add _ _]; exact xv_ixN (k := 7 * k + 2) (m := L) (by omega) (by omega)) rfl rfl ?_
  refine xv_cV2 (q := 1615) xm_X8_ask ln_L_151 dL_law_1612 ⟨by omega, hS.1.1⟩ rfl ⟨(Nat.le_of_ble_eq_true rfl), (Nat.le_of_ble_eq_true rfl)⟩ (Nat.le_of_ble_eq_true rfl) ⟨rfl, rfl⟩ rfl (Nat.le_of_ble_eq_true rfl) (Nat.le_of_ble_eq_true rfl) ?_
  refine ⟨σ, _, _, rfl, hS, by omega, hVV.1.1, fun ha Sa Fa => ?_⟩
  have Ma : xs_Mo ha σ := xs_Mok hMo Fa
  obtain ⟨C, dk, hM, hR⟩ := id Ma
  refine xi_aload_n (q := 1616) dL_law_1615 rfl rfl ?_
  refine xi_aload_n (q := 1617) dL_law_1616 rfl rfl ?_
  refine xi_iload_n (q := 1618) dL_law_1617 rfl rfl ?_
  refine xi_iconst (x := 1) (q := 1619) dL_law_1618 (by decide) rfl ?_
  refine xi_iadd (q := 1620) dL_law_1619 rfl ?_
  refine xi_roald (j := 6) (w := (L, xs)) (q := 1621) dL_law_1620 rfl (by rw [show (nI (7 * k) + 1 : Int32) = nI (7 * k + 1) from nI_add _ _]; exact xv_ixN (k := 7 * k + 1) (m := L) (by omega) (by omega)) rfl rfl ?_
  refine xi_aload_n (q := 1622) dL_law_1621 rfl rfl ?_
  refine xi_iload_n (q := 1623) dL_law_1622 rfl rfl ?_
  refine xi_iconst (x := 2) (q := 1624) dL_law_1623 (by decide) rfl ?_
  refine xi_iadd (q := 1625) dL_law_1624 rfl ?_
  refine xi_roald (j := 6) (w := (L, xs)) (q := 1626) dL_law_1625 rfl (by rw [show (nI (7 * k) + 2 : Int32) = nI (7 * k + 2) from nI_add _ _]; exact xv_ixN (k := 7 * k + 2) (m := L) (by omega) (by omega)) rfl rfl ?_
  refine xv_cV2 (q := 1629) xm_X9_ask ln_L_154 dL_law_1626 ⟨by omega, xs_M83 hM⟩ rfl ⟨(Nat.le_of_ble_eq_true rfl), (Nat.le_of_ble_eq_true rfl)⟩ (Nat.le_of_ble_eq_true rfl) ⟨rfl, rfl⟩ rfl (Nat.le_of_ble_eq_true rfl) (Nat.le_of_ble_eq_true rfl) ?_
  refine ⟨σ, _, _, rfl, Ma, by omega, hVV.1.1, fun hb Mb Fb => ?_⟩
  have Sb := xs_Sk Sa (fun i hi => Fb i (Or.inl hi))
  refine xi_icmp_eq (q := 1632) (q2 := 1693) dL_law_1629 (by decide) rfl (fun c_1629 => ?_) (fun c_1629 => ?_)
  · exact K hb _ Sb Mb (xq_ask hVV _ _)
  · exact absurd rfl c_1629
set_option maxRecDepth 20000 in
set_option maxHeartbeats 2000000 in
/-- trace -/
theorem xl_c34 {L : Nat} {xs : Nat → Int32} {k : Nat} {h : xv_H} {σ : xs_Sg} (hL : L ≤ 3584) (hk : 7 * k + 7 ≤ L) (hS : xs_S h σ) (hMo : xs_Mo h σ) (hVV : xs_VV σ) (K : ∀ (hb : xv_H) (σ' : xs_Sg), xs_S hb σ' → xs_Mo hb σ' → xs_VV σ' → xv_V (L, xs) mL_law xl_P 104 25323 1693 [(0, .ref 1006), (1, .ref 0), (2, .ref 83), (3, .int (nI (7 * k)))] [] hb 104) : xv_V (L, xs) mL_law xl_P 104 25323 1634 [(0, .ref 1006), (1, .ref 0), (2, .ref 83), (3, .int (nI (7 * k)))] [] h 104 := by
  refine xi_aload_n (q := 1635) dL_law_1634 rfl rfl ?_
  refine xi_aload_n (q := 1636) dL_law_1635 rfl rfl ?_
  refine xi_iload_n (q := 1637) dL_law_1636 rfl rfl ?_
  refine xi_iconst (x := 1) (q := 1638) dL_law_1637 (by decide) rfl ?_
  refine xi_iadd (q := 1639) dL_law_1638 rfl ?_
  refine xi_roald (j := 6) (w := (L, xs)) (q := 1640) dL_law_1639 rfl (by rw [show (nI (7 * k) + 1 : Int32) = nI (7 * k + 1) from nI_add _ _]; exact xv_ixN (k := 7 * k + 1) (m := L) (by omega) (by omega)) rfl rfl ?_
  refine xv_cV1 (q := 1643) xm_X8_trace ln_L_155 dL_law_1640 ⟨by omega, hS.1.1⟩ rfl ⟨(Nat.le_of_ble_eq_true rfl), (Nat.le_of_ble_eq_true rfl)⟩ (Nat.le_of_ble_eq_true rfl) ⟨rfl, rfl⟩ rfl (Nat.le_of_ble_eq_true rfl) (Nat.le_of_ble_eq_true rfl) ?_
  refine ⟨σ, _, rfl, hS, by omega, hVV.1.1, fun ha Sa Fa => ?_⟩
  have Ma : xs_Mo ha σ := xs_Mok hMo Fa
  obtain ⟨C, dk, hM, hR⟩ := id Ma
  refine xi_aload_n (q := 1644) dL_law_1643 rfl rfl ?_
  refine xi_aload_n (q := 1645) dL_law_1644 rfl rfl ?_
  refine xi_iload_n (q := 1646) dL_law_1645 rfl rfl ?_
  refine xi_iconst (x := 1) (q := 1647) dL_law_1646 (by decide) rfl ?_
  refine xi_iadd (q := 1648) dL_law_1647 rfl ?_
  refine xi_roald (j := 6) (w := (L, xs)) (q := 1649) dL_law_1648 rfl (by rw [show (nI (7 * k) + 1 : Int32) = nI (7 * k + 1) from nI_add _ _]; exact xv_ixN (k := 7 * k + 1) (m := L) (by omega) (by omega)) rfl rfl ?_
  refine xv_cV1 (q := 1652) xm_X9_trace ln_L_158 dL_law_1649 ⟨by omega, xs_M83 hM⟩ rfl ⟨(Nat.le_of_ble_eq_true rfl), (Nat.le_of_ble_eq_true rfl)⟩ (Nat.le_of_ble_eq_true rfl) ⟨rfl, rfl⟩ rfl (Nat.le_of_ble_eq_true rfl) (Nat.le_of_ble_eq_true rfl) ?_
  refine ⟨σ, _, rfl, Ma, by omega, hVV.1.1, fun hb Mb Fb => ?_⟩
  have Sb := xs_Sk Sa (fun i hi => Fb i (Or.inl hi))
  refine xi_icmp_eq (q := 1655) (q2 := 1693) dL_law_1652 (by decide) rfl (fun c_1652 => ?_) (fun c_1652 => ?_)
  · exact K hb _ Sb Mb (xq_trace hVV _)
  · exact absurd rfl c_1652
set_option maxRecDepth 20000 in
set_option maxHeartbeats 2000000 in
/-- count -/
theorem xl_c35 {L : Nat} {xs : Nat → Int32} {k : Nat} {h : xv_H} {σ : xs_Sg} (hL : L ≤ 3584) (hk : 7 * k + 7 ≤ L) (hS : xs_S h σ) (hMo : xs_Mo h σ) (hVV : xs_VV σ) (K : ∀ (hb : xv_H) (σ' : xs_Sg), xs_S hb σ' → xs_Mo hb σ' → xs_VV σ' → xv_V (L, xs) mL_law xl_P 104 25323 1693 [(0, .ref 1006), (1, .ref 0), (2, .ref 83), (3, .int (nI (7 * k)))] [] hb 104) : xv_V (L, xs) mL_law xl_P 104 25323 1657 [(0, .ref 1006), (1, .ref 0), (2, .ref 83), (3, .int (nI (7 * k)))] [] h 104 := by
  refine xi_aload_n (q := 1658) dL_law_1657 rfl rfl ?_
  refine xi_aload_n (q := 1659) dL_law_1658 rfl rfl ?_
  refine xi_iload_n (q := 1660) dL_law_1659 rfl rfl ?_
  refine xi_iconst (x := 1) (q := 1661) dL_law_1660 (by decide) rfl ?_
  refine xi_iadd (q := 1662) dL_law_1661 rfl ?_
  refine xi_roald (j := 6) (w := (L, xs)) (q := 1663) dL_law_1662 rfl (by rw [show (nI (7 * k) + 1 : Int32) = nI (7 * k + 1) from nI_add _ _]; exact xv_ixN (k := 7 * k + 1) (m := L) (by omega) (by omega)) rfl rfl ?_
  refine xv_cV1 (q := 1666) xm_X8_count ln_L_159 dL_law_1663 ⟨by omega, hS.1.1⟩ rfl ⟨(Nat.le_of_ble_eq_true rfl), (Nat.le_of_ble_eq_true rfl)⟩ (Nat.le_of_ble_eq_true rfl) ⟨rfl, rfl⟩ rfl (Nat.le_of_ble_eq_true rfl) (Nat.le_of_ble_eq_true rfl) ?_
  refine ⟨σ, _, rfl, hS, by omega, hVV.1.1, fun ha Sa Fa => ?_⟩
  have Ma : xs_Mo ha σ := xs_Mok hMo Fa
  obtain ⟨C, dk, hM, hR⟩ := id Ma
  refine xi_aload_n (q := 1667) dL_law_1666 rfl rfl ?_
  refine xi_aload_n (q := 1668) dL_law_1667 rfl rfl ?_
  refine xi_iload_n (q := 1669) dL_law_1668 rfl rfl ?_
  refine xi_iconst (x := 1) (q := 1670) dL_law_1669 (by decide) rfl ?_
  refine xi_iadd (q := 1671) dL_law_1670 rfl ?_
  refine xi_roald (j := 6) (w := (L, xs)) (q := 1672) dL_law_1671 rfl (by rw [show (nI (7 * k) + 1 : Int32) = nI (7 * k + 1) from nI_add _ _]; exact xv_ixN (k := 7 * k + 1) (m := L) (by omega) (by omega)) rfl rfl ?_
  refine xv_cV1 (q := 1675) xm_X9_count ln_L_162 dL_law_1672 ⟨by omega, xs_M83 hM⟩ rfl ⟨(Nat.le_of_ble_eq_true rfl), (Nat.le_of_ble_eq_true rfl)⟩ (Nat.le_of_ble_eq_true rfl) ⟨rfl, rfl⟩ rfl (Nat.le_of_ble_eq_true rfl) (Nat.le_of_ble_eq_true rfl) ?_
  refine ⟨σ, _, rfl, Ma, by omega, hVV.1.1, fun hb Mb Fb => ?_⟩
  have Sb := xs_Sk Sa (fun i hi => Fb i (Or.inl hi))
  refine xi_icmp_eq (q := 1678) (q2 := 1693) dL_law_1675 (by decide) rfl (fun c_1675 => ?_) (fun c_1675 => ?_)
  · exact K hb _ Sb Mb (xq_count hVV _)
  · exact absurd rfl c_1675
set_option maxRecDepth 20000 in
set_option maxHeartbeats 2000000 in
/-- status -/
theorem xl_c36 {L : Nat} {xs : Nat → Int32} {k : Nat} {h : xv_H} {σ : xs_Sg} (hL : L ≤ 3584) (hk : 7 * k + 7 ≤ L) (hS : xs_S h σ) (hMo : xs_Mo h σ) (hVV : xs_VV σ) (K : ∀ (hb : xv_H) (σ' : xs_Sg), xs_S hb σ' → xs_Mo hb σ' → xs_VV σ' → xv_V (L, xs) mL_law xl_P 104 25323 1693 [(0, .ref 1006), (1, .ref 0), (2, .ref 83), (3, .int (nI (7 * k)))] [] hb 104) : xv_V (L, xs) mL_law xl_P 104 25323 1680 [(0, .ref 1006), (1, .ref 0), (2, .ref 83), (3, .int (nI (7 * k)))] [] h 104 := by
  refine xi_aload_n (q := 1681) dL_law_1680 rfl rfl ?_
  refine xv_cV0 (q := 1684) xm_X8_status ln_L_163 dL_law_1681 ⟨by omega, hS.1.1⟩ rfl ⟨(Nat.le_of_ble_eq_true rfl), (Nat.le_of_ble_eq_true rfl)⟩ (Nat.le_of_ble_eq_true rfl) ⟨rfl, rfl⟩ rfl (Nat.le_of_ble_eq_true rfl) (Nat.le_of_ble_eq_true rfl) ?_
  refine ⟨σ, rfl, hS, by omega, hVV.1.1, fun ha Sa Fa => ?_⟩
  have Ma : xs_Mo ha σ := xs_Mok hMo Fa
  obtain ⟨C, dk, hM, hR⟩ := id Ma
  refine xi_aload_n (q := 1685) dL_law_1684 rfl rfl ?_
  refine xv_cV0 (q := 1688) xm_X9_status ln_L_167 dL_law_1685 ⟨by omega, xs_M83 hM⟩ rfl ⟨(Nat.le_of_ble_eq_true rfl), (Nat.le_of_ble_eq_true rfl)⟩ (Nat.le_of_ble_eq_true rfl) ⟨rfl, rfl⟩ rfl (Nat.le_of_ble_eq_true rfl) (Nat.le_of_ble_eq_true rfl) ?_
  refine ⟨σ, rfl, Ma, by omega, hVV.1.1, fun hb Mb Fb => ?_⟩
  have Sb := xs_Sk Sa (fun i hi => Fb i (Or.inl hi))
  refine xi_icmp_eq (q := 1691) (q2 := 1693) dL_law_1688 (by decide) rfl (fun c_1688 => ?_) (fun c_1688 => ?_)
  · exact K hb _ Sb Mb (xq_status hVV)
  · exact absurd rfl c_1688
set_option maxRecDepth 20000 in
set_option maxHeartbeats 4000000 in
/-- the law's loop -/
theorem xl_loop {L : Nat} {xs : Nat → Int32} (hL : L ≤ 3584) : ∀ (d k : Nat) (h : xv_H) (σ : xs_Sg), L + 7 - 7 * k = d → xs_S h σ → xs_Mo h σ → xs_VV σ → 7 * k ≤ L + 7 → xv_V (L, xs) mL_law xl_P 104 25323 18 [(0, .ref 1006), (1, .ref 0), (2, .ref 83), (3, .int (nI (7 * k)))] [] h 104 := by
  intro d
  induction d using Nat.strongRecOn with
  | _ d ih =>
    intro k h σ hd hS hMo hVV hkL
    refine xi_iload_n (q := 19) dL_law_18 rfl rfl ?_
    refine xi_aload_n (q := 20) dL_law_19 rfl rfl ?_
    refine xi_rolen (j := 6) (w := (L, xs)) (x := nI L) (q := 21) dL_law_20 rfl rfl rfl ?_
    refine xi_bipush (x := 7) (q := 23) dL_law_21 (by decide) rfl ?_
    refine xi_isub (q := 24) dL_law_23 rfl ?_
    refine xi_icmp_gt (q := 27) (q2 := 1699) dL_law_24 (by decide) rfl (fun c_24 => ?_) (fun c_24 => ?_)
    · skip
      refine xi_iconst (x := 1) (q := 1700) dL_law_1699 (by decide) rfl ?_
      refine xi_ret ⟨_, rfl, rfl, dL_law_1700⟩ (Nat.le_of_ble_eq_true rfl) (Nat.le_of_ble_eq_true rfl) ?_
      exact rfl
    · have hk2 : 7 * k + 7 ≤ L := by
        rcases Nat.lt_or_ge L (7 * k + 7) with z | z
        · refine absurd ?_ c_24
          rw [xn_lt, xn_sub (by rw [xn_NI (by omega), show (7 : Int32).toInt = 7 from rfl]; omega) (by rw [xn_NI (by omega), show (7 : Int32).toInt = 7 from rfl]; omega), xn_NI (by omega), xn_NI (by omega), show (7 : Int32).toInt = 7 from rfl]
          omega
        · exact z
      refine xi_aload_n (q := 28) dL_law_27 rfl rfl ?_
      refine xi_iload_n (q := 29) dL_law_28 rfl rfl ?_
      refine xi_roald (j := 6) (w := (L, xs)) (q := 30) dL_law_29 rfl (xv_ixN (k := 7 * k) (m := L) (by omega) (by omega)) rfl rfl ?_
      refine xi_bipush (x := 63) (q := 32) dL_law_30 (by decide) rfl ?_
      refine xi_iand (q := 33) dL_law_32 rfl ?_
      have K2 : ∀ (hb : xv_H) (σ' : xs_Sg), xs_S hb σ' → xs_Mo hb σ' → xs_VV σ' → xv_V (L, xs) mL_law xl_P 104 25323 1693 [(0, .ref 1006), (1, .ref 0), (2, .ref 83), (3, .int (nI (7 * k)))] [] hb 104 := by
        intro hb σ' S2 M2 V2
        refine xi_iinc (y := nI (7 * (k + 1))) (q := 1696) dL_law_1693 rfl (show nI (7 * k) + Int32.ofInt 7 = nI (7 * (k + 1)) from nI_add (7 * k) 7) (Nat.le_of_ble_eq_true rfl) rfl ?_
        refine xi_goto (q := 18) dL_law_1696 (by decide) ?_
        refine xv_weakS (lv' := [(0, .ref 1006), (1, .ref 0), (2, .ref 83), (3, .int (nI (7 * (k + 1))))]) ⟨rfl, rfl, rfl, rfl, trivial⟩ ?_
        exact ih (L + 7 - 7 * (k + 1)) (by omega) (k + 1) hb σ' rfl S2 M2 V2 (by omega)
      obtain ⟨jj, hj, ej⟩ := pk_andE (xs (7 * k)) (m := 63) 6 (by decide)
      rw [show ((L, xs) : Nat × (Nat → Int32)).2 (7 * k) &&& 63 = nI jj from ej]
      rcases (show jj = 0 ∨ jj = 1 ∨ jj = 2 ∨ jj = 3 ∨ jj = 4 ∨ jj = 5 ∨ jj = 6 ∨ jj = 7 ∨ jj = 8 ∨ jj = 9 ∨ jj = 10 ∨ jj = 11 ∨ jj = 12 ∨ jj = 13 ∨ jj = 14 ∨ jj = 15 ∨ jj = 16 ∨ jj = 17 ∨ jj = 18 ∨ jj = 19 ∨ jj = 20 ∨ jj = 21 ∨ jj = 22 ∨ jj = 23 ∨ jj = 24 ∨ jj = 25 ∨ jj = 26 ∨ jj = 27 ∨ jj = 28 ∨ jj = 29 ∨ jj = 30 ∨ jj = 31 ∨ jj = 32 ∨ jj = 33 ∨ jj = 34 ∨ jj = 35 ∨ jj = 36 ∨ 36 < jj from by omega) with rfl | rfl | rfl | rfl | rfl | rfl | rfl | rfl | rfl | rfl | rfl | rfl | rfl | rfl | rfl | rfl | rfl | rfl | rfl | rfl | rfl | rfl | rfl | rfl | rfl | rfl | rfl | rfl | rfl | rfl | rfl | rfl | rfl | rfl | rfl | rfl | rfl | hbig
      · refine xi_tableIn (q := 196) dL_law_33 (by decide) (by decide) rfl (by decide) ?_
        exact xl_c0 hL hk2 hS hMo hVV K2
      · refine xi_tableIn (q := 239) dL_law_33 (by decide) (by decide) rfl (by decide) ?_
        exact xl_c1 hL hk2 hS hMo hVV K2
      · refine xi_tableIn (q := 282) dL_law_33 (by decide) (by decide) rfl (by decide) ?_
        exact xl_c2 hL hk2 hS hMo hVV K2
      · refine xi_tableIn (q := 345) dL_law_33 (by decide) (by decide) rfl (by decide) ?_
        exact xl_c3 hL hk2 hS hMo hVV K2
      · refine xi_tableIn (q := 368) dL_law_33 (by decide) (by decide) rfl (by decide) ?_
        exact xl_c4 hL hk2 hS hMo hVV K2
      · refine xi_tableIn (q := 411) dL_law_33 (by decide) (by decide) rfl (by decide) ?_
        exact xl_c5 hL hk2 hS hMo hVV K2
      · refine xi_tableIn (q := 454) dL_law_33 (by decide) (by decide) rfl (by decide) ?_
        exact xl_c6 hL hk2 hS hMo hVV K2
      · refine xi_tableIn (q := 487) dL_law_33 (by decide) (by decide) rfl (by decide) ?_
        exact xl_c7 hL hk2 hS hMo hVV K2
      · refine xi_tableIn (q := 520) dL_law_33 (by decide) (by decide) rfl (by decide) ?_
        exact xl_c8 hL hk2 hS hMo hVV K2
      · refine xi_tableIn (q := 543) dL_law_33 (by decide) (by decide) rfl (by decide) ?_
        exact xl_c9 hL hk2 hS hMo hVV K2
      · refine xi_tableIn (q := 576) dL_law_33 (by decide) (by decide) rfl (by decide) ?_
        exact xl_c10 hL hk2 hS hMo hVV K2
      · refine xi_tableIn (q := 609) dL_law_33 (by decide) (by decide) rfl (by decide) ?_
        exact xl_c11 hL hk2 hS hMo hVV K2
      · refine xi_tableIn (q := 652) dL_law_33 (by decide) (by decide) rfl (by decide) ?_
        exact xl_c12 hL hk2 hS hMo hVV K2
      · refine xi_tableIn (q := 715) dL_law_33 (by decide) (by decide) rfl (by decide) ?_
        exact xl_c13 hL hk2 hS hMo hVV K2
      · refine xi_tableIn (q := 768) dL_law_33 (by decide) (by decide) rfl (by decide) ?_
        exact xl_c14 hL hk2 hS hMo hVV K2
      · refine xi_tableIn (q := 801) dL_law_33 (by decide) (by decide) rfl (by decide) ?_
        exact xl_c15 hL hk2 hS hMo hVV K2
      · refine xi_tableIn (q := 834) dL_law_33 (by decide) (by decide) rfl (by decide) ?_
        exact xl_c16 hL hk2 hS hMo hVV K2
      · refine xi_tableIn (q := 857) dL_law_33 (by decide) (by decide) rfl (by decide) ?_
        exact xl_c17 hL hk2 hS hMo hVV K2
      · refine xi_tableIn (q := 932) dL_law_33 (by decide) (by decide) rfl (by decide) ?_
        exact xl_c18 hL hk2 hS hMo hVV K2
      · refine xi_tableIn (q := 1007) dL_law_33 (by decide) (by decide) rfl (by decide) ?_
        exact xl_c19 hL hk2 hS hMo hVV K2
      · refine xi_tableIn (q := 1070) dL_law_33 (by decide) (by decide) rfl (by decide) ?_
        exact xl_c20 hL hk2 hS hMo hVV K2
      · refine xi_tableIn (q := 1133) dL_law_33 (by decide) (by decide) rfl (by decide) ?_
        exact xl_c21 hL hk2 hS hMo hVV K2
      · refine xi_tableIn (q := 1166) dL_law_33 (by decide) (by decide) rfl (by decide) ?_
        exact xl_c22 hL hk2 hS hMo hVV K2
      · refine xi_tableIn (q := 1209) dL_law_33 (by decide) (by decide) rfl (by decide) ?_
        exact xl_c23 hL hk2 hS hMo hVV K2
      · refine xi_tableIn (q := 1262) dL_law_33 (by decide) (by decide) rfl (by decide) ?_
        exact xl_c24 hL hk2 hS hMo hVV K2
      · refine xi_tableIn (q := 1315) dL_law_33 (by decide) (by decide) rfl (by decide) ?_
        exact xl_c25 hL hk2 hS hMo hVV K2
      · refine xi_tableIn (q := 1390) dL_law_33 (by decide) (by decide) rfl (by decide) ?_
        exact xl_c26 hL hk2 hS hMo hVV K2
      · refine xi_tableIn (q := 1423) dL_law_33 (by decide) (by decide) rfl (by decide) ?_
        exact xl_c27 hL hk2 hS hMo hVV K2
      · refine xi_tableIn (q := 1446) dL_law_33 (by decide) (by decide) rfl (by decide) ?_
        exact xl_c28 hL hk2 hS hMo hVV K2
      · refine xi_tableIn (q := 1489) dL_law_33 (by decide) (by decide) rfl (by decide) ?_
        exact xl_c29 hL hk2 hS hMo hVV K2
      · refine xi_tableIn (q := 1512) dL_law_33 (by decide) (by decide) rfl (by decide) ?_
        exact xl_c30 hL hk2 hS hMo hVV K2
      · refine xi_tableIn (q := 1535) dL_law_33 (by decide) (by decide) rfl (by decide) ?_
        exact xl_c31 hL hk2 hS hMo hVV K2
      · refine xi_tableIn (q := 1568) dL_law_33 (by decide) (by decide) rfl (by decide) ?_
        exact xl_c32 hL hk2 hS hMo hVV K2
      · refine xi_tableIn (q := 1601) dL_law_33 (by decide) (by decide) rfl (by decide) ?_
        exact xl_c33 hL hk2 hS hMo hVV K2
      · refine xi_tableIn (q := 1634) dL_law_33 (by decide) (by decide) rfl (by decide) ?_
        exact xl_c34 hL hk2 hS hMo hVV K2
      · refine xi_tableIn (q := 1657) dL_law_33 (by decide) (by decide) rfl (by decide) ?_
        exact xl_c35 hL hk2 hS hMo hVV K2
      · refine xi_tableIn (q := 1680) dL_law_33 (by decide) (by decide) rfl (by decide) ?_
        exact xl_c36 hL hk2 hS hMo hVV K2
      · refine xi_tableOut (q := 1693) dL_law_33 (Or.inr (by rw [xn_NI (by omega)]; omega)) (by decide) ?_
        exact K2 _ _ hS hMo hVV
set_option maxRecDepth 20000 in
set_option maxHeartbeats 4000000 in
/-- the law's body -/
theorem xl_body {L : Nat} {xs : Nat → Int32} (hL : L ≤ 3584) (h : xv_H) : xv_V (L, xs) mL_law xl_P 0 0 0 [(0, .ref 1006)] [] h 0 := by
  refine xi_new (ci := 8) (fs := [.null, .null, .null, .null, .null, .null, .null, .null, .null, .null, .null, .int 0, .int 0]) (q := 3) dL_law_0 rfl cw_X8 tyX8_ok nw_L_7 (by decide) (by decide) (by omega) (Nat.le_of_ble_eq_true rfl) (Nat.le_of_ble_eq_true rfl) rfl ?_
  show xv_V (L, xs) mL_law xl_P 1 13 3 _ _ _ 1
  refine xi_dup (q := 4) dL_law_3 rfl rfl ?_
  refine xv_cI (q := 7) xm_X8_init ln_L_9 dL_law_4 ⟨(Nat.le_of_ble_eq_true rfl), (Nat.le_of_ble_eq_true rfl)⟩ (Nat.le_of_ble_eq_true rfl) (Nat.le_of_ble_eq_true rfl) (Nat.le_of_ble_eq_true rfl) rfl ?_
  refine ⟨rfl, rfl, va_up_self _ _ _, fun h4 S4 => ?_⟩
  show xv_V (L, xs) mL_law xl_P 83 12738 7 _ _ h4 83
  refine xi_astore_n (q := 8) dL_law_7 (Nat.le_of_ble_eq_true rfl) rfl ?_
  refine xi_new (ci := 9) (fs := [.int 0, .int 0, .null, .null, .null, .null, .null, .null, .null, .null, .null, .null, .int 0, .int 0, .null, .long 0, .null, .null, .null, .null, .null, .int 0, .null, .null, .null, .int 0, .int 0, .int 0, .int 0, .int 0, .int 0, .null, .int 0]) (q := 11) dL_law_8 rfl cw_X9 tyX9_ok nw_L_10 (by decide) (by decide) (by omega) (Nat.le_of_ble_eq_true rfl) (Nat.le_of_ble_eq_true rfl) rfl ?_
  show xv_V (L, xs) mL_law xl_P 84 12771 11 _ _ _ 84
  refine xi_dup (q := 12) dL_law_11 rfl rfl ?_
  refine xv_cI (q := 15) xm_X9_init ln_L_12 dL_law_12 ⟨(Nat.le_of_ble_eq_true rfl), (Nat.le_of_ble_eq_true rfl)⟩ (Nat.le_of_ble_eq_true rfl) (Nat.le_of_ble_eq_true rfl) (Nat.le_of_ble_eq_true rfl) rfl ?_
  refine ⟨rfl, rfl, va_up_self _ _ _, fun h12 M12 f12 => ?_⟩
  have S12 := xs_Sk S4 (fun i hi => (f12 i hi).trans (va_up_ne _ _ (by omega)))
  show xv_V (L, xs) mL_law xl_P 104 25323 15 _ _ h12 104
  refine xi_astore_n (q := 16) dL_law_15 (Nat.le_of_ble_eq_true rfl) rfl ?_
  refine xi_iconst (x := 0) (q := 17) dL_law_16 (by decide) rfl ?_
  refine xi_istore_n (q := 18) dL_law_17 (Nat.le_of_ble_eq_true rfl) rfl ?_
  refine xv_weakS (lv' := [(0, .ref 1006), (1, .ref 0), (2, .ref 83), (3, .int (nI (7 * 0)))]) ⟨rfl, rfl, rfl, rfl, trivial⟩ ?_
  exact xl_loop hL (L + 7 - 7 * 0) 0 h12 xs_σ0 rfl S12 M12 xs_VV0 (by omega)
