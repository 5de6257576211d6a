/-! THE LAW: the script, what one side leaves of the other, the loop -/
theorem zM_rep.gS {σ τ : zq_T} {X : za_X} (h : zM_rep σ X) (hW : zx_wf X) (hg : zg_S σ τ) : zM_rep τ X :=
  ⟨⟨h.1.1.keep fun t k q => hg.2 _ _ _ (by omega), h.1.2.keep h.1.1.2.1 fun k _ _ => hg.2 _ _ _ (by omega)⟩, ⟨fun q => (h.2.1.1 q).keep ((zx_m5 h.1 hW).1 q) fun k _ _ => hg.2 _ _ _ (by omega), fun q => (h.2.1.2 q).keep ((zx_m5 h.1 hW).2 q) fun k _ _ => hg.2 _ _ _ (by omega)⟩, h.2.2.1.keep fun t k _ => hg.2 _ _ _ (by omega), h.2.2.2.1.keep fun t k _ _ => hg.2 _ _ _ (by omega), h.2.2.2.2.keep fun t k _ _ => hg.2 _ _ _ (by omega)⟩
theorem zs_rep.gM {σ τ : zq_T} {X : za_X} (h : zs_rep σ X) (hg : zg_M σ τ) : zs_rep τ X := by
  obtain ⟨h1, h2, h3, h4, h5, h6, h7, h8, h9⟩ := h
  refine ⟨by rw [hg.1]; exact h1, ?_, h3.keep fun t j k _ _ => hg.2 _ _ _ (by omega), ⟨(hg.2 _ _ _ (by omega)).trans h4.1, fun i hi => (hg.2 _ _ _ (by omega)).trans (h4.2 i hi)⟩, ⟨(hg.2 _ _ _ (by omega)).trans h5.1, (hg.2 _ _ _ (by omega)).trans h5.2⟩, ⟨(hg.2 _ _ _ (by omega)).trans h6.1, fun i hi => ⟨(hg.2 _ _ _ (by omega)).trans (h6.2 i hi).1, (hg.2 _ _ _ (by omega)).trans (h6.2 i hi).2⟩⟩, (hg.2 _ _ _ (by omega)).trans h7, fun q => (h8 q).keep fun t k _ _ => hg.2 _ _ _ (by omega), fun q => (h9 q).keep fun t k _ _ => hg.2 _ _ _ (by omega)⟩
  rw [hg.1]
  exact h2.keep fun t k _ _ => hg.2 _ _ _ (by omega)
section SCR
variable {ν : zq_E} {M : zq_M} {h : Nat} {Q : Option zq_V → zq_T → Prop} {pc : Nat} {ls : List (Option zq_V)} {st : List zq_V} {σ : zq_T}
theorem gq_slen (hd : decode M.2.1 pc = .ok (.arraylength, 1)) (kk : zq_G ν M h Q (pc + 1) ls (zq_I (nI ν.2.2.2.2.2) :: st) σ) : zq_G ν M h Q pc ls (zq_O 60 0 :: st) σ := by
  intro p l e R s m args below meth c cells slots Qm H locs arr hok hC hX hP hS hL
  have hJ := hC.2.2.2.2.2.2.1
  have hJx := hJ.2.2.2.2.1
  obtain ⟨scr, hs, -⟩ := id hJx
  exact va_slen hC.1 hC.2.1 hJx (Array.getElem?_eq_some_iff.mp hs).1 hJ.2.2.2.2.2.1 hS hd (kk p l e R s m args below meth c cells slots Qm H locs arr hok hC hX hP hS hL)
theorem gq_sld (i : Nat) {x : Int32} (hx : x = nI i) (hn : ν.2.2.2.2.2 ≤ 1000) (hi : i < ν.2.2.2.2.2) (hd : decode M.2.1 pc = .ok (.iaload, 1)) (kk : zq_G ν M h Q (pc + 1) ls (zq_I (ν.2.2.2.2.1 i) :: st) σ) : zq_G ν M h Q pc ls (zq_I x :: zq_O 60 0 :: st) σ := by
  subst hx
  intro p l e R s m args below meth c cells slots Qm H locs arr hok hC hX hP hS hL
  have hJ := hC.2.2.2.2.2.2.1
  have hJx := hJ.2.2.2.2.1
  obtain ⟨scr, hs, -⟩ := id hJx
  exact va_sld hC.1 hC.2.1 hJx (Array.getElem?_eq_some_iff.mp hs).1 hJ.2.2.2.2.2.1 hS (vp_in_nI hi (by omega)) hd (by rw [zq_cl31 hi hn]; exact kk p l e R s m args below meth c cells slots Qm H locs arr hok hC hX hP hS hL)
end SCR
theorem zl_lp {i L : Nat} (hL : L ≤ 320) (hi : i ≤ 1000) : nI L - 5 < nI i ↔ ¬ i + 5 ≤ L := by
  rw [show (5 : Int32) = nI 5 from rfl]
  by_cases h5 : 5 ≤ L
  · rw [pk_sub h5, nI_ltI (by omega) (by omega)]
    omega
  · have h1 := pk_sneg (a := L) (b := 5) (by omega) (by omega)
    have h2 := nI_pos' (n := i) (by omega)
    exact ⟨fun _ => by omega, fun _ => Int32.lt_of_lt_of_le h1 h2⟩
/-- answer 1 -/
def zl_Q : Option zq_V → zq_T → Prop := zq_rw (zq_I 1) (fun _ => True)
def zl_ls (i : Nat) : List (Option zq_V) := [some (zq_O 60 0), some (zq_O 0 0), some (zq_O 30 0), some (zq_I (nI i))]
/-- where both sides stand for the same state -/
def zl_at (σ : zq_T) (X : za_X) : Prop := zs_rep σ X ∧ zM_rep σ X ∧ zx_wf X
theorem dz_L_law_16 : decode zm_L_law.2.1 16 = .ok (.iconst 0, 1) := by decide +kernel
theorem dz_L_law_17 : decode zm_L_law.2.1 17 = .ok (.istore_n 3, 1) := by decide +kernel
theorem dz_L_law_18 : decode zm_L_law.2.1 18 = .ok (.iload_n 3, 1) := by decide +kernel
theorem dz_L_law_19 : decode zm_L_law.2.1 19 = .ok (.aload_n 0, 1) := by decide +kernel
theorem dz_L_law_20 : decode zm_L_law.2.1 20 = .ok (.arraylength, 1) := by decide +kernel
theorem dz_L_law_21 : decode zm_L_law.2.1 21 = .ok (.iconst 5, 1) := by decide +kernel
theorem dz_L_law_22 : decode zm_L_law.2.1 22 = .ok (.isub, 1) := by decide +kernel
theorem dz_L_law_23 : decode zm_L_law.2.1 23 = .ok (.if_icmp .gt 1309, 3) := by decide +kernel
theorem dz_L_law_26 : decode zm_L_law.2.1 26 = .ok (.aload_n 0, 1) := by decide +kernel
theorem dz_L_law_27 : decode zm_L_law.2.1 27 = .ok (.iload_n 3, 1) := by decide +kernel
theorem dz_L_law_28 : decode zm_L_law.2.1 28 = .ok (.iaload, 1) := by decide +kernel
theorem dz_L_law_29 : decode zm_L_law.2.1 29 = .ok (.bipush 63, 2) := by decide +kernel
theorem dz_L_law_31 : decode zm_L_law.2.1 31 = .ok (.iand, 1) := by decide +kernel
theorem dz_L_law_32 : decode zm_L_law.2.1 32 = .ok (.tableswitch 1294 0 37 #[168, 191, 214, 227, 240, 263, 296, 319, 352, 375, 398, 421, 444, 477, 510, 543, 576, 609, 662, 685, 708, 731, 754, 777, 810, 864, 897, 951, 984, 1007, 1030, 1073, 1096, 1119, 1162, 1205, 1258, 1271], 168) := by decide +kernel
theorem dz_L_law_200 : decode zm_L_law.2.1 200 = .ok (.aload_n 1, 1) := by decide +kernel
theorem dz_L_law_201 : decode zm_L_law.2.1 201 = .ok (.aload_n 0, 1) := by decide +kernel
theorem dz_L_law_202 : decode zm_L_law.2.1 202 = .ok (.iload_n 3, 1) := by decide +kernel
theorem dz_L_law_203 : decode zm_L_law.2.1 203 = .ok (.iconst 1, 1) := by decide +kernel
theorem dz_L_law_204 : decode zm_L_law.2.1 204 = .ok (.iadd, 1) := by decide +kernel
theorem dz_L_law_205 : decode zm_L_law.2.1 205 = .ok (.iaload, 1) := by decide +kernel
theorem dz_L_law_206 : decode zm_L_law.2.1 206 = .ok (.invokevirtual 13, 3) := by decide +kernel
theorem dz_L_law_209 : decode zm_L_law.2.1 209 = .ok (.aload_n 2, 1) := by decide +kernel
theorem dz_L_law_210 : decode zm_L_law.2.1 210 = .ok (.aload_n 0, 1) := by decide +kernel
theorem dz_L_law_211 : decode zm_L_law.2.1 211 = .ok (.iload_n 3, 1) := by decide +kernel
theorem dz_L_law_212 : decode zm_L_law.2.1 212 = .ok (.iconst 1, 1) := by decide +kernel
theorem dz_L_law_213 : decode zm_L_law.2.1 213 = .ok (.iadd, 1) := by decide +kernel
theorem dz_L_law_214 : decode zm_L_law.2.1 214 = .ok (.iaload, 1) := by decide +kernel
theorem dz_L_law_215 : decode zm_L_law.2.1 215 = .ok (.invokevirtual 17, 3) := by decide +kernel
theorem dz_L_law_218 : decode zm_L_law.2.1 218 = .ok (.if_icmp .eq 1108, 3) := by decide +kernel
theorem dz_L_law_221 : decode zm_L_law.2.1 221 = .ok (.iconst 0, 1) := by decide +kernel
theorem dz_L_law_222 : decode zm_L_law.2.1 222 = .ok (.ireturn, 1) := by decide +kernel
theorem dz_L_law_223 : decode zm_L_law.2.1 223 = .ok (.aload_n 1, 1) := by decide +kernel
theorem dz_L_law_224 : decode zm_L_law.2.1 224 = .ok (.aload_n 0, 1) := by decide +kernel
theorem dz_L_law_225 : decode zm_L_law.2.1 225 = .ok (.iload_n 3, 1) := by decide +kernel
theorem dz_L_law_226 : decode zm_L_law.2.1 226 = .ok (.iconst 1, 1) := by decide +kernel
theorem dz_L_law_227 : decode zm_L_law.2.1 227 = .ok (.iadd, 1) := by decide +kernel
theorem dz_L_law_228 : decode zm_L_law.2.1 228 = .ok (.iaload, 1) := by decide +kernel
theorem dz_L_law_229 : decode zm_L_law.2.1 229 = .ok (.invokevirtual 18, 3) := by decide +kernel
theorem dz_L_law_232 : decode zm_L_law.2.1 232 = .ok (.aload_n 2, 1) := by decide +kernel
theorem dz_L_law_233 : decode zm_L_law.2.1 233 = .ok (.aload_n 0, 1) := by decide +kernel
theorem dz_L_law_234 : decode zm_L_law.2.1 234 = .ok (.iload_n 3, 1) := by decide +kernel
theorem dz_L_law_235 : decode zm_L_law.2.1 235 = .ok (.iconst 1, 1) := by decide +kernel
theorem dz_L_law_236 : decode zm_L_law.2.1 236 = .ok (.iadd, 1) := by decide +kernel
theorem dz_L_law_237 : decode zm_L_law.2.1 237 = .ok (.iaload, 1) := by decide +kernel
theorem dz_L_law_238 : decode zm_L_law.2.1 238 = .ok (.invokevirtual 21, 3) := by decide +kernel
theorem dz_L_law_241 : decode zm_L_law.2.1 241 = .ok (.if_icmp .eq 1085, 3) := by decide +kernel
theorem dz_L_law_244 : decode zm_L_law.2.1 244 = .ok (.iconst 0, 1) := by decide +kernel
theorem dz_L_law_245 : decode zm_L_law.2.1 245 = .ok (.ireturn, 1) := by decide +kernel
theorem dz_L_law_246 : decode zm_L_law.2.1 246 = .ok (.aload_n 1, 1) := by decide +kernel
theorem dz_L_law_247 : decode zm_L_law.2.1 247 = .ok (.invokevirtual 22, 3) := by decide +kernel
theorem dz_L_law_250 : decode zm_L_law.2.1 250 = .ok (.aload_n 2, 1) := by decide +kernel
theorem dz_L_law_251 : decode zm_L_law.2.1 251 = .ok (.invokevirtual 26, 3) := by decide +kernel
theorem dz_L_law_254 : decode zm_L_law.2.1 254 = .ok (.if_icmp .eq 1072, 3) := by decide +kernel
theorem dz_L_law_257 : decode zm_L_law.2.1 257 = .ok (.iconst 0, 1) := by decide +kernel
theorem dz_L_law_258 : decode zm_L_law.2.1 258 = .ok (.ireturn, 1) := by decide +kernel
theorem dz_L_law_259 : decode zm_L_law.2.1 259 = .ok (.aload_n 1, 1) := by decide +kernel
theorem dz_L_law_260 : decode zm_L_law.2.1 260 = .ok (.invokevirtual 27, 3) := by decide +kernel
theorem dz_L_law_263 : decode zm_L_law.2.1 263 = .ok (.aload_n 2, 1) := by decide +kernel
theorem dz_L_law_264 : decode zm_L_law.2.1 264 = .ok (.invokevirtual 30, 3) := by decide +kernel
theorem dz_L_law_267 : decode zm_L_law.2.1 267 = .ok (.if_icmp .eq 1059, 3) := by decide +kernel
theorem dz_L_law_270 : decode zm_L_law.2.1 270 = .ok (.iconst 0, 1) := by decide +kernel
theorem dz_L_law_271 : decode zm_L_law.2.1 271 = .ok (.ireturn, 1) := by decide +kernel
theorem dz_L_law_272 : decode zm_L_law.2.1 272 = .ok (.aload_n 1, 1) := by decide +kernel
theorem dz_L_law_273 : decode zm_L_law.2.1 273 = .ok (.aload_n 0, 1) := by decide +kernel
theorem dz_L_law_274 : decode zm_L_law.2.1 274 = .ok (.iload_n 3, 1) := by decide +kernel
theorem dz_L_law_275 : decode zm_L_law.2.1 275 = .ok (.iconst 1, 1) := by decide +kernel
theorem dz_L_law_276 : decode zm_L_law.2.1 276 = .ok (.iadd, 1) := by decide +kernel
theorem dz_L_law_277 : decode zm_L_law.2.1 277 = .ok (.iaload, 1) := by decide +kernel
theorem dz_L_law_278 : decode zm_L_law.2.1 278 = .ok (.invokevirtual 31, 3) := by decide +kernel
theorem dz_L_law_281 : decode zm_L_law.2.1 281 = .ok (.aload_n 2, 1) := by decide +kernel
theorem dz_L_law_282 : decode zm_L_law.2.1 282 = .ok (.aload_n 0, 1) := by decide +kernel
theorem dz_L_law_283 : decode zm_L_law.2.1 283 = .ok (.iload_n 3, 1) := by decide +kernel
theorem dz_L_law_284 : decode zm_L_law.2.1 284 = .ok (.iconst 1, 1) := by decide +kernel
theorem dz_L_law_285 : decode zm_L_law.2.1 285 = .ok (.iadd, 1) := by decide +kernel
theorem dz_L_law_286 : decode zm_L_law.2.1 286 = .ok (.iaload, 1) := by decide +kernel
theorem dz_L_law_287 : decode zm_L_law.2.1 287 = .ok (.invokevirtual 34, 3) := by decide +kernel
theorem dz_L_law_290 : decode zm_L_law.2.1 290 = .ok (.if_icmp .eq 1036, 3) := by decide +kernel
theorem dz_L_law_293 : decode zm_L_law.2.1 293 = .ok (.iconst 0, 1) := by decide +kernel
theorem dz_L_law_294 : decode zm_L_law.2.1 294 = .ok (.ireturn, 1) := by decide +kernel
theorem dz_L_law_295 : decode zm_L_law.2.1 295 = .ok (.aload_n 1, 1) := by decide +kernel
theorem dz_L_law_296 : decode zm_L_law.2.1 296 = .ok (.aload_n 0, 1) := by decide +kernel
theorem dz_L_law_297 : decode zm_L_law.2.1 297 = .ok (.iload_n 3, 1) := by decide +kernel
theorem dz_L_law_298 : decode zm_L_law.2.1 298 = .ok (.iconst 1, 1) := by decide +kernel
theorem dz_L_law_299 : decode zm_L_law.2.1 299 = .ok (.iadd, 1) := by decide +kernel
theorem dz_L_law_300 : decode zm_L_law.2.1 300 = .ok (.iaload, 1) := by decide +kernel
theorem dz_L_law_301 : decode zm_L_law.2.1 301 = .ok (.aload_n 0, 1) := by decide +kernel
theorem dz_L_law_302 : decode zm_L_law.2.1 302 = .ok (.iload_n 3, 1) := by decide +kernel
theorem dz_L_law_303 : decode zm_L_law.2.1 303 = .ok (.iconst 2, 1) := by decide +kernel
theorem dz_L_law_304 : decode zm_L_law.2.1 304 = .ok (.iadd, 1) := by decide +kernel
theorem dz_L_law_305 : decode zm_L_law.2.1 305 = .ok (.iaload, 1) := by decide +kernel
theorem dz_L_law_306 : decode zm_L_law.2.1 306 = .ok (.invokevirtual 35, 3) := by decide +kernel
theorem dz_L_law_309 : decode zm_L_law.2.1 309 = .ok (.aload_n 2, 1) := by decide +kernel
theorem dz_L_law_310 : decode zm_L_law.2.1 310 = .ok (.aload_n 0, 1) := by decide +kernel
theorem dz_L_law_311 : decode zm_L_law.2.1 311 = .ok (.iload_n 3, 1) := by decide +kernel
theorem dz_L_law_312 : decode zm_L_law.2.1 312 = .ok (.iconst 1, 1) := by decide +kernel
theorem dz_L_law_313 : decode zm_L_law.2.1 313 = .ok (.iadd, 1) := by decide +kernel
theorem dz_L_law_314 : decode zm_L_law.2.1 314 = .ok (.iaload, 1) := by decide +kernel
theorem dz_L_law_315 : decode zm_L_law.2.1 315 = .ok (.aload_n 0, 1) := by decide +kernel
theorem dz_L_law_316 : decode zm_L_law.2.1 316 = .ok (.iload_n 3, 1) := by decide +kernel
theorem dz_L_law_317 : decode zm_L_law.2.1 317 = .ok (.iconst 2, 1) := by decide +kernel
theorem dz_L_law_318 : decode zm_L_law.2.1 318 = .ok (.iadd, 1) := by decide +kernel
theorem dz_L_law_319 : decode zm_L_law.2.1 319 = .ok (.iaload, 1) := by decide +kernel
theorem dz_L_law_320 : decode zm_L_law.2.1 320 = .ok (.invokevirtual 39, 3) := by decide +kernel
theorem dz_L_law_323 : decode zm_L_law.2.1 323 = .ok (.if_icmp .eq 1003, 3) := by decide +kernel
theorem dz_L_law_326 : decode zm_L_law.2.1 326 = .ok (.iconst 0, 1) := by decide +kernel
theorem dz_L_law_327 : decode zm_L_law.2.1 327 = .ok (.ireturn, 1) := by decide +kernel
theorem dz_L_law_328 : decode zm_L_law.2.1 328 = .ok (.aload_n 1, 1) := by decide +kernel
theorem dz_L_law_329 : decode zm_L_law.2.1 329 = .ok (.aload_n 0, 1) := by decide +kernel
theorem dz_L_law_330 : decode zm_L_law.2.1 330 = .ok (.iload_n 3, 1) := by decide +kernel
theorem dz_L_law_331 : decode zm_L_law.2.1 331 = .ok (.iconst 1, 1) := by decide +kernel
theorem dz_L_law_332 : decode zm_L_law.2.1 332 = .ok (.iadd, 1) := by decide +kernel
theorem dz_L_law_333 : decode zm_L_law.2.1 333 = .ok (.iaload, 1) := by decide +kernel
theorem dz_L_law_334 : decode zm_L_law.2.1 334 = .ok (.invokevirtual 40, 3) := by decide +kernel
theorem dz_L_law_337 : decode zm_L_law.2.1 337 = .ok (.aload_n 2, 1) := by decide +kernel
theorem dz_L_law_338 : decode zm_L_law.2.1 338 = .ok (.aload_n 0, 1) := by decide +kernel
theorem dz_L_law_339 : decode zm_L_law.2.1 339 = .ok (.iload_n 3, 1) := by decide +kernel
theorem dz_L_law_340 : decode zm_L_law.2.1 340 = .ok (.iconst 1, 1) := by decide +kernel
theorem dz_L_law_341 : decode zm_L_law.2.1 341 = .ok (.iadd, 1) := by decide +kernel
theorem dz_L_law_342 : decode zm_L_law.2.1 342 = .ok (.iaload, 1) := by decide +kernel
theorem dz_L_law_343 : decode zm_L_law.2.1 343 = .ok (.invokevirtual 43, 3) := by decide +kernel
theorem dz_L_law_346 : decode zm_L_law.2.1 346 = .ok (.if_icmp .eq 980, 3) := by decide +kernel
theorem dz_L_law_349 : decode zm_L_law.2.1 349 = .ok (.iconst 0, 1) := by decide +kernel
theorem dz_L_law_350 : decode zm_L_law.2.1 350 = .ok (.ireturn, 1) := by decide +kernel
theorem dz_L_law_351 : decode zm_L_law.2.1 351 = .ok (.aload_n 1, 1) := by decide +kernel
theorem dz_L_law_352 : decode zm_L_law.2.1 352 = .ok (.aload_n 0, 1) := by decide +kernel
theorem dz_L_law_353 : decode zm_L_law.2.1 353 = .ok (.iload_n 3, 1) := by decide +kernel
theorem dz_L_law_354 : decode zm_L_law.2.1 354 = .ok (.iconst 1, 1) := by decide +kernel
theorem dz_L_law_355 : decode zm_L_law.2.1 355 = .ok (.iadd, 1) := by decide +kernel
theorem dz_L_law_356 : decode zm_L_law.2.1 356 = .ok (.iaload, 1) := by decide +kernel
theorem dz_L_law_357 : decode zm_L_law.2.1 357 = .ok (.aload_n 0, 1) := by decide +kernel
theorem dz_L_law_358 : decode zm_L_law.2.1 358 = .ok (.iload_n 3, 1) := by decide +kernel
theorem dz_L_law_359 : decode zm_L_law.2.1 359 = .ok (.iconst 2, 1) := by decide +kernel
theorem dz_L_law_360 : decode zm_L_law.2.1 360 = .ok (.iadd, 1) := by decide +kernel
theorem dz_L_law_361 : decode zm_L_law.2.1 361 = .ok (.iaload, 1) := by decide +kernel
theorem dz_L_law_362 : decode zm_L_law.2.1 362 = .ok (.invokevirtual 44, 3) := by decide +kernel
theorem dz_L_law_365 : decode zm_L_law.2.1 365 = .ok (.aload_n 2, 1) := by decide +kernel
theorem dz_L_law_366 : decode zm_L_law.2.1 366 = .ok (.aload_n 0, 1) := by decide +kernel
theorem dz_L_law_367 : decode zm_L_law.2.1 367 = .ok (.iload_n 3, 1) := by decide +kernel
theorem dz_L_law_368 : decode zm_L_law.2.1 368 = .ok (.iconst 1, 1) := by decide +kernel
theorem dz_L_law_369 : decode zm_L_law.2.1 369 = .ok (.iadd, 1) := by decide +kernel
theorem dz_L_law_370 : decode zm_L_law.2.1 370 = .ok (.iaload, 1) := by decide +kernel
theorem dz_L_law_371 : decode zm_L_law.2.1 371 = .ok (.aload_n 0, 1) := by decide +kernel
theorem dz_L_law_372 : decode zm_L_law.2.1 372 = .ok (.iload_n 3, 1) := by decide +kernel
theorem dz_L_law_373 : decode zm_L_law.2.1 373 = .ok (.iconst 2, 1) := by decide +kernel
theorem dz_L_law_374 : decode zm_L_law.2.1 374 = .ok (.iadd, 1) := by decide +kernel
theorem dz_L_law_375 : decode zm_L_law.2.1 375 = .ok (.iaload, 1) := by decide +kernel
theorem dz_L_law_376 : decode zm_L_law.2.1 376 = .ok (.invokevirtual 47, 3) := by decide +kernel
theorem dz_L_law_379 : decode zm_L_law.2.1 379 = .ok (.if_icmp .eq 947, 3) := by decide +kernel
theorem dz_L_law_382 : decode zm_L_law.2.1 382 = .ok (.iconst 0, 1) := by decide +kernel
theorem dz_L_law_383 : decode zm_L_law.2.1 383 = .ok (.ireturn, 1) := by decide +kernel
theorem dz_L_law_384 : decode zm_L_law.2.1 384 = .ok (.aload_n 1, 1) := by decide +kernel
theorem dz_L_law_385 : decode zm_L_law.2.1 385 = .ok (.aload_n 0, 1) := by decide +kernel
theorem dz_L_law_386 : decode zm_L_law.2.1 386 = .ok (.iload_n 3, 1) := by decide +kernel
theorem dz_L_law_387 : decode zm_L_law.2.1 387 = .ok (.iconst 1, 1) := by decide +kernel
theorem dz_L_law_388 : decode zm_L_law.2.1 388 = .ok (.iadd, 1) := by decide +kernel
theorem dz_L_law_389 : decode zm_L_law.2.1 389 = .ok (.iaload, 1) := by decide +kernel
theorem dz_L_law_390 : decode zm_L_law.2.1 390 = .ok (.invokevirtual 48, 3) := by decide +kernel
theorem dz_L_law_393 : decode zm_L_law.2.1 393 = .ok (.aload_n 2, 1) := by decide +kernel
theorem dz_L_law_394 : decode zm_L_law.2.1 394 = .ok (.aload_n 0, 1) := by decide +kernel
theorem dz_L_law_395 : decode zm_L_law.2.1 395 = .ok (.iload_n 3, 1) := by decide +kernel
theorem dz_L_law_396 : decode zm_L_law.2.1 396 = .ok (.iconst 1, 1) := by decide +kernel
theorem dz_L_law_397 : decode zm_L_law.2.1 397 = .ok (.iadd, 1) := by decide +kernel
theorem dz_L_law_398 : decode zm_L_law.2.1 398 = .ok (.iaload, 1) := by decide +kernel
theorem dz_L_law_399 : decode zm_L_law.2.1 399 = .ok (.invokevirtual 51, 3) := by decide +kernel
theorem dz_L_law_402 : decode zm_L_law.2.1 402 = .ok (.if_icmp .eq 924, 3) := by decide +kernel
theorem dz_L_law_405 : decode zm_L_law.2.1 405 = .ok (.iconst 0, 1) := by decide +kernel
theorem dz_L_law_406 : decode zm_L_law.2.1 406 = .ok (.ireturn, 1) := by decide +kernel
theorem dz_L_law_407 : decode zm_L_law.2.1 407 = .ok (.aload_n 1, 1) := by decide +kernel
theorem dz_L_law_408 : decode zm_L_law.2.1 408 = .ok (.aload_n 0, 1) := by decide +kernel
theorem dz_L_law_409 : decode zm_L_law.2.1 409 = .ok (.iload_n 3, 1) := by decide +kernel
theorem dz_L_law_410 : decode zm_L_law.2.1 410 = .ok (.iconst 1, 1) := by decide +kernel
theorem dz_L_law_411 : decode zm_L_law.2.1 411 = .ok (.iadd, 1) := by decide +kernel
theorem dz_L_law_412 : decode zm_L_law.2.1 412 = .ok (.iaload, 1) := by decide +kernel
theorem dz_L_law_413 : decode zm_L_law.2.1 413 = .ok (.invokevirtual 52, 3) := by decide +kernel
theorem dz_L_law_416 : decode zm_L_law.2.1 416 = .ok (.aload_n 2, 1) := by decide +kernel
theorem dz_L_law_417 : decode zm_L_law.2.1 417 = .ok (.aload_n 0, 1) := by decide +kernel
theorem dz_L_law_418 : decode zm_L_law.2.1 418 = .ok (.iload_n 3, 1) := by decide +kernel
theorem dz_L_law_419 : decode zm_L_law.2.1 419 = .ok (.iconst 1, 1) := by decide +kernel
theorem dz_L_law_420 : decode zm_L_law.2.1 420 = .ok (.iadd, 1) := by decide +kernel
theorem dz_L_law_421 : decode zm_L_law.2.1 421 = .ok (.iaload, 1) := by decide +kernel
theorem dz_L_law_422 : decode zm_L_law.2.1 422 = .ok (.invokevirtual 55, 3) := by decide +kernel
theorem dz_L_law_425 : decode zm_L_law.2.1 425 = .ok (.if_icmp .eq 901, 3) := by decide +kernel
theorem dz_L_law_428 : decode zm_L_law.2.1 428 = .ok (.iconst 0, 1) := by decide +kernel
theorem dz_L_law_429 : decode zm_L_law.2.1 429 = .ok (.ireturn, 1) := by decide +kernel
theorem dz_L_law_430 : decode zm_L_law.2.1 430 = .ok (.aload_n 1, 1) := by decide +kernel
theorem dz_L_law_431 : decode zm_L_law.2.1 431 = .ok (.aload_n 0, 1) := by decide +kernel
theorem dz_L_law_432 : decode zm_L_law.2.1 432 = .ok (.iload_n 3, 1) := by decide +kernel
theorem dz_L_law_433 : decode zm_L_law.2.1 433 = .ok (.iconst 1, 1) := by decide +kernel
theorem dz_L_law_434 : decode zm_L_law.2.1 434 = .ok (.iadd, 1) := by decide +kernel
theorem dz_L_law_435 : decode zm_L_law.2.1 435 = .ok (.iaload, 1) := by decide +kernel
theorem dz_L_law_436 : decode zm_L_law.2.1 436 = .ok (.invokevirtual 56, 3) := by decide +kernel
theorem dz_L_law_439 : decode zm_L_law.2.1 439 = .ok (.aload_n 2, 1) := by decide +kernel
theorem dz_L_law_440 : decode zm_L_law.2.1 440 = .ok (.aload_n 0, 1) := by decide +kernel
theorem dz_L_law_441 : decode zm_L_law.2.1 441 = .ok (.iload_n 3, 1) := by decide +kernel
theorem dz_L_law_442 : decode zm_L_law.2.1 442 = .ok (.iconst 1, 1) := by decide +kernel
theorem dz_L_law_443 : decode zm_L_law.2.1 443 = .ok (.iadd, 1) := by decide +kernel
theorem dz_L_law_444 : decode zm_L_law.2.1 444 = .ok (.iaload, 1) := by decide +kernel
theorem dz_L_law_445 : decode zm_L_law.2.1 445 = .ok (.invokevirtual 59, 3) := by decide +kernel
theorem dz_L_law_448 : decode zm_L_law.2.1 448 = .ok (.if_icmp .eq 878, 3) := by decide +kernel
theorem dz_L_law_451 : decode zm_L_law.2.1 451 = .ok (.iconst 0, 1) := by decide +kernel
theorem dz_L_law_452 : decode zm_L_law.2.1 452 = .ok (.ireturn, 1) := by decide +kernel
theorem dz_L_law_453 : decode zm_L_law.2.1 453 = .ok (.aload_n 1, 1) := by decide +kernel
theorem dz_L_law_454 : decode zm_L_law.2.1 454 = .ok (.aload_n 0, 1) := by decide +kernel
theorem dz_L_law_455 : decode zm_L_law.2.1 455 = .ok (.iload_n 3, 1) := by decide +kernel
theorem dz_L_law_456 : decode zm_L_law.2.1 456 = .ok (.iconst 1, 1) := by decide +kernel
theorem dz_L_law_457 : decode zm_L_law.2.1 457 = .ok (.iadd, 1) := by decide +kernel
theorem dz_L_law_458 : decode zm_L_law.2.1 458 = .ok (.iaload, 1) := by decide +kernel
theorem dz_L_law_459 : decode zm_L_law.2.1 459 = .ok (.invokevirtual 60, 3) := by decide +kernel
theorem dz_L_law_462 : decode zm_L_law.2.1 462 = .ok (.aload_n 2, 1) := by decide +kernel
theorem dz_L_law_463 : decode zm_L_law.2.1 463 = .ok (.aload_n 0, 1) := by decide +kernel
theorem dz_L_law_464 : decode zm_L_law.2.1 464 = .ok (.iload_n 3, 1) := by decide +kernel
theorem dz_L_law_465 : decode zm_L_law.2.1 465 = .ok (.iconst 1, 1) := by decide +kernel
theorem dz_L_law_466 : decode zm_L_law.2.1 466 = .ok (.iadd, 1) := by decide +kernel
theorem dz_L_law_467 : decode zm_L_law.2.1 467 = .ok (.iaload, 1) := by decide +kernel
theorem dz_L_law_468 : decode zm_L_law.2.1 468 = .ok (.invokevirtual 63, 3) := by decide +kernel
theorem dz_L_law_471 : decode zm_L_law.2.1 471 = .ok (.if_icmp .eq 855, 3) := by decide +kernel
theorem dz_L_law_474 : decode zm_L_law.2.1 474 = .ok (.iconst 0, 1) := by decide +kernel
theorem dz_L_law_475 : decode zm_L_law.2.1 475 = .ok (.ireturn, 1) := by decide +kernel
theorem dz_L_law_476 : decode zm_L_law.2.1 476 = .ok (.aload_n 1, 1) := by decide +kernel
theorem dz_L_law_477 : decode zm_L_law.2.1 477 = .ok (.aload_n 0, 1) := by decide +kernel
theorem dz_L_law_478 : decode zm_L_law.2.1 478 = .ok (.iload_n 3, 1) := by decide +kernel
theorem dz_L_law_479 : decode zm_L_law.2.1 479 = .ok (.iconst 1, 1) := by decide +kernel
theorem dz_L_law_480 : decode zm_L_law.2.1 480 = .ok (.iadd, 1) := by decide +kernel
theorem dz_L_law_481 : decode zm_L_law.2.1 481 = .ok (.iaload, 1) := by decide +kernel
theorem dz_L_law_482 : decode zm_L_law.2.1 482 = .ok (.aload_n 0, 1) := by decide +kernel
theorem dz_L_law_483 : decode zm_L_law.2.1 483 = .ok (.iload_n 3, 1) := by decide +kernel
theorem dz_L_law_484 : decode zm_L_law.2.1 484 = .ok (.iconst 2, 1) := by decide +kernel
theorem dz_L_law_485 : decode zm_L_law.2.1 485 = .ok (.iadd, 1) := by decide +kernel
theorem dz_L_law_486 : decode zm_L_law.2.1 486 = .ok (.iaload, 1) := by decide +kernel
theorem dz_L_law_487 : decode zm_L_law.2.1 487 = .ok (.invokevirtual 64, 3) := by decide +kernel
theorem dz_L_law_490 : decode zm_L_law.2.1 490 = .ok (.aload_n 2, 1) := by decide +kernel
theorem dz_L_law_491 : decode zm_L_law.2.1 491 = .ok (.aload_n 0, 1) := by decide +kernel
theorem dz_L_law_492 : decode zm_L_law.2.1 492 = .ok (.iload_n 3, 1) := by decide +kernel
theorem dz_L_law_493 : decode zm_L_law.2.1 493 = .ok (.iconst 1, 1) := by decide +kernel
theorem dz_L_law_494 : decode zm_L_law.2.1 494 = .ok (.iadd, 1) := by decide +kernel
theorem dz_L_law_495 : decode zm_L_law.2.1 495 = .ok (.iaload, 1) := by decide +kernel
theorem dz_L_law_496 : decode zm_L_law.2.1 496 = .ok (.aload_n 0, 1) := by decide +kernel
theorem dz_L_law_497 : decode zm_L_law.2.1 497 = .ok (.iload_n 3, 1) := by decide +kernel
theorem dz_L_law_498 : decode zm_L_law.2.1 498 = .ok (.iconst 2, 1) := by decide +kernel
theorem dz_L_law_499 : decode zm_L_law.2.1 499 = .ok (.iadd, 1) := by decide +kernel
theorem dz_L_law_500 : decode zm_L_law.2.1 500 = .ok (.iaload, 1) := by decide +kernel
theorem dz_L_law_501 : decode zm_L_law.2.1 501 = .ok (.invokevirtual 67, 3) := by decide +kernel
theorem dz_L_law_504 : decode zm_L_law.2.1 504 = .ok (.if_icmp .eq 822, 3) := by decide +kernel
theorem dz_L_law_507 : decode zm_L_law.2.1 507 = .ok (.iconst 0, 1) := by decide +kernel
theorem dz_L_law_508 : decode zm_L_law.2.1 508 = .ok (.ireturn, 1) := by decide +kernel
theorem dz_L_law_509 : decode zm_L_law.2.1 509 = .ok (.aload_n 1, 1) := by decide +kernel
theorem dz_L_law_510 : decode zm_L_law.2.1 510 = .ok (.aload_n 0, 1) := by decide +kernel
theorem dz_L_law_511 : decode zm_L_law.2.1 511 = .ok (.iload_n 3, 1) := by decide +kernel
theorem dz_L_law_512 : decode zm_L_law.2.1 512 = .ok (.iconst 1, 1) := by decide +kernel
theorem dz_L_law_513 : decode zm_L_law.2.1 513 = .ok (.iadd, 1) := by decide +kernel
theorem dz_L_law_514 : decode zm_L_law.2.1 514 = .ok (.iaload, 1) := by decide +kernel
theorem dz_L_law_515 : decode zm_L_law.2.1 515 = .ok (.aload_n 0, 1) := by decide +kernel
theorem dz_L_law_516 : decode zm_L_law.2.1 516 = .ok (.iload_n 3, 1) := by decide +kernel
theorem dz_L_law_517 : decode zm_L_law.2.1 517 = .ok (.iconst 2, 1) := by decide +kernel
theorem dz_L_law_518 : decode zm_L_law.2.1 518 = .ok (.iadd, 1) := by decide +kernel
theorem dz_L_law_519 : decode zm_L_law.2.1 519 = .ok (.iaload, 1) := by decide +kernel
theorem dz_L_law_520 : decode zm_L_law.2.1 520 = .ok (.invokevirtual 68, 3) := by decide +kernel
theorem dz_L_law_523 : decode zm_L_law.2.1 523 = .ok (.aload_n 2, 1) := by decide +kernel
theorem dz_L_law_524 : decode zm_L_law.2.1 524 = .ok (.aload_n 0, 1) := by decide +kernel
theorem dz_L_law_525 : decode zm_L_law.2.1 525 = .ok (.iload_n 3, 1) := by decide +kernel
theorem dz_L_law_526 : decode zm_L_law.2.1 526 = .ok (.iconst 1, 1) := by decide +kernel
theorem dz_L_law_527 : decode zm_L_law.2.1 527 = .ok (.iadd, 1) := by decide +kernel
theorem dz_L_law_528 : decode zm_L_law.2.1 528 = .ok (.iaload, 1) := by decide +kernel
theorem dz_L_law_529 : decode zm_L_law.2.1 529 = .ok (.aload_n 0, 1) := by decide +kernel
theorem dz_L_law_530 : decode zm_L_law.2.1 530 = .ok (.iload_n 3, 1) := by decide +kernel
theorem dz_L_law_531 : decode zm_L_law.2.1 531 = .ok (.iconst 2, 1) := by decide +kernel
theorem dz_L_law_532 : decode zm_L_law.2.1 532 = .ok (.iadd, 1) := by decide +kernel
theorem dz_L_law_533 : decode zm_L_law.2.1 533 = .ok (.iaload, 1) := by decide +kernel
theorem dz_L_law_534 : decode zm_L_law.2.1 534 = .ok (.invokevirtual 71, 3) := by decide +kernel
theorem dz_L_law_537 : decode zm_L_law.2.1 537 = .ok (.if_icmp .eq 789, 3) := by decide +kernel
theorem dz_L_law_540 : decode zm_L_law.2.1 540 = .ok (.iconst 0, 1) := by decide +kernel
theorem dz_L_law_541 : decode zm_L_law.2.1 541 = .ok (.ireturn, 1) := by decide +kernel
theorem dz_L_law_542 : decode zm_L_law.2.1 542 = .ok (.aload_n 1, 1) := by decide +kernel
theorem dz_L_law_543 : decode zm_L_law.2.1 543 = .ok (.aload_n 0, 1) := by decide +kernel
theorem dz_L_law_544 : decode zm_L_law.2.1 544 = .ok (.iload_n 3, 1) := by decide +kernel
theorem dz_L_law_545 : decode zm_L_law.2.1 545 = .ok (.iconst 1, 1) := by decide +kernel
theorem dz_L_law_546 : decode zm_L_law.2.1 546 = .ok (.iadd, 1) := by decide +kernel
theorem dz_L_law_547 : decode zm_L_law.2.1 547 = .ok (.iaload, 1) := by decide +kernel
theorem dz_L_law_548 : decode zm_L_law.2.1 548 = .ok (.aload_n 0, 1) := by decide +kernel
theorem dz_L_law_549 : decode zm_L_law.2.1 549 = .ok (.iload_n 3, 1) := by decide +kernel
theorem dz_L_law_550 : decode zm_L_law.2.1 550 = .ok (.iconst 2, 1) := by decide +kernel
theorem dz_L_law_551 : decode zm_L_law.2.1 551 = .ok (.iadd, 1) := by decide +kernel
theorem dz_L_law_552 : decode zm_L_law.2.1 552 = .ok (.iaload, 1) := by decide +kernel
theorem dz_L_law_553 : decode zm_L_law.2.1 553 = .ok (.invokevirtual 72, 3) := by decide +kernel
theorem dz_L_law_556 : decode zm_L_law.2.1 556 = .ok (.aload_n 2, 1) := by decide +kernel
theorem dz_L_law_557 : decode zm_L_law.2.1 557 = .ok (.aload_n 0, 1) := by decide +kernel
theorem dz_L_law_558 : decode zm_L_law.2.1 558 = .ok (.iload_n 3, 1) := by decide +kernel
theorem dz_L_law_559 : decode zm_L_law.2.1 559 = .ok (.iconst 1, 1) := by decide +kernel
theorem dz_L_law_560 : decode zm_L_law.2.1 560 = .ok (.iadd, 1) := by decide +kernel
theorem dz_L_law_561 : decode zm_L_law.2.1 561 = .ok (.iaload, 1) := by decide +kernel
theorem dz_L_law_562 : decode zm_L_law.2.1 562 = .ok (.aload_n 0, 1) := by decide +kernel
theorem dz_L_law_563 : decode zm_L_law.2.1 563 = .ok (.iload_n 3, 1) := by decide +kernel
theorem dz_L_law_564 : decode zm_L_law.2.1 564 = .ok (.iconst 2, 1) := by decide +kernel
theorem dz_L_law_565 : decode zm_L_law.2.1 565 = .ok (.iadd, 1) := by decide +kernel
theorem dz_L_law_566 : decode zm_L_law.2.1 566 = .ok (.iaload, 1) := by decide +kernel
theorem dz_L_law_567 : decode zm_L_law.2.1 567 = .ok (.invokevirtual 75, 3) := by decide +kernel
theorem dz_L_law_570 : decode zm_L_law.2.1 570 = .ok (.if_icmp .eq 756, 3) := by decide +kernel
theorem dz_L_law_573 : decode zm_L_law.2.1 573 = .ok (.iconst 0, 1) := by decide +kernel
theorem dz_L_law_574 : decode zm_L_law.2.1 574 = .ok (.ireturn, 1) := by decide +kernel
theorem dz_L_law_575 : decode zm_L_law.2.1 575 = .ok (.aload_n 1, 1) := by decide +kernel
theorem dz_L_law_576 : decode zm_L_law.2.1 576 = .ok (.aload_n 0, 1) := by decide +kernel
theorem dz_L_law_577 : decode zm_L_law.2.1 577 = .ok (.iload_n 3, 1) := by decide +kernel
theorem dz_L_law_578 : decode zm_L_law.2.1 578 = .ok (.iconst 1, 1) := by decide +kernel
theorem dz_L_law_579 : decode zm_L_law.2.1 579 = .ok (.iadd, 1) := by decide +kernel
theorem dz_L_law_580 : decode zm_L_law.2.1 580 = .ok (.iaload, 1) := by decide +kernel
theorem dz_L_law_581 : decode zm_L_law.2.1 581 = .ok (.aload_n 0, 1) := by decide +kernel
theorem dz_L_law_582 : decode zm_L_law.2.1 582 = .ok (.iload_n 3, 1) := by decide +kernel
theorem dz_L_law_583 : decode zm_L_law.2.1 583 = .ok (.iconst 2, 1) := by decide +kernel
theorem dz_L_law_584 : decode zm_L_law.2.1 584 = .ok (.iadd, 1) := by decide +kernel
theorem dz_L_law_585 : decode zm_L_law.2.1 585 = .ok (.iaload, 1) := by decide +kernel
theorem dz_L_law_586 : decode zm_L_law.2.1 586 = .ok (.invokevirtual 76, 3) := by decide +kernel
theorem dz_L_law_589 : decode zm_L_law.2.1 589 = .ok (.aload_n 2, 1) := by decide +kernel
theorem dz_L_law_590 : decode zm_L_law.2.1 590 = .ok (.aload_n 0, 1) := by decide +kernel
theorem dz_L_law_591 : decode zm_L_law.2.1 591 = .ok (.iload_n 3, 1) := by decide +kernel
theorem dz_L_law_592 : decode zm_L_law.2.1 592 = .ok (.iconst 1, 1) := by decide +kernel
theorem dz_L_law_593 : decode zm_L_law.2.1 593 = .ok (.iadd, 1) := by decide +kernel
theorem dz_L_law_594 : decode zm_L_law.2.1 594 = .ok (.iaload, 1) := by decide +kernel
theorem dz_L_law_595 : decode zm_L_law.2.1 595 = .ok (.aload_n 0, 1) := by decide +kernel
theorem dz_L_law_596 : decode zm_L_law.2.1 596 = .ok (.iload_n 3, 1) := by decide +kernel
theorem dz_L_law_597 : decode zm_L_law.2.1 597 = .ok (.iconst 2, 1) := by decide +kernel
theorem dz_L_law_598 : decode zm_L_law.2.1 598 = .ok (.iadd, 1) := by decide +kernel
theorem dz_L_law_599 : decode zm_L_law.2.1 599 = .ok (.iaload, 1) := by decide +kernel
theorem dz_L_law_600 : decode zm_L_law.2.1 600 = .ok (.invokevirtual 79, 3) := by decide +kernel
theorem dz_L_law_603 : decode zm_L_law.2.1 603 = .ok (.if_icmp .eq 723, 3) := by decide +kernel
theorem dz_L_law_606 : decode zm_L_law.2.1 606 = .ok (.iconst 0, 1) := by decide +kernel
theorem dz_L_law_607 : decode zm_L_law.2.1 607 = .ok (.ireturn, 1) := by decide +kernel
theorem dz_L_law_608 : decode zm_L_law.2.1 608 = .ok (.aload_n 1, 1) := by decide +kernel
theorem dz_L_law_609 : decode zm_L_law.2.1 609 = .ok (.aload_n 0, 1) := by decide +kernel
theorem dz_L_law_610 : decode zm_L_law.2.1 610 = .ok (.iload_n 3, 1) := by decide +kernel
theorem dz_L_law_611 : decode zm_L_law.2.1 611 = .ok (.iconst 1, 1) := by decide +kernel
theorem dz_L_law_612 : decode zm_L_law.2.1 612 = .ok (.iadd, 1) := by decide +kernel
theorem dz_L_law_613 : decode zm_L_law.2.1 613 = .ok (.iaload, 1) := by decide +kernel
theorem dz_L_law_614 : decode zm_L_law.2.1 614 = .ok (.aload_n 0, 1) := by decide +kernel
theorem dz_L_law_615 : decode zm_L_law.2.1 615 = .ok (.iload_n 3, 1) := by decide +kernel
theorem dz_L_law_616 : decode zm_L_law.2.1 616 = .ok (.iconst 2, 1) := by decide +kernel
theorem dz_L_law_617 : decode zm_L_law.2.1 617 = .ok (.iadd, 1) := by decide +kernel
theorem dz_L_law_618 : decode zm_L_law.2.1 618 = .ok (.iaload, 1) := by decide +kernel
theorem dz_L_law_619 : decode zm_L_law.2.1 619 = .ok (.invokevirtual 80, 3) := by decide +kernel
theorem dz_L_law_622 : decode zm_L_law.2.1 622 = .ok (.aload_n 2, 1) := by decide +kernel
theorem dz_L_law_623 : decode zm_L_law.2.1 623 = .ok (.aload_n 0, 1) := by decide +kernel
theorem dz_L_law_624 : decode zm_L_law.2.1 624 = .ok (.iload_n 3, 1) := by decide +kernel
theorem dz_L_law_625 : decode zm_L_law.2.1 625 = .ok (.iconst 1, 1) := by decide +kernel
theorem dz_L_law_626 : decode zm_L_law.2.1 626 = .ok (.iadd, 1) := by decide +kernel
theorem dz_L_law_627 : decode zm_L_law.2.1 627 = .ok (.iaload, 1) := by decide +kernel
theorem dz_L_law_628 : decode zm_L_law.2.1 628 = .ok (.aload_n 0, 1) := by decide +kernel
theorem dz_L_law_629 : decode zm_L_law.2.1 629 = .ok (.iload_n 3, 1) := by decide +kernel
theorem dz_L_law_630 : decode zm_L_law.2.1 630 = .ok (.iconst 2, 1) := by decide +kernel
theorem dz_L_law_631 : decode zm_L_law.2.1 631 = .ok (.iadd, 1) := by decide +kernel
theorem dz_L_law_632 : decode zm_L_law.2.1 632 = .ok (.iaload, 1) := by decide +kernel
theorem dz_L_law_633 : decode zm_L_law.2.1 633 = .ok (.invokevirtual 83, 3) := by decide +kernel
theorem dz_L_law_636 : decode zm_L_law.2.1 636 = .ok (.if_icmp .eq 690, 3) := by decide +kernel
theorem dz_L_law_639 : decode zm_L_law.2.1 639 = .ok (.iconst 0, 1) := by decide +kernel
theorem dz_L_law_640 : decode zm_L_law.2.1 640 = .ok (.ireturn, 1) := by decide +kernel
theorem dz_L_law_641 : decode zm_L_law.2.1 641 = .ok (.aload_n 1, 1) := by decide +kernel
theorem dz_L_law_642 : decode zm_L_law.2.1 642 = .ok (.aload_n 0, 1) := by decide +kernel
theorem dz_L_law_643 : decode zm_L_law.2.1 643 = .ok (.iload_n 3, 1) := by decide +kernel
theorem dz_L_law_644 : decode zm_L_law.2.1 644 = .ok (.iconst 1, 1) := by decide +kernel
theorem dz_L_law_645 : decode zm_L_law.2.1 645 = .ok (.iadd, 1) := by decide +kernel
theorem dz_L_law_646 : decode zm_L_law.2.1 646 = .ok (.iaload, 1) := by decide +kernel
theorem dz_L_law_647 : decode zm_L_law.2.1 647 = .ok (.aload_n 0, 1) := by decide +kernel
theorem dz_L_law_648 : decode zm_L_law.2.1 648 = .ok (.iload_n 3, 1) := by decide +kernel
theorem dz_L_law_649 : decode zm_L_law.2.1 649 = .ok (.iconst 2, 1) := by decide +kernel
theorem dz_L_law_650 : decode zm_L_law.2.1 650 = .ok (.iadd, 1) := by decide +kernel
theorem dz_L_law_651 : decode zm_L_law.2.1 651 = .ok (.iaload, 1) := by decide +kernel
theorem dz_L_law_652 : decode zm_L_law.2.1 652 = .ok (.aload_n 0, 1) := by decide +kernel
theorem dz_L_law_653 : decode zm_L_law.2.1 653 = .ok (.iload_n 3, 1) := by decide +kernel
theorem dz_L_law_654 : decode zm_L_law.2.1 654 = .ok (.iconst 3, 1) := by decide +kernel
theorem dz_L_law_655 : decode zm_L_law.2.1 655 = .ok (.iadd, 1) := by decide +kernel
theorem dz_L_law_656 : decode zm_L_law.2.1 656 = .ok (.iaload, 1) := by decide +kernel
theorem dz_L_law_657 : decode zm_L_law.2.1 657 = .ok (.aload_n 0, 1) := by decide +kernel
theorem dz_L_law_658 : decode zm_L_law.2.1 658 = .ok (.iload_n 3, 1) := by decide +kernel
theorem dz_L_law_659 : decode zm_L_law.2.1 659 = .ok (.iconst 4, 1) := by decide +kernel
theorem dz_L_law_660 : decode zm_L_law.2.1 660 = .ok (.iadd, 1) := by decide +kernel
theorem dz_L_law_661 : decode zm_L_law.2.1 661 = .ok (.iaload, 1) := by decide +kernel
theorem dz_L_law_662 : decode zm_L_law.2.1 662 = .ok (.invokevirtual 84, 3) := by decide +kernel
theorem dz_L_law_665 : decode zm_L_law.2.1 665 = .ok (.aload_n 2, 1) := by decide +kernel
theorem dz_L_law_666 : decode zm_L_law.2.1 666 = .ok (.aload_n 0, 1) := by decide +kernel
theorem dz_L_law_667 : decode zm_L_law.2.1 667 = .ok (.iload_n 3, 1) := by decide +kernel
theorem dz_L_law_668 : decode zm_L_law.2.1 668 = .ok (.iconst 1, 1) := by decide +kernel
theorem dz_L_law_669 : decode zm_L_law.2.1 669 = .ok (.iadd, 1) := by decide +kernel
theorem dz_L_law_670 : decode zm_L_law.2.1 670 = .ok (.iaload, 1) := by decide +kernel
theorem dz_L_law_671 : decode zm_L_law.2.1 671 = .ok (.aload_n 0, 1) := by decide +kernel
theorem dz_L_law_672 : decode zm_L_law.2.1 672 = .ok (.iload_n 3, 1) := by decide +kernel
theorem dz_L_law_673 : decode zm_L_law.2.1 673 = .ok (.iconst 2, 1) := by decide +kernel
theorem dz_L_law_674 : decode zm_L_law.2.1 674 = .ok (.iadd, 1) := by decide +kernel
theorem dz_L_law_675 : decode zm_L_law.2.1 675 = .ok (.iaload, 1) := by decide +kernel
theorem dz_L_law_676 : decode zm_L_law.2.1 676 = .ok (.aload_n 0, 1) := by decide +kernel
theorem dz_L_law_677 : decode zm_L_law.2.1 677 = .ok (.iload_n 3, 1) := by decide +kernel
theorem dz_L_law_678 : decode zm_L_law.2.1 678 = .ok (.iconst 3, 1) := by decide +kernel
theorem dz_L_law_679 : decode zm_L_law.2.1 679 = .ok (.iadd, 1) := by decide +kernel
theorem dz_L_law_680 : decode zm_L_law.2.1 680 = .ok (.iaload, 1) := by decide +kernel
theorem dz_L_law_681 : decode zm_L_law.2.1 681 = .ok (.aload_n 0, 1) := by decide +kernel
theorem dz_L_law_682 : decode zm_L_law.2.1 682 = .ok (.iload_n 3, 1) := by decide +kernel
theorem dz_L_law_683 : decode zm_L_law.2.1 683 = .ok (.iconst 4, 1) := by decide +kernel
theorem dz_L_law_684 : decode zm_L_law.2.1 684 = .ok (.iadd, 1) := by decide +kernel
theorem dz_L_law_685 : decode zm_L_law.2.1 685 = .ok (.iaload, 1) := by decide +kernel
theorem dz_L_law_686 : decode zm_L_law.2.1 686 = .ok (.invokevirtual 88, 3) := by decide +kernel
theorem dz_L_law_689 : decode zm_L_law.2.1 689 = .ok (.if_icmp .eq 637, 3) := by decide +kernel
theorem dz_L_law_692 : decode zm_L_law.2.1 692 = .ok (.iconst 0, 1) := by decide +kernel
theorem dz_L_law_693 : decode zm_L_law.2.1 693 = .ok (.ireturn, 1) := by decide +kernel
theorem dz_L_law_694 : decode zm_L_law.2.1 694 = .ok (.aload_n 1, 1) := by decide +kernel
theorem dz_L_law_695 : decode zm_L_law.2.1 695 = .ok (.aload_n 0, 1) := by decide +kernel
theorem dz_L_law_696 : decode zm_L_law.2.1 696 = .ok (.iload_n 3, 1) := by decide +kernel
theorem dz_L_law_697 : decode zm_L_law.2.1 697 = .ok (.iconst 1, 1) := by decide +kernel
theorem dz_L_law_698 : decode zm_L_law.2.1 698 = .ok (.iadd, 1) := by decide +kernel
theorem dz_L_law_699 : decode zm_L_law.2.1 699 = .ok (.iaload, 1) := by decide +kernel
theorem dz_L_law_700 : decode zm_L_law.2.1 700 = .ok (.invokevirtual 89, 3) := by decide +kernel
theorem dz_L_law_703 : decode zm_L_law.2.1 703 = .ok (.aload_n 2, 1) := by decide +kernel
theorem dz_L_law_704 : decode zm_L_law.2.1 704 = .ok (.aload_n 0, 1) := by decide +kernel
theorem dz_L_law_705 : decode zm_L_law.2.1 705 = .ok (.iload_n 3, 1) := by decide +kernel
theorem dz_L_law_706 : decode zm_L_law.2.1 706 = .ok (.iconst 1, 1) := by decide +kernel
theorem dz_L_law_707 : decode zm_L_law.2.1 707 = .ok (.iadd, 1) := by decide +kernel
theorem dz_L_law_708 : decode zm_L_law.2.1 708 = .ok (.iaload, 1) := by decide +kernel
theorem dz_L_law_709 : decode zm_L_law.2.1 709 = .ok (.invokevirtual 92, 3) := by decide +kernel
theorem dz_L_law_712 : decode zm_L_law.2.1 712 = .ok (.if_icmp .eq 614, 3) := by decide +kernel
theorem dz_L_law_715 : decode zm_L_law.2.1 715 = .ok (.iconst 0, 1) := by decide +kernel
theorem dz_L_law_716 : decode zm_L_law.2.1 716 = .ok (.ireturn, 1) := by decide +kernel
theorem dz_L_law_717 : decode zm_L_law.2.1 717 = .ok (.aload_n 1, 1) := by decide +kernel
theorem dz_L_law_718 : decode zm_L_law.2.1 718 = .ok (.aload_n 0, 1) := by decide +kernel
theorem dz_L_law_719 : decode zm_L_law.2.1 719 = .ok (.iload_n 3, 1) := by decide +kernel
theorem dz_L_law_720 : decode zm_L_law.2.1 720 = .ok (.iconst 1, 1) := by decide +kernel
theorem dz_L_law_721 : decode zm_L_law.2.1 721 = .ok (.iadd, 1) := by decide +kernel
theorem dz_L_law_722 : decode zm_L_law.2.1 722 = .ok (.iaload, 1) := by decide +kernel
theorem dz_L_law_723 : decode zm_L_law.2.1 723 = .ok (.invokevirtual 93, 3) := by decide +kernel
theorem dz_L_law_726 : decode zm_L_law.2.1 726 = .ok (.aload_n 2, 1) := by decide +kernel
theorem dz_L_law_727 : decode zm_L_law.2.1 727 = .ok (.aload_n 0, 1) := by decide +kernel
theorem dz_L_law_728 : decode zm_L_law.2.1 728 = .ok (.iload_n 3, 1) := by decide +kernel
theorem dz_L_law_729 : decode zm_L_law.2.1 729 = .ok (.iconst 1, 1) := by decide +kernel
theorem dz_L_law_730 : decode zm_L_law.2.1 730 = .ok (.iadd, 1) := by decide +kernel
theorem dz_L_law_731 : decode zm_L_law.2.1 731 = .ok (.iaload, 1) := by decide +kernel
theorem dz_L_law_732 : decode zm_L_law.2.1 732 = .ok (.invokevirtual 96, 3) := by decide +kernel
theorem dz_L_law_735 : decode zm_L_law.2.1 735 = .ok (.if_icmp .eq 591, 3) := by decide +kernel
theorem dz_L_law_738 : decode zm_L_law.2.1 738 = .ok (.iconst 0, 1) := by decide +kernel
theorem dz_L_law_739 : decode zm_L_law.2.1 739 = .ok (.ireturn, 1) := by decide +kernel
theorem dz_L_law_740 : decode zm_L_law.2.1 740 = .ok (.aload_n 1, 1) := by decide +kernel
theorem dz_L_law_741 : decode zm_L_law.2.1 741 = .ok (.aload_n 0, 1) := by decide +kernel
theorem dz_L_law_742 : decode zm_L_law.2.1 742 = .ok (.iload_n 3, 1) := by decide +kernel
theorem dz_L_law_743 : decode zm_L_law.2.1 743 = .ok (.iconst 1, 1) := by decide +kernel
theorem dz_L_law_744 : decode zm_L_law.2.1 744 = .ok (.iadd, 1) := by decide +kernel
theorem dz_L_law_745 : decode zm_L_law.2.1 745 = .ok (.iaload, 1) := by decide +kernel
theorem dz_L_law_746 : decode zm_L_law.2.1 746 = .ok (.invokevirtual 97, 3) := by decide +kernel
theorem dz_L_law_749 : decode zm_L_law.2.1 749 = .ok (.aload_n 2, 1) := by decide +kernel
theorem dz_L_law_750 : decode zm_L_law.2.1 750 = .ok (.aload_n 0, 1) := by decide +kernel
theorem dz_L_law_751 : decode zm_L_law.2.1 751 = .ok (.iload_n 3, 1) := by decide +kernel
theorem dz_L_law_752 : decode zm_L_law.2.1 752 = .ok (.iconst 1, 1) := by decide +kernel
theorem dz_L_law_753 : decode zm_L_law.2.1 753 = .ok (.iadd, 1) := by decide +kernel
theorem dz_L_law_754 : decode zm_L_law.2.1 754 = .ok (.iaload, 1) := by decide +kernel
theorem dz_L_law_755 : decode zm_L_law.2.1 755 = .ok (.invokevirtual 100, 3) := by decide +kernel
theorem dz_L_law_758 : decode zm_L_law.2.1 758 = .ok (.if_icmp .eq 568, 3) := by decide +kernel
theorem dz_L_law_761 : decode zm_L_law.2.1 761 = .ok (.iconst 0, 1) := by decide +kernel
theorem dz_L_law_762 : decode zm_L_law.2.1 762 = .ok (.ireturn, 1) := by decide +kernel
theorem dz_L_law_763 : decode zm_L_law.2.1 763 = .ok (.aload_n 1, 1) := by decide +kernel
theorem dz_L_law_764 : decode zm_L_law.2.1 764 = .ok (.aload_n 0, 1) := by decide +kernel
theorem dz_L_law_765 : decode zm_L_law.2.1 765 = .ok (.iload_n 3, 1) := by decide +kernel
theorem dz_L_law_766 : decode zm_L_law.2.1 766 = .ok (.iconst 1, 1) := by decide +kernel
theorem dz_L_law_767 : decode zm_L_law.2.1 767 = .ok (.iadd, 1) := by decide +kernel
theorem dz_L_law_768 : decode zm_L_law.2.1 768 = .ok (.iaload, 1) := by decide +kernel
theorem dz_L_law_769 : decode zm_L_law.2.1 769 = .ok (.invokevirtual 101, 3) := by decide +kernel
theorem dz_L_law_772 : decode zm_L_law.2.1 772 = .ok (.aload_n 2, 1) := by decide +kernel
theorem dz_L_law_773 : decode zm_L_law.2.1 773 = .ok (.aload_n 0, 1) := by decide +kernel
theorem dz_L_law_774 : decode zm_L_law.2.1 774 = .ok (.iload_n 3, 1) := by decide +kernel
theorem dz_L_law_775 : decode zm_L_law.2.1 775 = .ok (.iconst 1, 1) := by decide +kernel
theorem dz_L_law_776 : decode zm_L_law.2.1 776 = .ok (.iadd, 1) := by decide +kernel
theorem dz_L_law_777 : decode zm_L_law.2.1 777 = .ok (.iaload, 1) := by decide +kernel
theorem dz_L_law_778 : decode zm_L_law.2.1 778 = .ok (.invokevirtual 104, 3) := by decide +kernel
theorem dz_L_law_781 : decode zm_L_law.2.1 781 = .ok (.if_icmp .eq 545, 3) := by decide +kernel
theorem dz_L_law_784 : decode zm_L_law.2.1 784 = .ok (.iconst 0, 1) := by decide +kernel
theorem dz_L_law_785 : decode zm_L_law.2.1 785 = .ok (.ireturn, 1) := by decide +kernel
theorem dz_L_law_786 : decode zm_L_law.2.1 786 = .ok (.aload_n 1, 1) := by decide +kernel
theorem dz_L_law_787 : decode zm_L_law.2.1 787 = .ok (.aload_n 0, 1) := by decide +kernel
theorem dz_L_law_788 : decode zm_L_law.2.1 788 = .ok (.iload_n 3, 1) := by decide +kernel
theorem dz_L_law_789 : decode zm_L_law.2.1 789 = .ok (.iconst 1, 1) := by decide +kernel
theorem dz_L_law_790 : decode zm_L_law.2.1 790 = .ok (.iadd, 1) := by decide +kernel
theorem dz_L_law_791 : decode zm_L_law.2.1 791 = .ok (.iaload, 1) := by decide +kernel
theorem dz_L_law_792 : decode zm_L_law.2.1 792 = .ok (.invokevirtual 105, 3) := by decide +kernel
theorem dz_L_law_795 : decode zm_L_law.2.1 795 = .ok (.aload_n 2, 1) := by decide +kernel
theorem dz_L_law_796 : decode zm_L_law.2.1 796 = .ok (.aload_n 0, 1) := by decide +kernel
theorem dz_L_law_797 : decode zm_L_law.2.1 797 = .ok (.iload_n 3, 1) := by decide +kernel
theorem dz_L_law_798 : decode zm_L_law.2.1 798 = .ok (.iconst 1, 1) := by decide +kernel
theorem dz_L_law_799 : decode zm_L_law.2.1 799 = .ok (.iadd, 1) := by decide +kernel
theorem dz_L_law_800 : decode zm_L_law.2.1 800 = .ok (.iaload, 1) := by decide +kernel
theorem dz_L_law_801 : decode zm_L_law.2.1 801 = .ok (.invokevirtual 108, 3) := by decide +kernel
theorem dz_L_law_804 : decode zm_L_law.2.1 804 = .ok (.if_icmp .eq 522, 3) := by decide +kernel
theorem dz_L_law_807 : decode zm_L_law.2.1 807 = .ok (.iconst 0, 1) := by decide +kernel
theorem dz_L_law_808 : decode zm_L_law.2.1 808 = .ok (.ireturn, 1) := by decide +kernel
theorem dz_L_law_809 : decode zm_L_law.2.1 809 = .ok (.aload_n 1, 1) := by decide +kernel
theorem dz_L_law_810 : decode zm_L_law.2.1 810 = .ok (.aload_n 0, 1) := by decide +kernel
theorem dz_L_law_811 : decode zm_L_law.2.1 811 = .ok (.iload_n 3, 1) := by decide +kernel
theorem dz_L_law_812 : decode zm_L_law.2.1 812 = .ok (.iconst 1, 1) := by decide +kernel
theorem dz_L_law_813 : decode zm_L_law.2.1 813 = .ok (.iadd, 1) := by decide +kernel
theorem dz_L_law_814 : decode zm_L_law.2.1 814 = .ok (.iaload, 1) := by decide +kernel
theorem dz_L_law_815 : decode zm_L_law.2.1 815 = .ok (.aload_n 0, 1) := by decide +kernel
theorem dz_L_law_816 : decode zm_L_law.2.1 816 = .ok (.iload_n 3, 1) := by decide +kernel
theorem dz_L_law_817 : decode zm_L_law.2.1 817 = .ok (.iconst 2, 1) := by decide +kernel
theorem dz_L_law_818 : decode zm_L_law.2.1 818 = .ok (.iadd, 1) := by decide +kernel
theorem dz_L_law_819 : decode zm_L_law.2.1 819 = .ok (.iaload, 1) := by decide +kernel
theorem dz_L_law_820 : decode zm_L_law.2.1 820 = .ok (.invokevirtual 109, 3) := by decide +kernel
theorem dz_L_law_823 : decode zm_L_law.2.1 823 = .ok (.aload_n 2, 1) := by decide +kernel
theorem dz_L_law_824 : decode zm_L_law.2.1 824 = .ok (.aload_n 0, 1) := by decide +kernel
theorem dz_L_law_825 : decode zm_L_law.2.1 825 = .ok (.iload_n 3, 1) := by decide +kernel
theorem dz_L_law_826 : decode zm_L_law.2.1 826 = .ok (.iconst 1, 1) := by decide +kernel
theorem dz_L_law_827 : decode zm_L_law.2.1 827 = .ok (.iadd, 1) := by decide +kernel
theorem dz_L_law_828 : decode zm_L_law.2.1 828 = .ok (.iaload, 1) := by decide +kernel
theorem dz_L_law_829 : decode zm_L_law.2.1 829 = .ok (.aload_n 0, 1) := by decide +kernel
theorem dz_L_law_830 : decode zm_L_law.2.1 830 = .ok (.iload_n 3, 1) := by decide +kernel
theorem dz_L_law_831 : decode zm_L_law.2.1 831 = .ok (.iconst 2, 1) := by decide +kernel
theorem dz_L_law_832 : decode zm_L_law.2.1 832 = .ok (.iadd, 1) := by decide +kernel
theorem dz_L_law_833 : decode zm_L_law.2.1 833 = .ok (.iaload, 1) := by decide +kernel
theorem dz_L_law_834 : decode zm_L_law.2.1 834 = .ok (.invokevirtual 112, 3) := by decide +kernel
theorem dz_L_law_837 : decode zm_L_law.2.1 837 = .ok (.if_icmp .eq 489, 3) := by decide +kernel
theorem dz_L_law_840 : decode zm_L_law.2.1 840 = .ok (.iconst 0, 1) := by decide +kernel
theorem dz_L_law_841 : decode zm_L_law.2.1 841 = .ok (.ireturn, 1) := by decide +kernel
theorem dz_L_law_842 : decode zm_L_law.2.1 842 = .ok (.aload_n 1, 1) := by decide +kernel
theorem dz_L_law_843 : decode zm_L_law.2.1 843 = .ok (.aload_n 0, 1) := by decide +kernel
theorem dz_L_law_844 : decode zm_L_law.2.1 844 = .ok (.iload_n 3, 1) := by decide +kernel
theorem dz_L_law_845 : decode zm_L_law.2.1 845 = .ok (.iconst 1, 1) := by decide +kernel
theorem dz_L_law_846 : decode zm_L_law.2.1 846 = .ok (.iadd, 1) := by decide +kernel
theorem dz_L_law_847 : decode zm_L_law.2.1 847 = .ok (.iaload, 1) := by decide +kernel
theorem dz_L_law_848 : decode zm_L_law.2.1 848 = .ok (.aload_n 0, 1) := by decide +kernel
theorem dz_L_law_849 : decode zm_L_law.2.1 849 = .ok (.iload_n 3, 1) := by decide +kernel
theorem dz_L_law_850 : decode zm_L_law.2.1 850 = .ok (.iconst 2, 1) := by decide +kernel
theorem dz_L_law_851 : decode zm_L_law.2.1 851 = .ok (.iadd, 1) := by decide +kernel
theorem dz_L_law_852 : decode zm_L_law.2.1 852 = .ok (.iaload, 1) := by decide +kernel
theorem dz_L_law_853 : decode zm_L_law.2.1 853 = .ok (.aload_n 0, 1) := by decide +kernel
theorem dz_L_law_854 : decode zm_L_law.2.1 854 = .ok (.iload_n 3, 1) := by decide +kernel
theorem dz_L_law_855 : decode zm_L_law.2.1 855 = .ok (.iconst 3, 1) := by decide +kernel
theorem dz_L_law_856 : decode zm_L_law.2.1 856 = .ok (.iadd, 1) := by decide +kernel
theorem dz_L_law_857 : decode zm_L_law.2.1 857 = .ok (.iaload, 1) := by decide +kernel
theorem dz_L_law_858 : decode zm_L_law.2.1 858 = .ok (.aload_n 0, 1) := by decide +kernel
theorem dz_L_law_859 : decode zm_L_law.2.1 859 = .ok (.iload_n 3, 1) := by decide +kernel
theorem dz_L_law_860 : decode zm_L_law.2.1 860 = .ok (.iconst 4, 1) := by decide +kernel
theorem dz_L_law_861 : decode zm_L_law.2.1 861 = .ok (.iadd, 1) := by decide +kernel
theorem dz_L_law_862 : decode zm_L_law.2.1 862 = .ok (.iaload, 1) := by decide +kernel
theorem dz_L_law_863 : decode zm_L_law.2.1 863 = .ok (.invokevirtual 113, 3) := by decide +kernel
theorem dz_L_law_866 : decode zm_L_law.2.1 866 = .ok (.aload_n 2, 1) := by decide +kernel
theorem dz_L_law_867 : decode zm_L_law.2.1 867 = .ok (.aload_n 0, 1) := by decide +kernel
theorem dz_L_law_868 : decode zm_L_law.2.1 868 = .ok (.iload_n 3, 1) := by decide +kernel
theorem dz_L_law_869 : decode zm_L_law.2.1 869 = .ok (.iconst 1, 1) := by decide +kernel
theorem dz_L_law_870 : decode zm_L_law.2.1 870 = .ok (.iadd, 1) := by decide +kernel
theorem dz_L_law_871 : decode zm_L_law.2.1 871 = .ok (.iaload, 1) := by decide +kernel
theorem dz_L_law_872 : decode zm_L_law.2.1 872 = .ok (.aload_n 0, 1) := by decide +kernel
theorem dz_L_law_873 : decode zm_L_law.2.1 873 = .ok (.iload_n 3, 1) := by decide +kernel
theorem dz_L_law_874 : decode zm_L_law.2.1 874 = .ok (.iconst 2, 1) := by decide +kernel
theorem dz_L_law_875 : decode zm_L_law.2.1 875 = .ok (.iadd, 1) := by decide +kernel
theorem dz_L_law_876 : decode zm_L_law.2.1 876 = .ok (.iaload, 1) := by decide +kernel
theorem dz_L_law_877 : decode zm_L_law.2.1 877 = .ok (.aload_n 0, 1) := by decide +kernel
theorem dz_L_law_878 : decode zm_L_law.2.1 878 = .ok (.iload_n 3, 1) := by decide +kernel
theorem dz_L_law_879 : decode zm_L_law.2.1 879 = .ok (.iconst 3, 1) := by decide +kernel
theorem dz_L_law_880 : decode zm_L_law.2.1 880 = .ok (.iadd, 1) := by decide +kernel
theorem dz_L_law_881 : decode zm_L_law.2.1 881 = .ok (.iaload, 1) := by decide +kernel
theorem dz_L_law_882 : decode zm_L_law.2.1 882 = .ok (.aload_n 0, 1) := by decide +kernel
theorem dz_L_law_883 : decode zm_L_law.2.1 883 = .ok (.iload_n 3, 1) := by decide +kernel
theorem dz_L_law_884 : decode zm_L_law.2.1 884 = .ok (.iconst 4, 1) := by decide +kernel
theorem dz_L_law_885 : decode zm_L_law.2.1 885 = .ok (.iadd, 1) := by decide +kernel
theorem dz_L_law_886 : decode zm_L_law.2.1 886 = .ok (.iaload, 1) := by decide +kernel
theorem dz_L_law_887 : decode zm_L_law.2.1 887 = .ok (.invokevirtual 117, 3) := by decide +kernel
theorem dz_L_law_890 : decode zm_L_law.2.1 890 = .ok (.lcmp, 1) := by decide +kernel
theorem dz_L_law_891 : decode zm_L_law.2.1 891 = .ok (.ifCond .eq 435, 3) := by decide +kernel
theorem dz_L_law_894 : decode zm_L_law.2.1 894 = .ok (.iconst 0, 1) := by decide +kernel
theorem dz_L_law_895 : decode zm_L_law.2.1 895 = .ok (.ireturn, 1) := by decide +kernel
theorem dz_L_law_896 : decode zm_L_law.2.1 896 = .ok (.aload_n 1, 1) := by decide +kernel
theorem dz_L_law_897 : decode zm_L_law.2.1 897 = .ok (.aload_n 0, 1) := by decide +kernel
theorem dz_L_law_898 : decode zm_L_law.2.1 898 = .ok (.iload_n 3, 1) := by decide +kernel
theorem dz_L_law_899 : decode zm_L_law.2.1 899 = .ok (.iconst 1, 1) := by decide +kernel
theorem dz_L_law_900 : decode zm_L_law.2.1 900 = .ok (.iadd, 1) := by decide +kernel
theorem dz_L_law_901 : decode zm_L_law.2.1 901 = .ok (.iaload, 1) := by decide +kernel
theorem dz_L_law_902 : decode zm_L_law.2.1 902 = .ok (.aload_n 0, 1) := by decide +kernel
theorem dz_L_law_903 : decode zm_L_law.2.1 903 = .ok (.iload_n 3, 1) := by decide +kernel
theorem dz_L_law_904 : decode zm_L_law.2.1 904 = .ok (.iconst 2, 1) := by decide +kernel
theorem dz_L_law_905 : decode zm_L_law.2.1 905 = .ok (.iadd, 1) := by decide +kernel
theorem dz_L_law_906 : decode zm_L_law.2.1 906 = .ok (.iaload, 1) := by decide +kernel
theorem dz_L_law_907 : decode zm_L_law.2.1 907 = .ok (.invokevirtual 118, 3) := by decide +kernel
theorem dz_L_law_910 : decode zm_L_law.2.1 910 = .ok (.aload_n 2, 1) := by decide +kernel
theorem dz_L_law_911 : decode zm_L_law.2.1 911 = .ok (.aload_n 0, 1) := by decide +kernel
theorem dz_L_law_912 : decode zm_L_law.2.1 912 = .ok (.iload_n 3, 1) := by decide +kernel
theorem dz_L_law_913 : decode zm_L_law.2.1 913 = .ok (.iconst 1, 1) := by decide +kernel
theorem dz_L_law_914 : decode zm_L_law.2.1 914 = .ok (.iadd, 1) := by decide +kernel
theorem dz_L_law_915 : decode zm_L_law.2.1 915 = .ok (.iaload, 1) := by decide +kernel
theorem dz_L_law_916 : decode zm_L_law.2.1 916 = .ok (.aload_n 0, 1) := by decide +kernel
theorem dz_L_law_917 : decode zm_L_law.2.1 917 = .ok (.iload_n 3, 1) := by decide +kernel
theorem dz_L_law_918 : decode zm_L_law.2.1 918 = .ok (.iconst 2, 1) := by decide +kernel
theorem dz_L_law_919 : decode zm_L_law.2.1 919 = .ok (.iadd, 1) := by decide +kernel
theorem dz_L_law_920 : decode zm_L_law.2.1 920 = .ok (.iaload, 1) := by decide +kernel
theorem dz_L_law_921 : decode zm_L_law.2.1 921 = .ok (.invokevirtual 121, 3) := by decide +kernel
theorem dz_L_law_924 : decode zm_L_law.2.1 924 = .ok (.if_icmp .eq 402, 3) := by decide +kernel
theorem dz_L_law_927 : decode zm_L_law.2.1 927 = .ok (.iconst 0, 1) := by decide +kernel
theorem dz_L_law_928 : decode zm_L_law.2.1 928 = .ok (.ireturn, 1) := by decide +kernel
theorem dz_L_law_929 : decode zm_L_law.2.1 929 = .ok (.aload_n 1, 1) := by decide +kernel
theorem dz_L_law_930 : decode zm_L_law.2.1 930 = .ok (.aload_n 0, 1) := by decide +kernel
theorem dz_L_law_931 : decode zm_L_law.2.1 931 = .ok (.iload_n 3, 1) := by decide +kernel
theorem dz_L_law_932 : decode zm_L_law.2.1 932 = .ok (.iconst 1, 1) := by decide +kernel
theorem dz_L_law_933 : decode zm_L_law.2.1 933 = .ok (.iadd, 1) := by decide +kernel
theorem dz_L_law_934 : decode zm_L_law.2.1 934 = .ok (.iaload, 1) := by decide +kernel
theorem dz_L_law_935 : decode zm_L_law.2.1 935 = .ok (.aload_n 0, 1) := by decide +kernel
theorem dz_L_law_936 : decode zm_L_law.2.1 936 = .ok (.iload_n 3, 1) := by decide +kernel
theorem dz_L_law_937 : decode zm_L_law.2.1 937 = .ok (.iconst 2, 1) := by decide +kernel
theorem dz_L_law_938 : decode zm_L_law.2.1 938 = .ok (.iadd, 1) := by decide +kernel
theorem dz_L_law_939 : decode zm_L_law.2.1 939 = .ok (.iaload, 1) := by decide +kernel
theorem dz_L_law_940 : decode zm_L_law.2.1 940 = .ok (.aload_n 0, 1) := by decide +kernel
theorem dz_L_law_941 : decode zm_L_law.2.1 941 = .ok (.iload_n 3, 1) := by decide +kernel
theorem dz_L_law_942 : decode zm_L_law.2.1 942 = .ok (.iconst 3, 1) := by decide +kernel
theorem dz_L_law_943 : decode zm_L_law.2.1 943 = .ok (.iadd, 1) := by decide +kernel
theorem dz_L_law_944 : decode zm_L_law.2.1 944 = .ok (.iaload, 1) := by decide +kernel
theorem dz_L_law_945 : decode zm_L_law.2.1 945 = .ok (.aload_n 0, 1) := by decide +kernel
theorem dz_L_law_946 : decode zm_L_law.2.1 946 = .ok (.iload_n 3, 1) := by decide +kernel
theorem dz_L_law_947 : decode zm_L_law.2.1 947 = .ok (.iconst 4, 1) := by decide +kernel
theorem dz_L_law_948 : decode zm_L_law.2.1 948 = .ok (.iadd, 1) := by decide +kernel
theorem dz_L_law_949 : decode zm_L_law.2.1 949 = .ok (.iaload, 1) := by decide +kernel
theorem dz_L_law_950 : decode zm_L_law.2.1 950 = .ok (.invokevirtual 122, 3) := by decide +kernel
theorem dz_L_law_953 : decode zm_L_law.2.1 953 = .ok (.aload_n 2, 1) := by decide +kernel
theorem dz_L_law_954 : decode zm_L_law.2.1 954 = .ok (.aload_n 0, 1) := by decide +kernel
theorem dz_L_law_955 : decode zm_L_law.2.1 955 = .ok (.iload_n 3, 1) := by decide +kernel
theorem dz_L_law_956 : decode zm_L_law.2.1 956 = .ok (.iconst 1, 1) := by decide +kernel
theorem dz_L_law_957 : decode zm_L_law.2.1 957 = .ok (.iadd, 1) := by decide +kernel
theorem dz_L_law_958 : decode zm_L_law.2.1 958 = .ok (.iaload, 1) := by decide +kernel
theorem dz_L_law_959 : decode zm_L_law.2.1 959 = .ok (.aload_n 0, 1) := by decide +kernel
theorem dz_L_law_960 : decode zm_L_law.2.1 960 = .ok (.iload_n 3, 1) := by decide +kernel
theorem dz_L_law_961 : decode zm_L_law.2.1 961 = .ok (.iconst 2, 1) := by decide +kernel
theorem dz_L_law_962 : decode zm_L_law.2.1 962 = .ok (.iadd, 1) := by decide +kernel
theorem dz_L_law_963 : decode zm_L_law.2.1 963 = .ok (.iaload, 1) := by decide +kernel
theorem dz_L_law_964 : decode zm_L_law.2.1 964 = .ok (.aload_n 0, 1) := by decide +kernel
theorem dz_L_law_965 : decode zm_L_law.2.1 965 = .ok (.iload_n 3, 1) := by decide +kernel
theorem dz_L_law_966 : decode zm_L_law.2.1 966 = .ok (.iconst 3, 1) := by decide +kernel
theorem dz_L_law_967 : decode zm_L_law.2.1 967 = .ok (.iadd, 1) := by decide +kernel
theorem dz_L_law_968 : decode zm_L_law.2.1 968 = .ok (.iaload, 1) := by decide +kernel
theorem dz_L_law_969 : decode zm_L_law.2.1 969 = .ok (.aload_n 0, 1) := by decide +kernel
theorem dz_L_law_970 : decode zm_L_law.2.1 970 = .ok (.iload_n 3, 1) := by decide +kernel
theorem dz_L_law_971 : decode zm_L_law.2.1 971 = .ok (.iconst 4, 1) := by decide +kernel
theorem dz_L_law_972 : decode zm_L_law.2.1 972 = .ok (.iadd, 1) := by decide +kernel
theorem dz_L_law_973 : decode zm_L_law.2.1 973 = .ok (.iaload, 1) := by decide +kernel
theorem dz_L_law_974 : decode zm_L_law.2.1 974 = .ok (.invokevirtual 125, 3) := by decide +kernel
theorem dz_L_law_977 : decode zm_L_law.2.1 977 = .ok (.lcmp, 1) := by decide +kernel
theorem dz_L_law_978 : decode zm_L_law.2.1 978 = .ok (.ifCond .eq 348, 3) := by decide +kernel
theorem dz_L_law_981 : decode zm_L_law.2.1 981 = .ok (.iconst 0, 1) := by decide +kernel
theorem dz_L_law_982 : decode zm_L_law.2.1 982 = .ok (.ireturn, 1) := by decide +kernel
theorem dz_L_law_983 : decode zm_L_law.2.1 983 = .ok (.aload_n 1, 1) := by decide +kernel
theorem dz_L_law_984 : decode zm_L_law.2.1 984 = .ok (.aload_n 0, 1) := by decide +kernel
theorem dz_L_law_985 : decode zm_L_law.2.1 985 = .ok (.iload_n 3, 1) := by decide +kernel
theorem dz_L_law_986 : decode zm_L_law.2.1 986 = .ok (.iconst 1, 1) := by decide +kernel
theorem dz_L_law_987 : decode zm_L_law.2.1 987 = .ok (.iadd, 1) := by decide +kernel
theorem dz_L_law_988 : decode zm_L_law.2.1 988 = .ok (.iaload, 1) := by decide +kernel
theorem dz_L_law_989 : decode zm_L_law.2.1 989 = .ok (.aload_n 0, 1) := by decide +kernel
theorem dz_L_law_990 : decode zm_L_law.2.1 990 = .ok (.iload_n 3, 1) := by decide +kernel
theorem dz_L_law_991 : decode zm_L_law.2.1 991 = .ok (.iconst 2, 1) := by decide +kernel
theorem dz_L_law_992 : decode zm_L_law.2.1 992 = .ok (.iadd, 1) := by decide +kernel
theorem dz_L_law_993 : decode zm_L_law.2.1 993 = .ok (.iaload, 1) := by decide +kernel
theorem dz_L_law_994 : decode zm_L_law.2.1 994 = .ok (.invokevirtual 126, 3) := by decide +kernel
theorem dz_L_law_997 : decode zm_L_law.2.1 997 = .ok (.aload_n 2, 1) := by decide +kernel
theorem dz_L_law_998 : decode zm_L_law.2.1 998 = .ok (.aload_n 0, 1) := by decide +kernel
theorem dz_L_law_999 : decode zm_L_law.2.1 999 = .ok (.iload_n 3, 1) := by decide +kernel
theorem dz_L_law_1000 : decode zm_L_law.2.1 1000 = .ok (.iconst 1, 1) := by decide +kernel
theorem dz_L_law_1001 : decode zm_L_law.2.1 1001 = .ok (.iadd, 1) := by decide +kernel
theorem dz_L_law_1002 : decode zm_L_law.2.1 1002 = .ok (.iaload, 1) := by decide +kernel
theorem dz_L_law_1003 : decode zm_L_law.2.1 1003 = .ok (.aload_n 0, 1) := by decide +kernel
theorem dz_L_law_1004 : decode zm_L_law.2.1 1004 = .ok (.iload_n 3, 1) := by decide +kernel
theorem dz_L_law_1005 : decode zm_L_law.2.1 1005 = .ok (.iconst 2, 1) := by decide +kernel
theorem dz_L_law_1006 : decode zm_L_law.2.1 1006 = .ok (.iadd, 1) := by decide +kernel
theorem dz_L_law_1007 : decode zm_L_law.2.1 1007 = .ok (.iaload, 1) := by decide +kernel
theorem dz_L_law_1008 : decode zm_L_law.2.1 1008 = .ok (.invokevirtual 129, 3) := by decide +kernel
theorem dz_L_law_1011 : decode zm_L_law.2.1 1011 = .ok (.if_icmp .eq 315, 3) := by decide +kernel
theorem dz_L_law_1014 : decode zm_L_law.2.1 1014 = .ok (.iconst 0, 1) := by decide +kernel
theorem dz_L_law_1015 : decode zm_L_law.2.1 1015 = .ok (.ireturn, 1) := by decide +kernel
theorem dz_L_law_1016 : decode zm_L_law.2.1 1016 = .ok (.aload_n 1, 1) := by decide +kernel
theorem dz_L_law_1017 : decode zm_L_law.2.1 1017 = .ok (.aload_n 0, 1) := by decide +kernel
theorem dz_L_law_1018 : decode zm_L_law.2.1 1018 = .ok (.iload_n 3, 1) := by decide +kernel
theorem dz_L_law_1019 : decode zm_L_law.2.1 1019 = .ok (.iconst 1, 1) := by decide +kernel
theorem dz_L_law_1020 : decode zm_L_law.2.1 1020 = .ok (.iadd, 1) := by decide +kernel
theorem dz_L_law_1021 : decode zm_L_law.2.1 1021 = .ok (.iaload, 1) := by decide +kernel
theorem dz_L_law_1022 : decode zm_L_law.2.1 1022 = .ok (.invokevirtual 130, 3) := by decide +kernel
theorem dz_L_law_1025 : decode zm_L_law.2.1 1025 = .ok (.aload_n 2, 1) := by decide +kernel
theorem dz_L_law_1026 : decode zm_L_law.2.1 1026 = .ok (.aload_n 0, 1) := by decide +kernel
theorem dz_L_law_1027 : decode zm_L_law.2.1 1027 = .ok (.iload_n 3, 1) := by decide +kernel
theorem dz_L_law_1028 : decode zm_L_law.2.1 1028 = .ok (.iconst 1, 1) := by decide +kernel
theorem dz_L_law_1029 : decode zm_L_law.2.1 1029 = .ok (.iadd, 1) := by decide +kernel
theorem dz_L_law_1030 : decode zm_L_law.2.1 1030 = .ok (.iaload, 1) := by decide +kernel
theorem dz_L_law_1031 : decode zm_L_law.2.1 1031 = .ok (.invokevirtual 133, 3) := by decide +kernel
theorem dz_L_law_1034 : decode zm_L_law.2.1 1034 = .ok (.if_icmp .eq 292, 3) := by decide +kernel
theorem dz_L_law_1037 : decode zm_L_law.2.1 1037 = .ok (.iconst 0, 1) := by decide +kernel
theorem dz_L_law_1038 : decode zm_L_law.2.1 1038 = .ok (.ireturn, 1) := by decide +kernel
theorem dz_L_law_1039 : decode zm_L_law.2.1 1039 = .ok (.aload_n 1, 1) := by decide +kernel
theorem dz_L_law_1040 : decode zm_L_law.2.1 1040 = .ok (.aload_n 0, 1) := by decide +kernel
theorem dz_L_law_1041 : decode zm_L_law.2.1 1041 = .ok (.iload_n 3, 1) := by decide +kernel
theorem dz_L_law_1042 : decode zm_L_law.2.1 1042 = .ok (.iconst 1, 1) := by decide +kernel
theorem dz_L_law_1043 : decode zm_L_law.2.1 1043 = .ok (.iadd, 1) := by decide +kernel
theorem dz_L_law_1044 : decode zm_L_law.2.1 1044 = .ok (.iaload, 1) := by decide +kernel
theorem dz_L_law_1045 : decode zm_L_law.2.1 1045 = .ok (.invokevirtual 134, 3) := by decide +kernel
theorem dz_L_law_1048 : decode zm_L_law.2.1 1048 = .ok (.aload_n 2, 1) := by decide +kernel
theorem dz_L_law_1049 : decode zm_L_law.2.1 1049 = .ok (.aload_n 0, 1) := by decide +kernel
theorem dz_L_law_1050 : decode zm_L_law.2.1 1050 = .ok (.iload_n 3, 1) := by decide +kernel
theorem dz_L_law_1051 : decode zm_L_law.2.1 1051 = .ok (.iconst 1, 1) := by decide +kernel
theorem dz_L_law_1052 : decode zm_L_law.2.1 1052 = .ok (.iadd, 1) := by decide +kernel
theorem dz_L_law_1053 : decode zm_L_law.2.1 1053 = .ok (.iaload, 1) := by decide +kernel
theorem dz_L_law_1054 : decode zm_L_law.2.1 1054 = .ok (.invokevirtual 137, 3) := by decide +kernel
theorem dz_L_law_1057 : decode zm_L_law.2.1 1057 = .ok (.if_icmp .eq 269, 3) := by decide +kernel
theorem dz_L_law_1060 : decode zm_L_law.2.1 1060 = .ok (.iconst 0, 1) := by decide +kernel
theorem dz_L_law_1061 : decode zm_L_law.2.1 1061 = .ok (.ireturn, 1) := by decide +kernel
theorem dz_L_law_1062 : decode zm_L_law.2.1 1062 = .ok (.aload_n 1, 1) := by decide +kernel
theorem dz_L_law_1063 : decode zm_L_law.2.1 1063 = .ok (.aload_n 0, 1) := by decide +kernel
theorem dz_L_law_1064 : decode zm_L_law.2.1 1064 = .ok (.iload_n 3, 1) := by decide +kernel
theorem dz_L_law_1065 : decode zm_L_law.2.1 1065 = .ok (.iconst 1, 1) := by decide +kernel
theorem dz_L_law_1066 : decode zm_L_law.2.1 1066 = .ok (.iadd, 1) := by decide +kernel
theorem dz_L_law_1067 : decode zm_L_law.2.1 1067 = .ok (.iaload, 1) := by decide +kernel
theorem dz_L_law_1068 : decode zm_L_law.2.1 1068 = .ok (.aload_n 0, 1) := by decide +kernel
theorem dz_L_law_1069 : decode zm_L_law.2.1 1069 = .ok (.iload_n 3, 1) := by decide +kernel
theorem dz_L_law_1070 : decode zm_L_law.2.1 1070 = .ok (.iconst 2, 1) := by decide +kernel
theorem dz_L_law_1071 : decode zm_L_law.2.1 1071 = .ok (.iadd, 1) := by decide +kernel
theorem dz_L_law_1072 : decode zm_L_law.2.1 1072 = .ok (.iaload, 1) := by decide +kernel
theorem dz_L_law_1073 : decode zm_L_law.2.1 1073 = .ok (.aload_n 0, 1) := by decide +kernel
theorem dz_L_law_1074 : decode zm_L_law.2.1 1074 = .ok (.iload_n 3, 1) := by decide +kernel
theorem dz_L_law_1075 : decode zm_L_law.2.1 1075 = .ok (.iconst 3, 1) := by decide +kernel
theorem dz_L_law_1076 : decode zm_L_law.2.1 1076 = .ok (.iadd, 1) := by decide +kernel
theorem dz_L_law_1077 : decode zm_L_law.2.1 1077 = .ok (.iaload, 1) := by decide +kernel
theorem dz_L_law_1078 : decode zm_L_law.2.1 1078 = .ok (.invokevirtual 138, 3) := by decide +kernel
theorem dz_L_law_1081 : decode zm_L_law.2.1 1081 = .ok (.aload_n 2, 1) := by decide +kernel
theorem dz_L_law_1082 : decode zm_L_law.2.1 1082 = .ok (.aload_n 0, 1) := by decide +kernel
theorem dz_L_law_1083 : decode zm_L_law.2.1 1083 = .ok (.iload_n 3, 1) := by decide +kernel
theorem dz_L_law_1084 : decode zm_L_law.2.1 1084 = .ok (.iconst 1, 1) := by decide +kernel
theorem dz_L_law_1085 : decode zm_L_law.2.1 1085 = .ok (.iadd, 1) := by decide +kernel
theorem dz_L_law_1086 : decode zm_L_law.2.1 1086 = .ok (.iaload, 1) := by decide +kernel
theorem dz_L_law_1087 : decode zm_L_law.2.1 1087 = .ok (.aload_n 0, 1) := by decide +kernel
theorem dz_L_law_1088 : decode zm_L_law.2.1 1088 = .ok (.iload_n 3, 1) := by decide +kernel
theorem dz_L_law_1089 : decode zm_L_law.2.1 1089 = .ok (.iconst 2, 1) := by decide +kernel
theorem dz_L_law_1090 : decode zm_L_law.2.1 1090 = .ok (.iadd, 1) := by decide +kernel
theorem dz_L_law_1091 : decode zm_L_law.2.1 1091 = .ok (.iaload, 1) := by decide +kernel
theorem dz_L_law_1092 : decode zm_L_law.2.1 1092 = .ok (.aload_n 0, 1) := by decide +kernel
theorem dz_L_law_1093 : decode zm_L_law.2.1 1093 = .ok (.iload_n 3, 1) := by decide +kernel
theorem dz_L_law_1094 : decode zm_L_law.2.1 1094 = .ok (.iconst 3, 1) := by decide +kernel
theorem dz_L_law_1095 : decode zm_L_law.2.1 1095 = .ok (.iadd, 1) := by decide +kernel
theorem dz_L_law_1096 : decode zm_L_law.2.1 1096 = .ok (.iaload, 1) := by decide +kernel
theorem dz_L_law_1097 : decode zm_L_law.2.1 1097 = .ok (.invokevirtual 142, 3) := by decide +kernel
theorem dz_L_law_1100 : decode zm_L_law.2.1 1100 = .ok (.if_icmp .eq 226, 3) := by decide +kernel
theorem dz_L_law_1103 : decode zm_L_law.2.1 1103 = .ok (.iconst 0, 1) := by decide +kernel
theorem dz_L_law_1104 : decode zm_L_law.2.1 1104 = .ok (.ireturn, 1) := by decide +kernel
theorem dz_L_law_1105 : decode zm_L_law.2.1 1105 = .ok (.aload_n 1, 1) := by decide +kernel
theorem dz_L_law_1106 : decode zm_L_law.2.1 1106 = .ok (.aload_n 0, 1) := by decide +kernel
theorem dz_L_law_1107 : decode zm_L_law.2.1 1107 = .ok (.iload_n 3, 1) := by decide +kernel
theorem dz_L_law_1108 : decode zm_L_law.2.1 1108 = .ok (.iconst 1, 1) := by decide +kernel
theorem dz_L_law_1109 : decode zm_L_law.2.1 1109 = .ok (.iadd, 1) := by decide +kernel
theorem dz_L_law_1110 : decode zm_L_law.2.1 1110 = .ok (.iaload, 1) := by decide +kernel
theorem dz_L_law_1111 : decode zm_L_law.2.1 1111 = .ok (.invokevirtual 143, 3) := by decide +kernel
theorem dz_L_law_1114 : decode zm_L_law.2.1 1114 = .ok (.aload_n 2, 1) := by decide +kernel
theorem dz_L_law_1115 : decode zm_L_law.2.1 1115 = .ok (.aload_n 0, 1) := by decide +kernel
theorem dz_L_law_1116 : decode zm_L_law.2.1 1116 = .ok (.iload_n 3, 1) := by decide +kernel
theorem dz_L_law_1117 : decode zm_L_law.2.1 1117 = .ok (.iconst 1, 1) := by decide +kernel
theorem dz_L_law_1118 : decode zm_L_law.2.1 1118 = .ok (.iadd, 1) := by decide +kernel
theorem dz_L_law_1119 : decode zm_L_law.2.1 1119 = .ok (.iaload, 1) := by decide +kernel
theorem dz_L_law_1120 : decode zm_L_law.2.1 1120 = .ok (.invokevirtual 146, 3) := by decide +kernel
theorem dz_L_law_1123 : decode zm_L_law.2.1 1123 = .ok (.if_icmp .eq 203, 3) := by decide +kernel
theorem dz_L_law_1126 : decode zm_L_law.2.1 1126 = .ok (.iconst 0, 1) := by decide +kernel
theorem dz_L_law_1127 : decode zm_L_law.2.1 1127 = .ok (.ireturn, 1) := by decide +kernel
theorem dz_L_law_1128 : decode zm_L_law.2.1 1128 = .ok (.aload_n 1, 1) := by decide +kernel
theorem dz_L_law_1129 : decode zm_L_law.2.1 1129 = .ok (.aload_n 0, 1) := by decide +kernel
theorem dz_L_law_1130 : decode zm_L_law.2.1 1130 = .ok (.iload_n 3, 1) := by decide +kernel
theorem dz_L_law_1131 : decode zm_L_law.2.1 1131 = .ok (.iconst 1, 1) := by decide +kernel
theorem dz_L_law_1132 : decode zm_L_law.2.1 1132 = .ok (.iadd, 1) := by decide +kernel
theorem dz_L_law_1133 : decode zm_L_law.2.1 1133 = .ok (.iaload, 1) := by decide +kernel
theorem dz_L_law_1134 : decode zm_L_law.2.1 1134 = .ok (.invokevirtual 147, 3) := by decide +kernel
theorem dz_L_law_1137 : decode zm_L_law.2.1 1137 = .ok (.aload_n 2, 1) := by decide +kernel
theorem dz_L_law_1138 : decode zm_L_law.2.1 1138 = .ok (.aload_n 0, 1) := by decide +kernel
theorem dz_L_law_1139 : decode zm_L_law.2.1 1139 = .ok (.iload_n 3, 1) := by decide +kernel
theorem dz_L_law_1140 : decode zm_L_law.2.1 1140 = .ok (.iconst 1, 1) := by decide +kernel
theorem dz_L_law_1141 : decode zm_L_law.2.1 1141 = .ok (.iadd, 1) := by decide +kernel
theorem dz_L_law_1142 : decode zm_L_law.2.1 1142 = .ok (.iaload, 1) := by decide +kernel
theorem dz_L_law_1143 : decode zm_L_law.2.1 1143 = .ok (.invokevirtual 150, 3) := by decide +kernel
theorem dz_L_law_1146 : decode zm_L_law.2.1 1146 = .ok (.if_icmp .eq 180, 3) := by decide +kernel
theorem dz_L_law_1149 : decode zm_L_law.2.1 1149 = .ok (.iconst 0, 1) := by decide +kernel
theorem dz_L_law_1150 : decode zm_L_law.2.1 1150 = .ok (.ireturn, 1) := by decide +kernel
theorem dz_L_law_1151 : decode zm_L_law.2.1 1151 = .ok (.aload_n 1, 1) := by decide +kernel
theorem dz_L_law_1152 : decode zm_L_law.2.1 1152 = .ok (.aload_n 0, 1) := by decide +kernel
theorem dz_L_law_1153 : decode zm_L_law.2.1 1153 = .ok (.iload_n 3, 1) := by decide +kernel
theorem dz_L_law_1154 : decode zm_L_law.2.1 1154 = .ok (.iconst 1, 1) := by decide +kernel
theorem dz_L_law_1155 : decode zm_L_law.2.1 1155 = .ok (.iadd, 1) := by decide +kernel
theorem dz_L_law_1156 : decode zm_L_law.2.1 1156 = .ok (.iaload, 1) := by decide +kernel
theorem dz_L_law_1157 : decode zm_L_law.2.1 1157 = .ok (.aload_n 0, 1) := by decide +kernel
theorem dz_L_law_1158 : decode zm_L_law.2.1 1158 = .ok (.iload_n 3, 1) := by decide +kernel
theorem dz_L_law_1159 : decode zm_L_law.2.1 1159 = .ok (.iconst 2, 1) := by decide +kernel
theorem dz_L_law_1160 : decode zm_L_law.2.1 1160 = .ok (.iadd, 1) := by decide +kernel
theorem dz_L_law_1161 : decode zm_L_law.2.1 1161 = .ok (.iaload, 1) := by decide +kernel
theorem dz_L_law_1162 : decode zm_L_law.2.1 1162 = .ok (.aload_n 0, 1) := by decide +kernel
theorem dz_L_law_1163 : decode zm_L_law.2.1 1163 = .ok (.iload_n 3, 1) := by decide +kernel
theorem dz_L_law_1164 : decode zm_L_law.2.1 1164 = .ok (.iconst 3, 1) := by decide +kernel
theorem dz_L_law_1165 : decode zm_L_law.2.1 1165 = .ok (.iadd, 1) := by decide +kernel
theorem dz_L_law_1166 : decode zm_L_law.2.1 1166 = .ok (.iaload, 1) := by decide +kernel
theorem dz_L_law_1167 : decode zm_L_law.2.1 1167 = .ok (.invokevirtual 151, 3) := by decide +kernel
theorem dz_L_law_1170 : decode zm_L_law.2.1 1170 = .ok (.aload_n 2, 1) := by decide +kernel
theorem dz_L_law_1171 : decode zm_L_law.2.1 1171 = .ok (.aload_n 0, 1) := by decide +kernel
theorem dz_L_law_1172 : decode zm_L_law.2.1 1172 = .ok (.iload_n 3, 1) := by decide +kernel
theorem dz_L_law_1173 : decode zm_L_law.2.1 1173 = .ok (.iconst 1, 1) := by decide +kernel
theorem dz_L_law_1174 : decode zm_L_law.2.1 1174 = .ok (.iadd, 1) := by decide +kernel
theorem dz_L_law_1175 : decode zm_L_law.2.1 1175 = .ok (.iaload, 1) := by decide +kernel
theorem dz_L_law_1176 : decode zm_L_law.2.1 1176 = .ok (.aload_n 0, 1) := by decide +kernel
theorem dz_L_law_1177 : decode zm_L_law.2.1 1177 = .ok (.iload_n 3, 1) := by decide +kernel
theorem dz_L_law_1178 : decode zm_L_law.2.1 1178 = .ok (.iconst 2, 1) := by decide +kernel
theorem dz_L_law_1179 : decode zm_L_law.2.1 1179 = .ok (.iadd, 1) := by decide +kernel
theorem dz_L_law_1180 : decode zm_L_law.2.1 1180 = .ok (.iaload, 1) := by decide +kernel
theorem dz_L_law_1181 : decode zm_L_law.2.1 1181 = .ok (.aload_n 0, 1) := by decide +kernel
theorem dz_L_law_1182 : decode zm_L_law.2.1 1182 = .ok (.iload_n 3, 1) := by decide +kernel
theorem dz_L_law_1183 : decode zm_L_law.2.1 1183 = .ok (.iconst 3, 1) := by decide +kernel
theorem dz_L_law_1184 : decode zm_L_law.2.1 1184 = .ok (.iadd, 1) := by decide +kernel
theorem dz_L_law_1185 : decode zm_L_law.2.1 1185 = .ok (.iaload, 1) := by decide +kernel
theorem dz_L_law_1186 : decode zm_L_law.2.1 1186 = .ok (.invokevirtual 154, 3) := by decide +kernel
theorem dz_L_law_1189 : decode zm_L_law.2.1 1189 = .ok (.if_icmp .eq 137, 3) := by decide +kernel
theorem dz_L_law_1192 : decode zm_L_law.2.1 1192 = .ok (.iconst 0, 1) := by decide +kernel
theorem dz_L_law_1193 : decode zm_L_law.2.1 1193 = .ok (.ireturn, 1) := by decide +kernel
theorem dz_L_law_1194 : decode zm_L_law.2.1 1194 = .ok (.aload_n 1, 1) := by decide +kernel
theorem dz_L_law_1195 : decode zm_L_law.2.1 1195 = .ok (.aload_n 0, 1) := by decide +kernel
theorem dz_L_law_1196 : decode zm_L_law.2.1 1196 = .ok (.iload_n 3, 1) := by decide +kernel
theorem dz_L_law_1197 : decode zm_L_law.2.1 1197 = .ok (.iconst 1, 1) := by decide +kernel
theorem dz_L_law_1198 : decode zm_L_law.2.1 1198 = .ok (.iadd, 1) := by decide +kernel
theorem dz_L_law_1199 : decode zm_L_law.2.1 1199 = .ok (.iaload, 1) := by decide +kernel
theorem dz_L_law_1200 : decode zm_L_law.2.1 1200 = .ok (.aload_n 0, 1) := by decide +kernel
theorem dz_L_law_1201 : decode zm_L_law.2.1 1201 = .ok (.iload_n 3, 1) := by decide +kernel
theorem dz_L_law_1202 : decode zm_L_law.2.1 1202 = .ok (.iconst 2, 1) := by decide +kernel
theorem dz_L_law_1203 : decode zm_L_law.2.1 1203 = .ok (.iadd, 1) := by decide +kernel
theorem dz_L_law_1204 : decode zm_L_law.2.1 1204 = .ok (.iaload, 1) := by decide +kernel
theorem dz_L_law_1205 : decode zm_L_law.2.1 1205 = .ok (.aload_n 0, 1) := by decide +kernel
theorem dz_L_law_1206 : decode zm_L_law.2.1 1206 = .ok (.iload_n 3, 1) := by decide +kernel
theorem dz_L_law_1207 : decode zm_L_law.2.1 1207 = .ok (.iconst 3, 1) := by decide +kernel
theorem dz_L_law_1208 : decode zm_L_law.2.1 1208 = .ok (.iadd, 1) := by decide +kernel
theorem dz_L_law_1209 : decode zm_L_law.2.1 1209 = .ok (.iaload, 1) := by decide +kernel
theorem dz_L_law_1210 : decode zm_L_law.2.1 1210 = .ok (.invokevirtual 155, 3) := by decide +kernel
theorem dz_L_law_1213 : decode zm_L_law.2.1 1213 = .ok (.aload_n 2, 1) := by decide +kernel
theorem dz_L_law_1214 : decode zm_L_law.2.1 1214 = .ok (.aload_n 0, 1) := by decide +kernel
theorem dz_L_law_1215 : decode zm_L_law.2.1 1215 = .ok (.iload_n 3, 1) := by decide +kernel
theorem dz_L_law_1216 : decode zm_L_law.2.1 1216 = .ok (.iconst 1, 1) := by decide +kernel
theorem dz_L_law_1217 : decode zm_L_law.2.1 1217 = .ok (.iadd, 1) := by decide +kernel
theorem dz_L_law_1218 : decode zm_L_law.2.1 1218 = .ok (.iaload, 1) := by decide +kernel
theorem dz_L_law_1219 : decode zm_L_law.2.1 1219 = .ok (.aload_n 0, 1) := by decide +kernel
theorem dz_L_law_1220 : decode zm_L_law.2.1 1220 = .ok (.iload_n 3, 1) := by decide +kernel
theorem dz_L_law_1221 : decode zm_L_law.2.1 1221 = .ok (.iconst 2, 1) := by decide +kernel
theorem dz_L_law_1222 : decode zm_L_law.2.1 1222 = .ok (.iadd, 1) := by decide +kernel
theorem dz_L_law_1223 : decode zm_L_law.2.1 1223 = .ok (.iaload, 1) := by decide +kernel
theorem dz_L_law_1224 : decode zm_L_law.2.1 1224 = .ok (.aload_n 0, 1) := by decide +kernel
theorem dz_L_law_1225 : decode zm_L_law.2.1 1225 = .ok (.iload_n 3, 1) := by decide +kernel
theorem dz_L_law_1226 : decode zm_L_law.2.1 1226 = .ok (.iconst 3, 1) := by decide +kernel
theorem dz_L_law_1227 : decode zm_L_law.2.1 1227 = .ok (.iadd, 1) := by decide +kernel
theorem dz_L_law_1228 : decode zm_L_law.2.1 1228 = .ok (.iaload, 1) := by decide +kernel
theorem dz_L_law_1229 : decode zm_L_law.2.1 1229 = .ok (.invokevirtual 158, 3) := by decide +kernel
theorem dz_L_law_1232 : decode zm_L_law.2.1 1232 = .ok (.if_icmp .eq 94, 3) := by decide +kernel
theorem dz_L_law_1235 : decode zm_L_law.2.1 1235 = .ok (.iconst 0, 1) := by decide +kernel
theorem dz_L_law_1236 : decode zm_L_law.2.1 1236 = .ok (.ireturn, 1) := by decide +kernel
theorem dz_L_law_1237 : decode zm_L_law.2.1 1237 = .ok (.aload_n 1, 1) := by decide +kernel
theorem dz_L_law_1238 : decode zm_L_law.2.1 1238 = .ok (.aload_n 0, 1) := by decide +kernel
theorem dz_L_law_1239 : decode zm_L_law.2.1 1239 = .ok (.iload_n 3, 1) := by decide +kernel
theorem dz_L_law_1240 : decode zm_L_law.2.1 1240 = .ok (.iconst 1, 1) := by decide +kernel
theorem dz_L_law_1241 : decode zm_L_law.2.1 1241 = .ok (.iadd, 1) := by decide +kernel
theorem dz_L_law_1242 : decode zm_L_law.2.1 1242 = .ok (.iaload, 1) := by decide +kernel
theorem dz_L_law_1243 : decode zm_L_law.2.1 1243 = .ok (.aload_n 0, 1) := by decide +kernel
theorem dz_L_law_1244 : decode zm_L_law.2.1 1244 = .ok (.iload_n 3, 1) := by decide +kernel
theorem dz_L_law_1245 : decode zm_L_law.2.1 1245 = .ok (.iconst 2, 1) := by decide +kernel
theorem dz_L_law_1246 : decode zm_L_law.2.1 1246 = .ok (.iadd, 1) := by decide +kernel
theorem dz_L_law_1247 : decode zm_L_law.2.1 1247 = .ok (.iaload, 1) := by decide +kernel
theorem dz_L_law_1248 : decode zm_L_law.2.1 1248 = .ok (.aload_n 0, 1) := by decide +kernel
theorem dz_L_law_1249 : decode zm_L_law.2.1 1249 = .ok (.iload_n 3, 1) := by decide +kernel
theorem dz_L_law_1250 : decode zm_L_law.2.1 1250 = .ok (.iconst 3, 1) := by decide +kernel
theorem dz_L_law_1251 : decode zm_L_law.2.1 1251 = .ok (.iadd, 1) := by decide +kernel
theorem dz_L_law_1252 : decode zm_L_law.2.1 1252 = .ok (.iaload, 1) := by decide +kernel
theorem dz_L_law_1253 : decode zm_L_law.2.1 1253 = .ok (.aload_n 0, 1) := by decide +kernel
theorem dz_L_law_1254 : decode zm_L_law.2.1 1254 = .ok (.iload_n 3, 1) := by decide +kernel
theorem dz_L_law_1255 : decode zm_L_law.2.1 1255 = .ok (.iconst 4, 1) := by decide +kernel
theorem dz_L_law_1256 : decode zm_L_law.2.1 1256 = .ok (.iadd, 1) := by decide +kernel
theorem dz_L_law_1257 : decode zm_L_law.2.1 1257 = .ok (.iaload, 1) := by decide +kernel
theorem dz_L_law_1258 : decode zm_L_law.2.1 1258 = .ok (.invokevirtual 159, 3) := by decide +kernel
theorem dz_L_law_1261 : decode zm_L_law.2.1 1261 = .ok (.aload_n 2, 1) := by decide +kernel
theorem dz_L_law_1262 : decode zm_L_law.2.1 1262 = .ok (.aload_n 0, 1) := by decide +kernel
theorem dz_L_law_1263 : decode zm_L_law.2.1 1263 = .ok (.iload_n 3, 1) := by decide +kernel
theorem dz_L_law_1264 : decode zm_L_law.2.1 1264 = .ok (.iconst 1, 1) := by decide +kernel
theorem dz_L_law_1265 : decode zm_L_law.2.1 1265 = .ok (.iadd, 1) := by decide +kernel
theorem dz_L_law_1266 : decode zm_L_law.2.1 1266 = .ok (.iaload, 1) := by decide +kernel
theorem dz_L_law_1267 : decode zm_L_law.2.1 1267 = .ok (.aload_n 0, 1) := by decide +kernel
theorem dz_L_law_1268 : decode zm_L_law.2.1 1268 = .ok (.iload_n 3, 1) := by decide +kernel
theorem dz_L_law_1269 : decode zm_L_law.2.1 1269 = .ok (.iconst 2, 1) := by decide +kernel
theorem dz_L_law_1270 : decode zm_L_law.2.1 1270 = .ok (.iadd, 1) := by decide +kernel
theorem dz_L_law_1271 : decode zm_L_law.2.1 1271 = .ok (.iaload, 1) := by decide +kernel
theorem dz_L_law_1272 : decode zm_L_law.2.1 1272 = .ok (.aload_n 0, 1) := by decide +kernel
theorem dz_L_law_1273 : decode zm_L_law.2.1 1273 = .ok (.iload_n 3, 1) := by decide +kernel
theorem dz_L_law_1274 : decode zm_L_law.2.1 1274 = .ok (.iconst 3, 1) := by decide +kernel
theorem dz_L_law_1275 : decode zm_L_law.2.1 1275 = .ok (.iadd, 1) := by decide +kernel
theorem dz_L_law_1276 : decode zm_L_law.2.1 1276 = .ok (.iaload, 1) := by decide +kernel
theorem dz_L_law_1277 : decode zm_L_law.2.1 1277 = .ok (.aload_n 0, 1) := by decide +kernel
theorem dz_L_law_1278 : decode zm_L_law.2.1 1278 = .ok (.iload_n 3, 1) := by decide +kernel
theorem dz_L_law_1279 : decode zm_L_law.2.1 1279 = .ok (.iconst 4, 1) := by decide +kernel
theorem dz_L_law_1280 : decode zm_L_law.2.1 1280 = .ok (.iadd, 1) := by decide +kernel
theorem dz_L_law_1281 : decode zm_L_law.2.1 1281 = .ok (.iaload, 1) := by decide +kernel
theorem dz_L_law_1282 : decode zm_L_law.2.1 1282 = .ok (.invokevirtual 162, 3) := by decide +kernel
theorem dz_L_law_1285 : decode zm_L_law.2.1 1285 = .ok (.if_icmp .eq 41, 3) := by decide +kernel
theorem dz_L_law_1288 : decode zm_L_law.2.1 1288 = .ok (.iconst 0, 1) := by decide +kernel
theorem dz_L_law_1289 : decode zm_L_law.2.1 1289 = .ok (.ireturn, 1) := by decide +kernel
theorem dz_L_law_1290 : decode zm_L_law.2.1 1290 = .ok (.aload_n 1, 1) := by decide +kernel
theorem dz_L_law_1291 : decode zm_L_law.2.1 1291 = .ok (.invokevirtual 163, 3) := by decide +kernel
theorem dz_L_law_1294 : decode zm_L_law.2.1 1294 = .ok (.aload_n 2, 1) := by decide +kernel
theorem dz_L_law_1295 : decode zm_L_law.2.1 1295 = .ok (.invokevirtual 166, 3) := by decide +kernel
theorem dz_L_law_1298 : decode zm_L_law.2.1 1298 = .ok (.if_icmp .eq 28, 3) := by decide +kernel
theorem dz_L_law_1301 : decode zm_L_law.2.1 1301 = .ok (.iconst 0, 1) := by decide +kernel
theorem dz_L_law_1302 : decode zm_L_law.2.1 1302 = .ok (.ireturn, 1) := by decide +kernel
theorem dz_L_law_1303 : decode zm_L_law.2.1 1303 = .ok (.aload_n 1, 1) := by decide +kernel
theorem dz_L_law_1304 : decode zm_L_law.2.1 1304 = .ok (.aload_n 0, 1) := by decide +kernel
theorem dz_L_law_1305 : decode zm_L_law.2.1 1305 = .ok (.iload_n 3, 1) := by decide +kernel
theorem dz_L_law_1306 : decode zm_L_law.2.1 1306 = .ok (.iconst 1, 1) := by decide +kernel
theorem dz_L_law_1307 : decode zm_L_law.2.1 1307 = .ok (.iadd, 1) := by decide +kernel
theorem dz_L_law_1308 : decode zm_L_law.2.1 1308 = .ok (.iaload, 1) := by decide +kernel
theorem dz_L_law_1309 : decode zm_L_law.2.1 1309 = .ok (.invokevirtual 167, 3) := by decide +kernel
theorem dz_L_law_1312 : decode zm_L_law.2.1 1312 = .ok (.aload_n 2, 1) := by decide +kernel
theorem dz_L_law_1313 : decode zm_L_law.2.1 1313 = .ok (.aload_n 0, 1) := by decide +kernel
theorem dz_L_law_1314 : decode zm_L_law.2.1 1314 = .ok (.iload_n 3, 1) := by decide +kernel
theorem dz_L_law_1315 : decode zm_L_law.2.1 1315 = .ok (.iconst 1, 1) := by decide +kernel
theorem dz_L_law_1316 : decode zm_L_law.2.1 1316 = .ok (.iadd, 1) := by decide +kernel
theorem dz_L_law_1317 : decode zm_L_law.2.1 1317 = .ok (.iaload, 1) := by decide +kernel
theorem dz_L_law_1318 : decode zm_L_law.2.1 1318 = .ok (.invokevirtual 170, 3) := by decide +kernel
theorem dz_L_law_1321 : decode zm_L_law.2.1 1321 = .ok (.if_icmp .eq 5, 3) := by decide +kernel
theorem dz_L_law_1324 : decode zm_L_law.2.1 1324 = .ok (.iconst 0, 1) := by decide +kernel
theorem dz_L_law_1325 : decode zm_L_law.2.1 1325 = .ok (.ireturn, 1) := by decide +kernel
theorem dz_L_law_1326 : decode zm_L_law.2.1 1326 = .ok (.iinc 3 5, 3) := by decide +kernel
theorem dz_L_law_1329 : decode zm_L_law.2.1 1329 = .ok (.goto (-1311), 3) := by decide +kernel
theorem dz_L_law_1332 : decode zm_L_law.2.1 1332 = .ok (.iconst 1, 1) := by decide +kernel
theorem dz_L_law_1333 : decode zm_L_law.2.1 1333 = .ok (.ireturn, 1) := by decide +kernel
set_option maxHeartbeats 4000000 in
theorem sl_0 {ν : zq_E} (hL : ν.2.2.2.2.2 ≤ 320) {i : Nat} (hi : i + 5 ≤ ν.2.2.2.2.2) {σ : zq_T} {X : za_X} (hA : zl_at σ X) (kk : ∀ τ Y, zl_at τ Y → zq_G ν zm_L_law 15 zl_Q 1326 (zl_ls i) [] τ) : zq_G ν zm_L_law 15 zl_Q 200 (zl_ls i) [] σ := by
  obtain ⟨hS, hM, hW⟩ := hA
  have hn6 : za_n X.1 ≤ 6 := hM.1.1.1
  refine gq_aload_n dz_L_law_200 rfl ?_
  refine gq_aload_n dz_L_law_201 rfl ?_
  refine gq_iload_n dz_L_law_202 rfl ?_
  refine gq_iconst (v := 1) dz_L_law_203 rfl ?_
  refine gq_iadd dz_L_law_204 ?_
  refine gq_sld (i + 1) (nI_add i 1) (by omega) (by omega) dz_L_law_205 ?_
  refine gq_cVP (sp_S_feed hS hW _) zw_S_feed zl_L_13 dz_L_law_206 rfl rfl rfl (by decide) rfl rfl (Nat.le_of_ble_eq_true rfl) (fun τS hqS => ?_)
  have hS1 := hqS.1
  have hM1 := hM.gS hW hqS.2
  refine gq_aload_n dz_L_law_209 rfl ?_
  refine gq_aload_n dz_L_law_210 rfl ?_
  refine gq_iload_n dz_L_law_211 rfl ?_
  refine gq_iconst (v := 1) dz_L_law_212 rfl ?_
  refine gq_iadd dz_L_law_213 ?_
  refine gq_sld (i + 1) (nI_add i 1) (by omega) (by omega) dz_L_law_214 ?_
  refine gq_cVP (sp_M_feed hM1 hW _) zw_M_feed zl_L_17 dz_L_law_215 rfl rfl rfl (by decide) rfl rfl (Nat.le_of_ble_eq_true rfl) (fun τM hqM => ?_)
  refine gq_icmp_eq (tgt := 1326) dz_L_law_218 rfl (fun _ => ?_) (fun hne => ?_)
  · exact kk _ _ ⟨hS1.gM hqM.2, hqM.1, zw_feed hW _⟩
  · exact absurd rfl hne
set_option maxHeartbeats 4000000 in
theorem sl_1 {ν : zq_E} (hL : ν.2.2.2.2.2 ≤ 320) {i : Nat} (hi : i + 5 ≤ ν.2.2.2.2.2) {σ : zq_T} {X : za_X} (hA : zl_at σ X) (kk : ∀ τ Y, zl_at τ Y → zq_G ν zm_L_law 15 zl_Q 1326 (zl_ls i) [] τ) : zq_G ν zm_L_law 15 zl_Q 223 (zl_ls i) [] σ := by
  obtain ⟨hS, hM, hW⟩ := hA
  have hn6 : za_n X.1 ≤ 6 := hM.1.1.1
  refine gq_aload_n dz_L_law_223 rfl ?_
  refine gq_aload_n dz_L_law_224 rfl ?_
  refine gq_iload_n dz_L_law_225 rfl ?_
  refine gq_iconst (v := 1) dz_L_law_226 rfl ?_
  refine gq_iadd dz_L_law_227 ?_
  refine gq_sld (i + 1) (nI_add i 1) (by omega) (by omega) dz_L_law_228 ?_
  refine gq_cVP (sp_S_end hS hW _) zw_S_end zl_L_18 dz_L_law_229 rfl rfl rfl (by decide) rfl rfl (Nat.le_of_ble_eq_true rfl) (fun τS hqS => ?_)
  have hS1 := hqS.1
  have hM1 := hM.gS hW hqS.2
  refine gq_aload_n dz_L_law_232 rfl ?_
  refine gq_aload_n dz_L_law_233 rfl ?_
  refine gq_iload_n dz_L_law_234 rfl ?_
  refine gq_iconst (v := 1) dz_L_law_235 rfl ?_
  refine gq_iadd dz_L_law_236 ?_
  refine gq_sld (i + 1) (nI_add i 1) (by omega) (by omega) dz_L_law_237 ?_
  refine gq_cVP (sp_M_end hM1 hW _) zw_M_end zl_L_21 dz_L_law_238 rfl rfl rfl (by decide) rfl rfl (Nat.le_of_ble_eq_true rfl) (fun τM hqM => ?_)
  refine gq_icmp_eq (tgt := 1326) dz_L_law_241 rfl (fun _ => ?_) (fun hne => ?_)
  · exact kk _ _ ⟨hS1.gM hqM.2, hqM.1, zw_end hW _⟩
  · exact absurd rfl hne
set_option maxHeartbeats 4000000 in
theorem sl_2 {ν : zq_E} (hL : ν.2.2.2.2.2 ≤ 320) {i : Nat} (hi : i + 5 ≤ ν.2.2.2.2.2) {σ : zq_T} {X : za_X} (hA : zl_at σ X) (kk : ∀ τ Y, zl_at τ Y → zq_G ν zm_L_law 15 zl_Q 1326 (zl_ls i) [] τ) : zq_G ν zm_L_law 15 zl_Q 246 (zl_ls i) [] σ := by
  obtain ⟨hS, hM, hW⟩ := hA
  have hn6 : za_n X.1 ≤ 6 := hM.1.1.1
  refine gq_aload_n dz_L_law_246 rfl ?_
  refine gq_cVP (sp_S_text hS hW) zw_S_text zl_L_22 dz_L_law_247 rfl rfl rfl (by decide) rfl rfl (Nat.le_of_ble_eq_true rfl) (fun τS hqS => ?_)
  have hS1 := hqS.1
  have hM1 := hM.gS hW hqS.2
  refine gq_aload_n dz_L_law_250 rfl ?_
  refine gq_cVP (sp_M_text hM1 hW) zw_M_text zl_L_26 dz_L_law_251 rfl rfl rfl (by decide) rfl rfl (Nat.le_of_ble_eq_true rfl) (fun τM hqM => ?_)
  refine gq_icmp_eq (tgt := 1326) dz_L_law_254 rfl (fun _ => ?_) (fun hne => ?_)
  · exact kk _ _ ⟨hS1.gM hqM.2, hqM.1, zw_text hW⟩
  · exact absurd rfl hne
set_option maxHeartbeats 4000000 in
theorem sl_3 {ν : zq_E} (hL : ν.2.2.2.2.2 ≤ 320) {i : Nat} (hi : i + 5 ≤ ν.2.2.2.2.2) {σ : zq_T} {X : za_X} (hA : zl_at σ X) (kk : ∀ τ Y, zl_at τ Y → zq_G ν zm_L_law 15 zl_Q 1326 (zl_ls i) [] τ) : zq_G ν zm_L_law 15 zl_Q 259 (zl_ls i) [] σ := by
  obtain ⟨hS, hM, hW⟩ := hA
  have hn6 : za_n X.1 ≤ 6 := hM.1.1.1
  refine gq_aload_n dz_L_law_259 rfl ?_
  refine gq_cV (sp_S_fault hS hW) zw_S_fault zl_L_27 dz_L_law_260 rfl rfl rfl (by decide) rfl rfl (Nat.le_of_ble_eq_true rfl) ?_
  have hS1 := hS
  have hM1 := hM
  refine gq_aload_n dz_L_law_263 rfl ?_
  refine gq_cV (sp_M_fault hM1) zw_M_fault zl_L_30 dz_L_law_264 rfl rfl rfl (by decide) rfl rfl (Nat.le_of_ble_eq_true rfl) ?_
  refine gq_icmp_eq (tgt := 1326) dz_L_law_267 rfl (fun _ => ?_) (fun hne => ?_)
  · exact kk _ _ ⟨hS1, hM1, hW⟩
  · exact absurd rfl hne
set_option maxHeartbeats 4000000 in
theorem sl_4 {ν : zq_E} (hL : ν.2.2.2.2.2 ≤ 320) {i : Nat} (hi : i + 5 ≤ ν.2.2.2.2.2) {σ : zq_T} {X : za_X} (hA : zl_at σ X) (kk : ∀ τ Y, zl_at τ Y → zq_G ν zm_L_law 15 zl_Q 1326 (zl_ls i) [] τ) : zq_G ν zm_L_law 15 zl_Q 272 (zl_ls i) [] σ := by
  obtain ⟨hS, hM, hW⟩ := hA
  have hn6 : za_n X.1 ≤ 6 := hM.1.1.1
  refine gq_aload_n dz_L_law_272 rfl ?_
  refine gq_aload_n dz_L_law_273 rfl ?_
  refine gq_iload_n dz_L_law_274 rfl ?_
  refine gq_iconst (v := 1) dz_L_law_275 rfl ?_
  refine gq_iadd dz_L_law_276 ?_
  refine gq_sld (i + 1) (nI_add i 1) (by omega) (by omega) dz_L_law_277 ?_
  refine gq_cV (sp_S_rule hS hW _) zw_S_rule zl_L_31 dz_L_law_278 rfl rfl rfl (by decide) rfl rfl (Nat.le_of_ble_eq_true rfl) ?_
  have hS1 := hS
  have hM1 := hM
  refine gq_aload_n dz_L_law_281 rfl ?_
  refine gq_aload_n dz_L_law_282 rfl ?_
  refine gq_iload_n dz_L_law_283 rfl ?_
  refine gq_iconst (v := 1) dz_L_law_284 rfl ?_
  refine gq_iadd dz_L_law_285 ?_
  refine gq_sld (i + 1) (nI_add i 1) (by omega) (by omega) dz_L_law_286 ?_
  refine gq_cV (sp_M_rule hM1.1 _) zw_M_rule zl_L_34 dz_L_law_287 rfl rfl rfl (by decide) rfl rfl (Nat.le_of_ble_eq_true rfl) ?_
  refine gq_icmp_eq (tgt := 1326) dz_L_law_290 rfl (fun _ => ?_) (fun hne => ?_)
  · exact kk _ _ ⟨hS1, hM1, hW⟩
  · exact absurd rfl hne
set_option maxHeartbeats 4000000 in
theorem sl_5 {ν : zq_E} (hL : ν.2.2.2.2.2 ≤ 320) {i : Nat} (hi : i + 5 ≤ ν.2.2.2.2.2) {σ : zq_T} {X : za_X} (hA : zl_at σ X) (kk : ∀ τ Y, zl_at τ Y → zq_G ν zm_L_law 15 zl_Q 1326 (zl_ls i) [] τ) : zq_G ν zm_L_law 15 zl_Q 295 (zl_ls i) [] σ := by
  obtain ⟨hS, hM, hW⟩ := hA
  have hn6 : za_n X.1 ≤ 6 := hM.1.1.1
  refine gq_aload_n dz_L_law_295 rfl ?_
  refine gq_aload_n dz_L_law_296 rfl ?_
  refine gq_iload_n dz_L_law_297 rfl ?_
  refine gq_iconst (v := 1) dz_L_law_298 rfl ?_
  refine gq_iadd dz_L_law_299 ?_
  refine gq_sld (i + 1) (nI_add i 1) (by omega) (by omega) dz_L_law_300 ?_
  refine gq_aload_n dz_L_law_301 rfl ?_
  refine gq_iload_n dz_L_law_302 rfl ?_
  refine gq_iconst (v := 2) dz_L_law_303 rfl ?_
  refine gq_iadd dz_L_law_304 ?_
  refine gq_sld (i + 2) (nI_add i 2) (by omega) (by omega) dz_L_law_305 ?_
  refine gq_cV (sp_S_one hS hW _ _) zw_S_one zl_L_35 dz_L_law_306 rfl rfl rfl (by decide) rfl rfl (Nat.le_of_ble_eq_true rfl) ?_
  have hS1 := hS
  have hM1 := hM
  refine gq_aload_n dz_L_law_309 rfl ?_
  refine gq_aload_n dz_L_law_310 rfl ?_
  refine gq_iload_n dz_L_law_311 rfl ?_
  refine gq_iconst (v := 1) dz_L_law_312 rfl ?_
  refine gq_iadd dz_L_law_313 ?_
  refine gq_sld (i + 1) (nI_add i 1) (by omega) (by omega) dz_L_law_314 ?_
  refine gq_aload_n dz_L_law_315 rfl ?_
  refine gq_iload_n dz_L_law_316 rfl ?_
  refine gq_iconst (v := 2) dz_L_law_317 rfl ?_
  refine gq_iadd dz_L_law_318 ?_
  refine gq_sld (i + 2) (nI_add i 2) (by omega) (by omega) dz_L_law_319 ?_
  refine gq_cV (sp_M_one hM1.1 hW.1 _ _) zw_M_one zl_L_39 dz_L_law_320 rfl rfl rfl (by decide) rfl rfl (Nat.le_of_ble_eq_true rfl) ?_
  refine gq_icmp_eq (tgt := 1326) dz_L_law_323 rfl (fun _ => ?_) (fun hne => ?_)
  · exact kk _ _ ⟨hS1, hM1, hW⟩
  · exact absurd rfl hne
set_option maxHeartbeats 4000000 in
theorem sl_6 {ν : zq_E} (hL : ν.2.2.2.2.2 ≤ 320) {i : Nat} (hi : i + 5 ≤ ν.2.2.2.2.2) {σ : zq_T} {X : za_X} (hA : zl_at σ X) (kk : ∀ τ Y, zl_at τ Y → zq_G ν zm_L_law 15 zl_Q 1326 (zl_ls i) [] τ) : zq_G ν zm_L_law 15 zl_Q 328 (zl_ls i) [] σ := by
  obtain ⟨hS, hM, hW⟩ := hA
  have hn6 : za_n X.1 ≤ 6 := hM.1.1.1
  refine gq_aload_n dz_L_law_328 rfl ?_
  refine gq_aload_n dz_L_law_329 rfl ?_
  refine gq_iload_n dz_L_law_330 rfl ?_
  refine gq_iconst (v := 1) dz_L_law_331 rfl ?_
  refine gq_iadd dz_L_law_332 ?_
  refine gq_sld (i + 1) (nI_add i 1) (by omega) (by omega) dz_L_law_333 ?_
  refine gq_cV (sp_S_odd hS hW _) zw_S_odd zl_L_40 dz_L_law_334 rfl rfl rfl (by decide) rfl rfl (Nat.le_of_ble_eq_true rfl) ?_
  have hS1 := hS
  have hM1 := hM
  refine gq_aload_n dz_L_law_337 rfl ?_
  refine gq_aload_n dz_L_law_338 rfl ?_
  refine gq_iload_n dz_L_law_339 rfl ?_
  refine gq_iconst (v := 1) dz_L_law_340 rfl ?_
  refine gq_iadd dz_L_law_341 ?_
  refine gq_sld (i + 1) (nI_add i 1) (by omega) (by omega) dz_L_law_342 ?_
  refine gq_cV (sp_M_odd hM1.1 _) zw_M_odd zl_L_43 dz_L_law_343 rfl rfl rfl (by decide) rfl rfl (Nat.le_of_ble_eq_true rfl) ?_
  refine gq_icmp_eq (tgt := 1326) dz_L_law_346 rfl (fun _ => ?_) (fun hne => ?_)
  · exact kk _ _ ⟨hS1, hM1, hW⟩
  · exact absurd rfl hne
set_option maxHeartbeats 4000000 in
theorem sl_7 {ν : zq_E} (hL : ν.2.2.2.2.2 ≤ 320) {i : Nat} (hi : i + 5 ≤ ν.2.2.2.2.2) {σ : zq_T} {X : za_X} (hA : zl_at σ X) (kk : ∀ τ Y, zl_at τ Y → zq_G ν zm_L_law 15 zl_Q 1326 (zl_ls i) [] τ) : zq_G ν zm_L_law 15 zl_Q 351 (zl_ls i) [] σ := by
  obtain ⟨hS, hM, hW⟩ := hA
  have hn6 : za_n X.1 ≤ 6 := hM.1.1.1
  refine gq_aload_n dz_L_law_351 rfl ?_
  refine gq_aload_n dz_L_law_352 rfl ?_
  refine gq_iload_n dz_L_law_353 rfl ?_
  refine gq_iconst (v := 1) dz_L_law_354 rfl ?_
  refine gq_iadd dz_L_law_355 ?_
  refine gq_sld (i + 1) (nI_add i 1) (by omega) (by omega) dz_L_law_356 ?_
  refine gq_aload_n dz_L_law_357 rfl ?_
  refine gq_iload_n dz_L_law_358 rfl ?_
  refine gq_iconst (v := 2) dz_L_law_359 rfl ?_
  refine gq_iadd dz_L_law_360 ?_
  refine gq_sld (i + 2) (nI_add i 2) (by omega) (by omega) dz_L_law_361 ?_
  refine gq_cV (sp_S_law hS hW _ _) zw_S_law zl_L_44 dz_L_law_362 rfl rfl rfl (by decide) rfl rfl (Nat.le_of_ble_eq_true rfl) ?_
  have hS1 := hS
  have hM1 := hM
  refine gq_aload_n dz_L_law_365 rfl ?_
  refine gq_aload_n dz_L_law_366 rfl ?_
  refine gq_iload_n dz_L_law_367 rfl ?_
  refine gq_iconst (v := 1) dz_L_law_368 rfl ?_
  refine gq_iadd dz_L_law_369 ?_
  refine gq_sld (i + 1) (nI_add i 1) (by omega) (by omega) dz_L_law_370 ?_
  refine gq_aload_n dz_L_law_371 rfl ?_
  refine gq_iload_n dz_L_law_372 rfl ?_
  refine gq_iconst (v := 2) dz_L_law_373 rfl ?_
  refine gq_iadd dz_L_law_374 ?_
  refine gq_sld (i + 2) (nI_add i 2) (by omega) (by omega) dz_L_law_375 ?_
  refine gq_cV (sp_M_law hM1.1 hW.1 _ _) zw_M_law zl_L_47 dz_L_law_376 rfl rfl rfl (by decide) rfl rfl (Nat.le_of_ble_eq_true rfl) ?_
  refine gq_icmp_eq (tgt := 1326) dz_L_law_379 rfl (fun _ => ?_) (fun hne => ?_)
  · exact kk _ _ ⟨hS1, hM1, hW⟩
  · exact absurd rfl hne
set_option maxHeartbeats 4000000 in
theorem sl_8 {ν : zq_E} (hL : ν.2.2.2.2.2 ≤ 320) {i : Nat} (hi : i + 5 ≤ ν.2.2.2.2.2) {σ : zq_T} {X : za_X} (hA : zl_at σ X) (kk : ∀ τ Y, zl_at τ Y → zq_G ν zm_L_law 15 zl_Q 1326 (zl_ls i) [] τ) : zq_G ν zm_L_law 15 zl_Q 384 (zl_ls i) [] σ := by
  obtain ⟨hS, hM, hW⟩ := hA
  have hn6 : za_n X.1 ≤ 6 := hM.1.1.1
  refine gq_aload_n dz_L_law_384 rfl ?_
  refine gq_aload_n dz_L_law_385 rfl ?_
  refine gq_iload_n dz_L_law_386 rfl ?_
  refine gq_iconst (v := 1) dz_L_law_387 rfl ?_
  refine gq_iadd dz_L_law_388 ?_
  refine gq_sld (i + 1) (nI_add i 1) (by omega) (by omega) dz_L_law_389 ?_
  refine gq_cV (sp_S_owner hS hW _) zw_S_owner zl_L_48 dz_L_law_390 rfl rfl rfl (by decide) rfl rfl (Nat.le_of_ble_eq_true rfl) ?_
  have hS1 := hS
  have hM1 := hM
  refine gq_aload_n dz_L_law_393 rfl ?_
  refine gq_aload_n dz_L_law_394 rfl ?_
  refine gq_iload_n dz_L_law_395 rfl ?_
  refine gq_iconst (v := 1) dz_L_law_396 rfl ?_
  refine gq_iadd dz_L_law_397 ?_
  refine gq_sld (i + 1) (nI_add i 1) (by omega) (by omega) dz_L_law_398 ?_
  refine gq_cV (sp_M_owner hM1.1 hW.1 _) zw_M_owner zl_L_51 dz_L_law_399 rfl rfl rfl (by decide) rfl rfl (Nat.le_of_ble_eq_true rfl) ?_
  refine gq_icmp_eq (tgt := 1326) dz_L_law_402 rfl (fun _ => ?_) (fun hne => ?_)
  · exact kk _ _ ⟨hS1, hM1, hW⟩
  · exact absurd rfl hne
set_option maxHeartbeats 4000000 in
theorem sl_9 {ν : zq_E} (hL : ν.2.2.2.2.2 ≤ 320) {i : Nat} (hi : i + 5 ≤ ν.2.2.2.2.2) {σ : zq_T} {X : za_X} (hA : zl_at σ X) (kk : ∀ τ Y, zl_at τ Y → zq_G ν zm_L_law 15 zl_Q 1326 (zl_ls i) [] τ) : zq_G ν zm_L_law 15 zl_Q 407 (zl_ls i) [] σ := by
  obtain ⟨hS, hM, hW⟩ := hA
  have hn6 : za_n X.1 ≤ 6 := hM.1.1.1
  refine gq_aload_n dz_L_law_407 rfl ?_
  refine gq_aload_n dz_L_law_408 rfl ?_
  refine gq_iload_n dz_L_law_409 rfl ?_
  refine gq_iconst (v := 1) dz_L_law_410 rfl ?_
  refine gq_iadd dz_L_law_411 ?_
  refine gq_sld (i + 1) (nI_add i 1) (by omega) (by omega) dz_L_law_412 ?_
  refine gq_cV (sp_S_by hS hW _) zw_S_by zl_L_52 dz_L_law_413 rfl rfl rfl (by decide) rfl rfl (Nat.le_of_ble_eq_true rfl) ?_
  have hS1 := hS
  have hM1 := hM
  refine gq_aload_n dz_L_law_416 rfl ?_
  refine gq_aload_n dz_L_law_417 rfl ?_
  refine gq_iload_n dz_L_law_418 rfl ?_
  refine gq_iconst (v := 1) dz_L_law_419 rfl ?_
  refine gq_iadd dz_L_law_420 ?_
  refine gq_sld (i + 1) (nI_add i 1) (by omega) (by omega) dz_L_law_421 ?_
  refine gq_cV (sp_M_by hM1.1 hW.1 _) zw_M_by zl_L_55 dz_L_law_422 rfl rfl rfl (by decide) rfl rfl (Nat.le_of_ble_eq_true rfl) ?_
  refine gq_icmp_eq (tgt := 1326) dz_L_law_425 rfl (fun _ => ?_) (fun hne => ?_)
  · exact kk _ _ ⟨hS1, hM1, hW⟩
  · exact absurd rfl hne
set_option maxHeartbeats 4000000 in
theorem sl_10 {ν : zq_E} (hL : ν.2.2.2.2.2 ≤ 320) {i : Nat} (hi : i + 5 ≤ ν.2.2.2.2.2) {σ : zq_T} {X : za_X} (hA : zl_at σ X) (kk : ∀ τ Y, zl_at τ Y → zq_G ν zm_L_law 15 zl_Q 1326 (zl_ls i) [] τ) : zq_G ν zm_L_law 15 zl_Q 430 (zl_ls i) [] σ := by
  obtain ⟨hS, hM, hW⟩ := hA
  have hn6 : za_n X.1 ≤ 6 := hM.1.1.1
  refine gq_aload_n dz_L_law_430 rfl ?_
  refine gq_aload_n dz_L_law_431 rfl ?_
  refine gq_iload_n dz_L_law_432 rfl ?_
  refine gq_iconst (v := 1) dz_L_law_433 rfl ?_
  refine gq_iadd dz_L_law_434 ?_
  refine gq_sld (i + 1) (nI_add i 1) (by omega) (by omega) dz_L_law_435 ?_
  refine gq_cVP (sp_S_does hS hW _) zw_S_does zl_L_56 dz_L_law_436 rfl rfl rfl (by decide) rfl rfl (Nat.le_of_ble_eq_true rfl) (fun τS hqS => ?_)
  have hS1 := hqS.1
  have hM1 := hM.gS hW hqS.2
  refine gq_aload_n dz_L_law_439 rfl ?_
  refine gq_aload_n dz_L_law_440 rfl ?_
  refine gq_iload_n dz_L_law_441 rfl ?_
  refine gq_iconst (v := 1) dz_L_law_442 rfl ?_
  refine gq_iadd dz_L_law_443 ?_
  refine gq_sld (i + 1) (nI_add i 1) (by omega) (by omega) dz_L_law_444 ?_
  refine gq_cVP (sp_M_does hM1 hW _) zw_M_does zl_L_59 dz_L_law_445 rfl rfl rfl (by decide) rfl rfl (Nat.le_of_ble_eq_true rfl) (fun τM hqM => ?_)
  refine gq_icmp_eq (tgt := 1326) dz_L_law_448 rfl (fun _ => ?_) (fun hne => ?_)
  · exact kk _ _ ⟨hS1.gM hqM.2, hqM.1, zw_does hW hn6 _⟩
  · exact absurd rfl hne
set_option maxHeartbeats 4000000 in
theorem sl_11 {ν : zq_E} (hL : ν.2.2.2.2.2 ≤ 320) {i : Nat} (hi : i + 5 ≤ ν.2.2.2.2.2) {σ : zq_T} {X : za_X} (hA : zl_at σ X) (kk : ∀ τ Y, zl_at τ Y → zq_G ν zm_L_law 15 zl_Q 1326 (zl_ls i) [] τ) : zq_G ν zm_L_law 15 zl_Q 453 (zl_ls i) [] σ := by
  obtain ⟨hS, hM, hW⟩ := hA
  have hn6 : za_n X.1 ≤ 6 := hM.1.1.1
  refine gq_aload_n dz_L_law_453 rfl ?_
  refine gq_aload_n dz_L_law_454 rfl ?_
  refine gq_iload_n dz_L_law_455 rfl ?_
  refine gq_iconst (v := 1) dz_L_law_456 rfl ?_
  refine gq_iadd dz_L_law_457 ?_
  refine gq_sld (i + 1) (nI_add i 1) (by omega) (by omega) dz_L_law_458 ?_
  refine gq_cVP (sp_S_comes hS hW _) zw_S_comes zl_L_60 dz_L_law_459 rfl rfl rfl (by decide) rfl rfl (Nat.le_of_ble_eq_true rfl) (fun τS hqS => ?_)
  have hS1 := hqS.1
  have hM1 := hM.gS hW hqS.2
  refine gq_aload_n dz_L_law_462 rfl ?_
  refine gq_aload_n dz_L_law_463 rfl ?_
  refine gq_iload_n dz_L_law_464 rfl ?_
  refine gq_iconst (v := 1) dz_L_law_465 rfl ?_
  refine gq_iadd dz_L_law_466 ?_
  refine gq_sld (i + 1) (nI_add i 1) (by omega) (by omega) dz_L_law_467 ?_
  refine gq_cVP (sp_M_comes hM1 hW _) zw_M_comes zl_L_63 dz_L_law_468 rfl rfl rfl (by decide) rfl rfl (Nat.le_of_ble_eq_true rfl) (fun τM hqM => ?_)
  refine gq_icmp_eq (tgt := 1326) dz_L_law_471 rfl (fun _ => ?_) (fun hne => ?_)
  · exact kk _ _ ⟨hS1.gM hqM.2, hqM.1, zw_comes hW hn6 _⟩
  · exact absurd rfl hne
set_option maxHeartbeats 4000000 in
theorem sl_12 {ν : zq_E} (hL : ν.2.2.2.2.2 ≤ 320) {i : Nat} (hi : i + 5 ≤ ν.2.2.2.2.2) {σ : zq_T} {X : za_X} (hA : zl_at σ X) (kk : ∀ τ Y, zl_at τ Y → zq_G ν zm_L_law 15 zl_Q 1326 (zl_ls i) [] τ) : zq_G ν zm_L_law 15 zl_Q 476 (zl_ls i) [] σ := by
  obtain ⟨hS, hM, hW⟩ := hA
  have hn6 : za_n X.1 ≤ 6 := hM.1.1.1
  refine gq_aload_n dz_L_law_476 rfl ?_
  refine gq_aload_n dz_L_law_477 rfl ?_
  refine gq_iload_n dz_L_law_478 rfl ?_
  refine gq_iconst (v := 1) dz_L_law_479 rfl ?_
  refine gq_iadd dz_L_law_480 ?_
  refine gq_sld (i + 1) (nI_add i 1) (by omega) (by omega) dz_L_law_481 ?_
  refine gq_aload_n dz_L_law_482 rfl ?_
  refine gq_iload_n dz_L_law_483 rfl ?_
  refine gq_iconst (v := 2) dz_L_law_484 rfl ?_
  refine gq_iadd dz_L_law_485 ?_
  refine gq_sld (i + 2) (nI_add i 2) (by omega) (by omega) dz_L_law_486 ?_
  refine gq_cVP (sp_S_tries hS hW _ _) zw_S_tries zl_L_64 dz_L_law_487 rfl rfl rfl (by decide) rfl rfl (Nat.le_of_ble_eq_true rfl) (fun τS hqS => ?_)
  have hS1 := hqS.1
  have hM1 := hM.gS hW hqS.2
  refine gq_aload_n dz_L_law_490 rfl ?_
  refine gq_aload_n dz_L_law_491 rfl ?_
  refine gq_iload_n dz_L_law_492 rfl ?_
  refine gq_iconst (v := 1) dz_L_law_493 rfl ?_
  refine gq_iadd dz_L_law_494 ?_
  refine gq_sld (i + 1) (nI_add i 1) (by omega) (by omega) dz_L_law_495 ?_
  refine gq_aload_n dz_L_law_496 rfl ?_
  refine gq_iload_n dz_L_law_497 rfl ?_
  refine gq_iconst (v := 2) dz_L_law_498 rfl ?_
  refine gq_iadd dz_L_law_499 ?_
  refine gq_sld (i + 2) (nI_add i 2) (by omega) (by omega) dz_L_law_500 ?_
  refine gq_cVP (sp_M_tries hM1 hW _ _) zw_M_tries zl_L_67 dz_L_law_501 rfl rfl rfl (by decide) rfl rfl (Nat.le_of_ble_eq_true rfl) (fun τM hqM => ?_)
  refine gq_icmp_eq (tgt := 1326) dz_L_law_504 rfl (fun _ => ?_) (fun hne => ?_)
  · exact kk _ _ ⟨hS1.gM hqM.2, hqM.1, zw_tries hW _ _⟩
  · exact absurd rfl hne
set_option maxHeartbeats 4000000 in
theorem sl_13 {ν : zq_E} (hL : ν.2.2.2.2.2 ≤ 320) {i : Nat} (hi : i + 5 ≤ ν.2.2.2.2.2) {σ : zq_T} {X : za_X} (hA : zl_at σ X) (kk : ∀ τ Y, zl_at τ Y → zq_G ν zm_L_law 15 zl_Q 1326 (zl_ls i) [] τ) : zq_G ν zm_L_law 15 zl_Q 509 (zl_ls i) [] σ := by
  obtain ⟨hS, hM, hW⟩ := hA
  have hn6 : za_n X.1 ≤ 6 := hM.1.1.1
  refine gq_aload_n dz_L_law_509 rfl ?_
  refine gq_aload_n dz_L_law_510 rfl ?_
  refine gq_iload_n dz_L_law_511 rfl ?_
  refine gq_iconst (v := 1) dz_L_law_512 rfl ?_
  refine gq_iadd dz_L_law_513 ?_
  refine gq_sld (i + 1) (nI_add i 1) (by omega) (by omega) dz_L_law_514 ?_
  refine gq_aload_n dz_L_law_515 rfl ?_
  refine gq_iload_n dz_L_law_516 rfl ?_
  refine gq_iconst (v := 2) dz_L_law_517 rfl ?_
  refine gq_iadd dz_L_law_518 ?_
  refine gq_sld (i + 2) (nI_add i 2) (by omega) (by omega) dz_L_law_519 ?_
  refine gq_cVP (sp_S_hush hS hW _ _) zw_S_hush zl_L_68 dz_L_law_520 rfl rfl rfl (by decide) rfl rfl (Nat.le_of_ble_eq_true rfl) (fun τS hqS => ?_)
  have hS1 := hqS.1
  have hM1 := hM.gS hW hqS.2
  refine gq_aload_n dz_L_law_523 rfl ?_
  refine gq_aload_n dz_L_law_524 rfl ?_
  refine gq_iload_n dz_L_law_525 rfl ?_
  refine gq_iconst (v := 1) dz_L_law_526 rfl ?_
  refine gq_iadd dz_L_law_527 ?_
  refine gq_sld (i + 1) (nI_add i 1) (by omega) (by omega) dz_L_law_528 ?_
  refine gq_aload_n dz_L_law_529 rfl ?_
  refine gq_iload_n dz_L_law_530 rfl ?_
  refine gq_iconst (v := 2) dz_L_law_531 rfl ?_
  refine gq_iadd dz_L_law_532 ?_
  refine gq_sld (i + 2) (nI_add i 2) (by omega) (by omega) dz_L_law_533 ?_
  refine gq_cVP (sp_M_hush hM1 hW _ _) zw_M_hush zl_L_71 dz_L_law_534 rfl rfl rfl (by decide) rfl rfl (Nat.le_of_ble_eq_true rfl) (fun τM hqM => ?_)
  refine gq_icmp_eq (tgt := 1326) dz_L_law_537 rfl (fun _ => ?_) (fun hne => ?_)
  · exact kk _ _ ⟨hS1.gM hqM.2, hqM.1, zw_hush hW hn6 _ _⟩
  · exact absurd rfl hne
set_option maxHeartbeats 4000000 in
theorem sl_14 {ν : zq_E} (hL : ν.2.2.2.2.2 ≤ 320) {i : Nat} (hi : i + 5 ≤ ν.2.2.2.2.2) {σ : zq_T} {X : za_X} (hA : zl_at σ X) (kk : ∀ τ Y, zl_at τ Y → zq_G ν zm_L_law 15 zl_Q 1326 (zl_ls i) [] τ) : zq_G ν zm_L_law 15 zl_Q 542 (zl_ls i) [] σ := by
  obtain ⟨hS, hM, hW⟩ := hA
  have hn6 : za_n X.1 ≤ 6 := hM.1.1.1
  refine gq_aload_n dz_L_law_542 rfl ?_
  refine gq_aload_n dz_L_law_543 rfl ?_
  refine gq_iload_n dz_L_law_544 rfl ?_
  refine gq_iconst (v := 1) dz_L_law_545 rfl ?_
  refine gq_iadd dz_L_law_546 ?_
  refine gq_sld (i + 1) (nI_add i 1) (by omega) (by omega) dz_L_law_547 ?_
  refine gq_aload_n dz_L_law_548 rfl ?_
  refine gq_iload_n dz_L_law_549 rfl ?_
  refine gq_iconst (v := 2) dz_L_law_550 rfl ?_
  refine gq_iadd dz_L_law_551 ?_
  refine gq_sld (i + 2) (nI_add i 2) (by omega) (by omega) dz_L_law_552 ?_
  refine gq_cVP (sp_S_weigh hS hW _ _) zw_S_weigh zl_L_72 dz_L_law_553 rfl rfl rfl (by decide) rfl rfl (Nat.le_of_ble_eq_true rfl) (fun τS hqS => ?_)
  have hS1 := hqS.1
  have hM1 := hM.gS hW hqS.2
  refine gq_aload_n dz_L_law_556 rfl ?_
  refine gq_aload_n dz_L_law_557 rfl ?_
  refine gq_iload_n dz_L_law_558 rfl ?_
  refine gq_iconst (v := 1) dz_L_law_559 rfl ?_
  refine gq_iadd dz_L_law_560 ?_
  refine gq_sld (i + 1) (nI_add i 1) (by omega) (by omega) dz_L_law_561 ?_
  refine gq_aload_n dz_L_law_562 rfl ?_
  refine gq_iload_n dz_L_law_563 rfl ?_
  refine gq_iconst (v := 2) dz_L_law_564 rfl ?_
  refine gq_iadd dz_L_law_565 ?_
  refine gq_sld (i + 2) (nI_add i 2) (by omega) (by omega) dz_L_law_566 ?_
  refine gq_cVP (sp_M_weigh hM1 hW _ _) zw_M_weigh zl_L_75 dz_L_law_567 rfl rfl rfl (by decide) rfl rfl (Nat.le_of_ble_eq_true rfl) (fun τM hqM => ?_)
  refine gq_icmp_eq (tgt := 1326) dz_L_law_570 rfl (fun _ => ?_) (fun hne => ?_)
  · exact kk _ _ ⟨hS1.gM hqM.2, hqM.1, zw_weigh hW _ _⟩
  · exact absurd rfl hne
set_option maxHeartbeats 4000000 in
theorem sl_15 {ν : zq_E} (hL : ν.2.2.2.2.2 ≤ 320) {i : Nat} (hi : i + 5 ≤ ν.2.2.2.2.2) {σ : zq_T} {X : za_X} (hA : zl_at σ X) (kk : ∀ τ Y, zl_at τ Y → zq_G ν zm_L_law 15 zl_Q 1326 (zl_ls i) [] τ) : zq_G ν zm_L_law 15 zl_Q 575 (zl_ls i) [] σ := by
  obtain ⟨hS, hM, hW⟩ := hA
  have hn6 : za_n X.1 ≤ 6 := hM.1.1.1
  refine gq_aload_n dz_L_law_575 rfl ?_
  refine gq_aload_n dz_L_law_576 rfl ?_
  refine gq_iload_n dz_L_law_577 rfl ?_
  refine gq_iconst (v := 1) dz_L_law_578 rfl ?_
  refine gq_iadd dz_L_law_579 ?_
  refine gq_sld (i + 1) (nI_add i 1) (by omega) (by omega) dz_L_law_580 ?_
  refine gq_aload_n dz_L_law_581 rfl ?_
  refine gq_iload_n dz_L_law_582 rfl ?_
  refine gq_iconst (v := 2) dz_L_law_583 rfl ?_
  refine gq_iadd dz_L_law_584 ?_
  refine gq_sld (i + 2) (nI_add i 2) (by omega) (by omega) dz_L_law_585 ?_
  refine gq_cVP (sp_S_rank hS hW _ _) zw_S_rank zl_L_76 dz_L_law_586 rfl rfl rfl (by decide) rfl rfl (Nat.le_of_ble_eq_true rfl) (fun τS hqS => ?_)
  have hS1 := hqS.1
  have hM1 := hM.gS hW hqS.2
  refine gq_aload_n dz_L_law_589 rfl ?_
  refine gq_aload_n dz_L_law_590 rfl ?_
  refine gq_iload_n dz_L_law_591 rfl ?_
  refine gq_iconst (v := 1) dz_L_law_592 rfl ?_
  refine gq_iadd dz_L_law_593 ?_
  refine gq_sld (i + 1) (nI_add i 1) (by omega) (by omega) dz_L_law_594 ?_
  refine gq_aload_n dz_L_law_595 rfl ?_
  refine gq_iload_n dz_L_law_596 rfl ?_
  refine gq_iconst (v := 2) dz_L_law_597 rfl ?_
  refine gq_iadd dz_L_law_598 ?_
  refine gq_sld (i + 2) (nI_add i 2) (by omega) (by omega) dz_L_law_599 ?_
  refine gq_cVP (sp_M_rank hM1 hW _ _) zw_M_rank zl_L_79 dz_L_law_600 rfl rfl rfl (by decide) rfl rfl (Nat.le_of_ble_eq_true rfl) (fun τM hqM => ?_)
  refine gq_icmp_eq (tgt := 1326) dz_L_law_603 rfl (fun _ => ?_) (fun hne => ?_)
  · exact kk _ _ ⟨hS1.gM hqM.2, hqM.1, zw_rank hW _ _⟩
  · exact absurd rfl hne
set_option maxHeartbeats 4000000 in
theorem sl_16 {ν : zq_E} (hL : ν.2.2.2.2.2 ≤ 320) {i : Nat} (hi : i + 5 ≤ ν.2.2.2.2.2) {σ : zq_T} {X : za_X} (hA : zl_at σ X) (kk : ∀ τ Y, zl_at τ Y → zq_G ν zm_L_law 15 zl_Q 1326 (zl_ls i) [] τ) : zq_G ν zm_L_law 15 zl_Q 608 (zl_ls i) [] σ := by
  obtain ⟨hS, hM, hW⟩ := hA
  have hn6 : za_n X.1 ≤ 6 := hM.1.1.1
  refine gq_aload_n dz_L_law_608 rfl ?_
  refine gq_aload_n dz_L_law_609 rfl ?_
  refine gq_iload_n dz_L_law_610 rfl ?_
  refine gq_iconst (v := 1) dz_L_law_611 rfl ?_
  refine gq_iadd dz_L_law_612 ?_
  refine gq_sld (i + 1) (nI_add i 1) (by omega) (by omega) dz_L_law_613 ?_
  refine gq_aload_n dz_L_law_614 rfl ?_
  refine gq_iload_n dz_L_law_615 rfl ?_
  refine gq_iconst (v := 2) dz_L_law_616 rfl ?_
  refine gq_iadd dz_L_law_617 ?_
  refine gq_sld (i + 2) (nI_add i 2) (by omega) (by omega) dz_L_law_618 ?_
  refine gq_cVP (sp_S_pick hS hW _ _) zw_S_pick zl_L_80 dz_L_law_619 rfl rfl rfl (by decide) rfl rfl (Nat.le_of_ble_eq_true rfl) (fun τS hqS => ?_)
  have hS1 := hqS.1
  have hM1 := hM.gS hW hqS.2
  refine gq_aload_n dz_L_law_622 rfl ?_
  refine gq_aload_n dz_L_law_623 rfl ?_
  refine gq_iload_n dz_L_law_624 rfl ?_
  refine gq_iconst (v := 1) dz_L_law_625 rfl ?_
  refine gq_iadd dz_L_law_626 ?_
  refine gq_sld (i + 1) (nI_add i 1) (by omega) (by omega) dz_L_law_627 ?_
  refine gq_aload_n dz_L_law_628 rfl ?_
  refine gq_iload_n dz_L_law_629 rfl ?_
  refine gq_iconst (v := 2) dz_L_law_630 rfl ?_
  refine gq_iadd dz_L_law_631 ?_
  refine gq_sld (i + 2) (nI_add i 2) (by omega) (by omega) dz_L_law_632 ?_
  refine gq_cVP (sp_M_pick hM1 hW _ _) zw_M_pick zl_L_83 dz_L_law_633 rfl rfl rfl (by decide) rfl rfl (Nat.le_of_ble_eq_true rfl) (fun τM hqM => ?_)
  refine gq_icmp_eq (tgt := 1326) dz_L_law_636 rfl (fun _ => ?_) (fun hne => ?_)
  · exact kk _ _ ⟨hS1.gM hqM.2, hqM.1, zw_pick hW _ _⟩
  · exact absurd rfl hne
set_option maxHeartbeats 4000000 in
theorem sl_17 {ν : zq_E} (hL : ν.2.2.2.2.2 ≤ 320) {i : Nat} (hi : i + 5 ≤ ν.2.2.2.2.2) {σ : zq_T} {X : za_X} (hA : zl_at σ X) (kk : ∀ τ Y, zl_at τ Y → zq_G ν zm_L_law 15 zl_Q 1326 (zl_ls i) [] τ) : zq_G ν zm_L_law 15 zl_Q 641 (zl_ls i) [] σ := by
  obtain ⟨hS, hM, hW⟩ := hA
  have hn6 : za_n X.1 ≤ 6 := hM.1.1.1
  refine gq_aload_n dz_L_law_641 rfl ?_
  refine gq_aload_n dz_L_law_642 rfl ?_
  refine gq_iload_n dz_L_law_643 rfl ?_
  refine gq_iconst (v := 1) dz_L_law_644 rfl ?_
  refine gq_iadd dz_L_law_645 ?_
  refine gq_sld (i + 1) (nI_add i 1) (by omega) (by omega) dz_L_law_646 ?_
  refine gq_aload_n dz_L_law_647 rfl ?_
  refine gq_iload_n dz_L_law_648 rfl ?_
  refine gq_iconst (v := 2) dz_L_law_649 rfl ?_
  refine gq_iadd dz_L_law_650 ?_
  refine gq_sld (i + 2) (nI_add i 2) (by omega) (by omega) dz_L_law_651 ?_
  refine gq_aload_n dz_L_law_652 rfl ?_
  refine gq_iload_n dz_L_law_653 rfl ?_
  refine gq_iconst (v := 3) dz_L_law_654 rfl ?_
  refine gq_iadd dz_L_law_655 ?_
  refine gq_sld (i + 3) (nI_add i 3) (by omega) (by omega) dz_L_law_656 ?_
  refine gq_aload_n dz_L_law_657 rfl ?_
  refine gq_iload_n dz_L_law_658 rfl ?_
  refine gq_iconst (v := 4) dz_L_law_659 rfl ?_
  refine gq_iadd dz_L_law_660 ?_
  refine gq_sld (i + 4) (nI_add i 4) (by omega) (by omega) dz_L_law_661 ?_
  refine gq_cVP (sp_S_claim hS hW _ _ _ _) zw_S_claim zl_L_84 dz_L_law_662 rfl rfl rfl (by decide) rfl rfl (Nat.le_of_ble_eq_true rfl) (fun τS hqS => ?_)
  have hS1 := hqS.1
  have hM1 := hM.gS hW hqS.2
  refine gq_aload_n dz_L_law_665 rfl ?_
  refine gq_aload_n dz_L_law_666 rfl ?_
  refine gq_iload_n dz_L_law_667 rfl ?_
  refine gq_iconst (v := 1) dz_L_law_668 rfl ?_
  refine gq_iadd dz_L_law_669 ?_
  refine gq_sld (i + 1) (nI_add i 1) (by omega) (by omega) dz_L_law_670 ?_
  refine gq_aload_n dz_L_law_671 rfl ?_
  refine gq_iload_n dz_L_law_672 rfl ?_
  refine gq_iconst (v := 2) dz_L_law_673 rfl ?_
  refine gq_iadd dz_L_law_674 ?_
  refine gq_sld (i + 2) (nI_add i 2) (by omega) (by omega) dz_L_law_675 ?_
  refine gq_aload_n dz_L_law_676 rfl ?_
  refine gq_iload_n dz_L_law_677 rfl ?_
  refine gq_iconst (v := 3) dz_L_law_678 rfl ?_
  refine gq_iadd dz_L_law_679 ?_
  refine gq_sld (i + 3) (nI_add i 3) (by omega) (by omega) dz_L_law_680 ?_
  refine gq_aload_n dz_L_law_681 rfl ?_
  refine gq_iload_n dz_L_law_682 rfl ?_
  refine gq_iconst (v := 4) dz_L_law_683 rfl ?_
  refine gq_iadd dz_L_law_684 ?_
  refine gq_sld (i + 4) (nI_add i 4) (by omega) (by omega) dz_L_law_685 ?_
  refine gq_cVP (sp_M_claim hM1 hW _ _ _ _) zw_M_claim zl_L_88 dz_L_law_686 rfl rfl rfl (by decide) rfl rfl (Nat.le_of_ble_eq_true rfl) (fun τM hqM => ?_)
  refine gq_icmp_eq (tgt := 1326) dz_L_law_689 rfl (fun _ => ?_) (fun hne => ?_)
  · exact kk _ _ ⟨hS1.gM hqM.2, hqM.1, hW⟩
  · exact absurd rfl hne
set_option maxHeartbeats 4000000 in
theorem sl_18 {ν : zq_E} (hL : ν.2.2.2.2.2 ≤ 320) {i : Nat} (hi : i + 5 ≤ ν.2.2.2.2.2) {σ : zq_T} {X : za_X} (hA : zl_at σ X) (kk : ∀ τ Y, zl_at τ Y → zq_G ν zm_L_law 15 zl_Q 1326 (zl_ls i) [] τ) : zq_G ν zm_L_law 15 zl_Q 694 (zl_ls i) [] σ := by
  obtain ⟨hS, hM, hW⟩ := hA
  have hn6 : za_n X.1 ≤ 6 := hM.1.1.1
  refine gq_aload_n dz_L_law_694 rfl ?_
  refine gq_aload_n dz_L_law_695 rfl ?_
  refine gq_iload_n dz_L_law_696 rfl ?_
  refine gq_iconst (v := 1) dz_L_law_697 rfl ?_
  refine gq_iadd dz_L_law_698 ?_
  refine gq_sld (i + 1) (nI_add i 1) (by omega) (by omega) dz_L_law_699 ?_
  refine gq_cV (sp_S_pivot hS hW _) zw_S_pivot zl_L_89 dz_L_law_700 rfl rfl rfl (by decide) rfl rfl (Nat.le_of_ble_eq_true rfl) ?_
  have hS1 := hS
  have hM1 := hM
  refine gq_aload_n dz_L_law_703 rfl ?_
  refine gq_aload_n dz_L_law_704 rfl ?_
  refine gq_iload_n dz_L_law_705 rfl ?_
  refine gq_iconst (v := 1) dz_L_law_706 rfl ?_
  refine gq_iadd dz_L_law_707 ?_
  refine gq_sld (i + 1) (nI_add i 1) (by omega) (by omega) dz_L_law_708 ?_
  refine gq_cV (sp_M_pivot hM1.1 hW.1 _) zw_M_pivot zl_L_92 dz_L_law_709 rfl rfl rfl (by decide) rfl rfl (Nat.le_of_ble_eq_true rfl) ?_
  refine gq_icmp_eq (tgt := 1326) dz_L_law_712 rfl (fun _ => ?_) (fun hne => ?_)
  · exact kk _ _ ⟨hS1, hM1, hW⟩
  · exact absurd rfl hne
set_option maxHeartbeats 4000000 in
theorem sl_19 {ν : zq_E} (hL : ν.2.2.2.2.2 ≤ 320) {i : Nat} (hi : i + 5 ≤ ν.2.2.2.2.2) {σ : zq_T} {X : za_X} (hA : zl_at σ X) (kk : ∀ τ Y, zl_at τ Y → zq_G ν zm_L_law 15 zl_Q 1326 (zl_ls i) [] τ) : zq_G ν zm_L_law 15 zl_Q 717 (zl_ls i) [] σ := by
  obtain ⟨hS, hM, hW⟩ := hA
  have hn6 : za_n X.1 ≤ 6 := hM.1.1.1
  refine gq_aload_n dz_L_law_717 rfl ?_
  refine gq_aload_n dz_L_law_718 rfl ?_
  refine gq_iload_n dz_L_law_719 rfl ?_
  refine gq_iconst (v := 1) dz_L_law_720 rfl ?_
  refine gq_iadd dz_L_law_721 ?_
  refine gq_sld (i + 1) (nI_add i 1) (by omega) (by omega) dz_L_law_722 ?_
  refine gq_cVP (sp_S_spoils hS hW _) zw_S_spoils zl_L_93 dz_L_law_723 rfl rfl rfl (by decide) rfl rfl (Nat.le_of_ble_eq_true rfl) (fun τS hqS => ?_)
  have hS1 := hqS.1
  have hM1 := hM.gS hW hqS.2
  refine gq_aload_n dz_L_law_726 rfl ?_
  refine gq_aload_n dz_L_law_727 rfl ?_
  refine gq_iload_n dz_L_law_728 rfl ?_
  refine gq_iconst (v := 1) dz_L_law_729 rfl ?_
  refine gq_iadd dz_L_law_730 ?_
  refine gq_sld (i + 1) (nI_add i 1) (by omega) (by omega) dz_L_law_731 ?_
  refine gq_cVP (sp_M_spoils hM1 hW _) zw_M_spoils zl_L_96 dz_L_law_732 rfl rfl rfl (by decide) rfl rfl (Nat.le_of_ble_eq_true rfl) (fun τM hqM => ?_)
  refine gq_icmp_eq (tgt := 1326) dz_L_law_735 rfl (fun _ => ?_) (fun hne => ?_)
  · exact kk _ _ ⟨hS1.gM hqM.2, hqM.1, hW⟩
  · exact absurd rfl hne
set_option maxHeartbeats 4000000 in
theorem sl_20 {ν : zq_E} (hL : ν.2.2.2.2.2 ≤ 320) {i : Nat} (hi : i + 5 ≤ ν.2.2.2.2.2) {σ : zq_T} {X : za_X} (hA : zl_at σ X) (kk : ∀ τ Y, zl_at τ Y → zq_G ν zm_L_law 15 zl_Q 1326 (zl_ls i) [] τ) : zq_G ν zm_L_law 15 zl_Q 740 (zl_ls i) [] σ := by
  obtain ⟨hS, hM, hW⟩ := hA
  have hn6 : za_n X.1 ≤ 6 := hM.1.1.1
  refine gq_aload_n dz_L_law_740 rfl ?_
  refine gq_aload_n dz_L_law_741 rfl ?_
  refine gq_iload_n dz_L_law_742 rfl ?_
  refine gq_iconst (v := 1) dz_L_law_743 rfl ?_
  refine gq_iadd dz_L_law_744 ?_
  refine gq_sld (i + 1) (nI_add i 1) (by omega) (by omega) dz_L_law_745 ?_
  refine gq_cV (sp_S_dead hS hW _) zw_S_dead zl_L_97 dz_L_law_746 rfl rfl rfl (by decide) rfl rfl (Nat.le_of_ble_eq_true rfl) ?_
  have hS1 := hS
  have hM1 := hM
  refine gq_aload_n dz_L_law_749 rfl ?_
  refine gq_aload_n dz_L_law_750 rfl ?_
  refine gq_iload_n dz_L_law_751 rfl ?_
  refine gq_iconst (v := 1) dz_L_law_752 rfl ?_
  refine gq_iadd dz_L_law_753 ?_
  refine gq_sld (i + 1) (nI_add i 1) (by omega) (by omega) dz_L_law_754 ?_
  refine gq_cV (sp_M_dead hM1.1 hW.1 _) zw_M_dead zl_L_100 dz_L_law_755 rfl rfl rfl (by decide) rfl rfl (Nat.le_of_ble_eq_true rfl) ?_
  refine gq_icmp_eq (tgt := 1326) dz_L_law_758 rfl (fun _ => ?_) (fun hne => ?_)
  · exact kk _ _ ⟨hS1, hM1, hW⟩
  · exact absurd rfl hne
set_option maxHeartbeats 4000000 in
theorem sl_21 {ν : zq_E} (hL : ν.2.2.2.2.2 ≤ 320) {i : Nat} (hi : i + 5 ≤ ν.2.2.2.2.2) {σ : zq_T} {X : za_X} (hA : zl_at σ X) (kk : ∀ τ Y, zl_at τ Y → zq_G ν zm_L_law 15 zl_Q 1326 (zl_ls i) [] τ) : zq_G ν zm_L_law 15 zl_Q 763 (zl_ls i) [] σ := by
  obtain ⟨hS, hM, hW⟩ := hA
  have hn6 : za_n X.1 ≤ 6 := hM.1.1.1
  refine gq_aload_n dz_L_law_763 rfl ?_
  refine gq_aload_n dz_L_law_764 rfl ?_
  refine gq_iload_n dz_L_law_765 rfl ?_
  refine gq_iconst (v := 1) dz_L_law_766 rfl ?_
  refine gq_iadd dz_L_law_767 ?_
  refine gq_sld (i + 1) (nI_add i 1) (by omega) (by omega) dz_L_law_768 ?_
  refine gq_cV (sp_S_least hS hW _) zw_S_least zl_L_101 dz_L_law_769 rfl rfl rfl (by decide) rfl rfl (Nat.le_of_ble_eq_true rfl) ?_
  have hS1 := hS
  have hM1 := hM
  refine gq_aload_n dz_L_law_772 rfl ?_
  refine gq_aload_n dz_L_law_773 rfl ?_
  refine gq_iload_n dz_L_law_774 rfl ?_
  refine gq_iconst (v := 1) dz_L_law_775 rfl ?_
  refine gq_iadd dz_L_law_776 ?_
  refine gq_sld (i + 1) (nI_add i 1) (by omega) (by omega) dz_L_law_777 ?_
  refine gq_cV (sp_M_least hM1.1 hW.1 _) zw_M_least zl_L_104 dz_L_law_778 rfl rfl rfl (by decide) rfl rfl (Nat.le_of_ble_eq_true rfl) ?_
  refine gq_icmp_eq (tgt := 1326) dz_L_law_781 rfl (fun _ => ?_) (fun hne => ?_)
  · exact kk _ _ ⟨hS1, hM1, hW⟩
  · exact absurd rfl hne
set_option maxHeartbeats 4000000 in
theorem sl_22 {ν : zq_E} (hL : ν.2.2.2.2.2 ≤ 320) {i : Nat} (hi : i + 5 ≤ ν.2.2.2.2.2) {σ : zq_T} {X : za_X} (hA : zl_at σ X) (kk : ∀ τ Y, zl_at τ Y → zq_G ν zm_L_law 15 zl_Q 1326 (zl_ls i) [] τ) : zq_G ν zm_L_law 15 zl_Q 786 (zl_ls i) [] σ := by
  obtain ⟨hS, hM, hW⟩ := hA
  have hn6 : za_n X.1 ≤ 6 := hM.1.1.1
  refine gq_aload_n dz_L_law_786 rfl ?_
  refine gq_aload_n dz_L_law_787 rfl ?_
  refine gq_iload_n dz_L_law_788 rfl ?_
  refine gq_iconst (v := 1) dz_L_law_789 rfl ?_
  refine gq_iadd dz_L_law_790 ?_
  refine gq_sld (i + 1) (nI_add i 1) (by omega) (by omega) dz_L_law_791 ?_
  refine gq_cV (sp_S_who hS hW _) zw_S_who zl_L_105 dz_L_law_792 rfl rfl rfl (by decide) rfl rfl (Nat.le_of_ble_eq_true rfl) ?_
  have hS1 := hS
  have hM1 := hM
  refine gq_aload_n dz_L_law_795 rfl ?_
  refine gq_aload_n dz_L_law_796 rfl ?_
  refine gq_iload_n dz_L_law_797 rfl ?_
  refine gq_iconst (v := 1) dz_L_law_798 rfl ?_
  refine gq_iadd dz_L_law_799 ?_
  refine gq_sld (i + 1) (nI_add i 1) (by omega) (by omega) dz_L_law_800 ?_
  refine gq_cV (sp_M_who hM1.1 hW.1 _) zw_M_who zl_L_108 dz_L_law_801 rfl rfl rfl (by decide) rfl rfl (Nat.le_of_ble_eq_true rfl) ?_
  refine gq_icmp_eq (tgt := 1326) dz_L_law_804 rfl (fun _ => ?_) (fun hne => ?_)
  · exact kk _ _ ⟨hS1, hM1, hW⟩
  · exact absurd rfl hne
set_option maxHeartbeats 4000000 in
theorem sl_23 {ν : zq_E} (hL : ν.2.2.2.2.2 ≤ 320) {i : Nat} (hi : i + 5 ≤ ν.2.2.2.2.2) {σ : zq_T} {X : za_X} (hA : zl_at σ X) (kk : ∀ τ Y, zl_at τ Y → zq_G ν zm_L_law 15 zl_Q 1326 (zl_ls i) [] τ) : zq_G ν zm_L_law 15 zl_Q 809 (zl_ls i) [] σ := by
  obtain ⟨hS, hM, hW⟩ := hA
  have hn6 : za_n X.1 ≤ 6 := hM.1.1.1
  refine gq_aload_n dz_L_law_809 rfl ?_
  refine gq_aload_n dz_L_law_810 rfl ?_
  refine gq_iload_n dz_L_law_811 rfl ?_
  refine gq_iconst (v := 1) dz_L_law_812 rfl ?_
  refine gq_iadd dz_L_law_813 ?_
  refine gq_sld (i + 1) (nI_add i 1) (by omega) (by omega) dz_L_law_814 ?_
  refine gq_aload_n dz_L_law_815 rfl ?_
  refine gq_iload_n dz_L_law_816 rfl ?_
  refine gq_iconst (v := 2) dz_L_law_817 rfl ?_
  refine gq_iadd dz_L_law_818 ?_
  refine gq_sld (i + 2) (nI_add i 2) (by omega) (by omega) dz_L_law_819 ?_
  refine gq_cV (sp_S_via hS hW _ _) zw_S_via zl_L_109 dz_L_law_820 rfl rfl rfl (by decide) rfl rfl (Nat.le_of_ble_eq_true rfl) ?_
  have hS1 := hS
  have hM1 := hM
  refine gq_aload_n dz_L_law_823 rfl ?_
  refine gq_aload_n dz_L_law_824 rfl ?_
  refine gq_iload_n dz_L_law_825 rfl ?_
  refine gq_iconst (v := 1) dz_L_law_826 rfl ?_
  refine gq_iadd dz_L_law_827 ?_
  refine gq_sld (i + 1) (nI_add i 1) (by omega) (by omega) dz_L_law_828 ?_
  refine gq_aload_n dz_L_law_829 rfl ?_
  refine gq_iload_n dz_L_law_830 rfl ?_
  refine gq_iconst (v := 2) dz_L_law_831 rfl ?_
  refine gq_iadd dz_L_law_832 ?_
  refine gq_sld (i + 2) (nI_add i 2) (by omega) (by omega) dz_L_law_833 ?_
  refine gq_cV (sp_M_via hM1.1 hW.1 _ _) zw_M_via zl_L_112 dz_L_law_834 rfl rfl rfl (by decide) rfl rfl (Nat.le_of_ble_eq_true rfl) ?_
  refine gq_icmp_eq (tgt := 1326) dz_L_law_837 rfl (fun _ => ?_) (fun hne => ?_)
  · exact kk _ _ ⟨hS1, hM1, hW⟩
  · exact absurd rfl hne
set_option maxHeartbeats 4000000 in
theorem sl_24 {ν : zq_E} (hL : ν.2.2.2.2.2 ≤ 320) {i : Nat} (hi : i + 5 ≤ ν.2.2.2.2.2) {σ : zq_T} {X : za_X} (hA : zl_at σ X) (kk : ∀ τ Y, zl_at τ Y → zq_G ν zm_L_law 15 zl_Q 1326 (zl_ls i) [] τ) : zq_G ν zm_L_law 15 zl_Q 842 (zl_ls i) [] σ := by
  obtain ⟨hS, hM, hW⟩ := hA
  have hn6 : za_n X.1 ≤ 6 := hM.1.1.1
  refine gq_aload_n dz_L_law_842 rfl ?_
  refine gq_aload_n dz_L_law_843 rfl ?_
  refine gq_iload_n dz_L_law_844 rfl ?_
  refine gq_iconst (v := 1) dz_L_law_845 rfl ?_
  refine gq_iadd dz_L_law_846 ?_
  refine gq_sld (i + 1) (nI_add i 1) (by omega) (by omega) dz_L_law_847 ?_
  refine gq_aload_n dz_L_law_848 rfl ?_
  refine gq_iload_n dz_L_law_849 rfl ?_
  refine gq_iconst (v := 2) dz_L_law_850 rfl ?_
  refine gq_iadd dz_L_law_851 ?_
  refine gq_sld (i + 2) (nI_add i 2) (by omega) (by omega) dz_L_law_852 ?_
  refine gq_aload_n dz_L_law_853 rfl ?_
  refine gq_iload_n dz_L_law_854 rfl ?_
  refine gq_iconst (v := 3) dz_L_law_855 rfl ?_
  refine gq_iadd dz_L_law_856 ?_
  refine gq_sld (i + 3) (nI_add i 3) (by omega) (by omega) dz_L_law_857 ?_
  refine gq_aload_n dz_L_law_858 rfl ?_
  refine gq_iload_n dz_L_law_859 rfl ?_
  refine gq_iconst (v := 4) dz_L_law_860 rfl ?_
  refine gq_iadd dz_L_law_861 ?_
  refine gq_sld (i + 4) (nI_add i 4) (by omega) (by omega) dz_L_law_862 ?_
  refine gq_cV (sp_S_odds hS hW _ _ _ _) zw_S_odds zl_L_113 dz_L_law_863 rfl rfl rfl (by decide) rfl rfl (Nat.le_of_ble_eq_true rfl) ?_
  have hS1 := hS
  have hM1 := hM
  refine gq_aload_n dz_L_law_866 rfl ?_
  refine gq_aload_n dz_L_law_867 rfl ?_
  refine gq_iload_n dz_L_law_868 rfl ?_
  refine gq_iconst (v := 1) dz_L_law_869 rfl ?_
  refine gq_iadd dz_L_law_870 ?_
  refine gq_sld (i + 1) (nI_add i 1) (by omega) (by omega) dz_L_law_871 ?_
  refine gq_aload_n dz_L_law_872 rfl ?_
  refine gq_iload_n dz_L_law_873 rfl ?_
  refine gq_iconst (v := 2) dz_L_law_874 rfl ?_
  refine gq_iadd dz_L_law_875 ?_
  refine gq_sld (i + 2) (nI_add i 2) (by omega) (by omega) dz_L_law_876 ?_
  refine gq_aload_n dz_L_law_877 rfl ?_
  refine gq_iload_n dz_L_law_878 rfl ?_
  refine gq_iconst (v := 3) dz_L_law_879 rfl ?_
  refine gq_iadd dz_L_law_880 ?_
  refine gq_sld (i + 3) (nI_add i 3) (by omega) (by omega) dz_L_law_881 ?_
  refine gq_aload_n dz_L_law_882 rfl ?_
  refine gq_iload_n dz_L_law_883 rfl ?_
  refine gq_iconst (v := 4) dz_L_law_884 rfl ?_
  refine gq_iadd dz_L_law_885 ?_
  refine gq_sld (i + 4) (nI_add i 4) (by omega) (by omega) dz_L_law_886 ?_
  refine gq_cV (sp_M_odds hM1.1 hW.1 _ _ _ _) zw_M_odds zl_L_117 dz_L_law_887 rfl rfl rfl (by decide) rfl rfl (Nat.le_of_ble_eq_true rfl) ?_
  refine gq_lcmp dz_L_law_890 ?_
  refine gq_if_eq (tgt := 1326) dz_L_law_891 rfl (fun _ => ?_) (fun hne => ?_)
  · exact kk _ _ ⟨hS1, hM1, hW⟩
  · exact absurd ((lg_cmp_eq _ _).mpr rfl) hne
set_option maxHeartbeats 4000000 in
theorem sl_25 {ν : zq_E} (hL : ν.2.2.2.2.2 ≤ 320) {i : Nat} (hi : i + 5 ≤ ν.2.2.2.2.2) {σ : zq_T} {X : za_X} (hA : zl_at σ X) (kk : ∀ τ Y, zl_at τ Y → zq_G ν zm_L_law 15 zl_Q 1326 (zl_ls i) [] τ) : zq_G ν zm_L_law 15 zl_Q 896 (zl_ls i) [] σ := by
  obtain ⟨hS, hM, hW⟩ := hA
  have hn6 : za_n X.1 ≤ 6 := hM.1.1.1
  refine gq_aload_n dz_L_law_896 rfl ?_
  refine gq_aload_n dz_L_law_897 rfl ?_
  refine gq_iload_n dz_L_law_898 rfl ?_
  refine gq_iconst (v := 1) dz_L_law_899 rfl ?_
  refine gq_iadd dz_L_law_900 ?_
  refine gq_sld (i + 1) (nI_add i 1) (by omega) (by omega) dz_L_law_901 ?_
  refine gq_aload_n dz_L_law_902 rfl ?_
  refine gq_iload_n dz_L_law_903 rfl ?_
  refine gq_iconst (v := 2) dz_L_law_904 rfl ?_
  refine gq_iadd dz_L_law_905 ?_
  refine gq_sld (i + 2) (nI_add i 2) (by omega) (by omega) dz_L_law_906 ?_
  refine gq_cVP (sp_S_turn hS hW _ _) zw_S_turn zl_L_118 dz_L_law_907 rfl rfl rfl (by decide) rfl rfl (Nat.le_of_ble_eq_true rfl) (fun τS hqS => ?_)
  have hS1 := hqS.1
  have hM1 := hM.gS hW hqS.2
  refine gq_aload_n dz_L_law_910 rfl ?_
  refine gq_aload_n dz_L_law_911 rfl ?_
  refine gq_iload_n dz_L_law_912 rfl ?_
  refine gq_iconst (v := 1) dz_L_law_913 rfl ?_
  refine gq_iadd dz_L_law_914 ?_
  refine gq_sld (i + 1) (nI_add i 1) (by omega) (by omega) dz_L_law_915 ?_
  refine gq_aload_n dz_L_law_916 rfl ?_
  refine gq_iload_n dz_L_law_917 rfl ?_
  refine gq_iconst (v := 2) dz_L_law_918 rfl ?_
  refine gq_iadd dz_L_law_919 ?_
  refine gq_sld (i + 2) (nI_add i 2) (by omega) (by omega) dz_L_law_920 ?_
  refine gq_cV (sp_M_turn hM1.1 hW.1 _ _) zw_M_turn zl_L_121 dz_L_law_921 rfl rfl rfl (by decide) rfl rfl (Nat.le_of_ble_eq_true rfl) ?_
  refine gq_icmp_eq (tgt := 1326) dz_L_law_924 rfl (fun _ => ?_) (fun hne => ?_)
  · exact kk _ _ ⟨hS1, hM1, hW⟩
  · exact absurd rfl hne
set_option maxHeartbeats 4000000 in
theorem sl_26 {ν : zq_E} (hL : ν.2.2.2.2.2 ≤ 320) {i : Nat} (hi : i + 5 ≤ ν.2.2.2.2.2) {σ : zq_T} {X : za_X} (hA : zl_at σ X) (kk : ∀ τ Y, zl_at τ Y → zq_G ν zm_L_law 15 zl_Q 1326 (zl_ls i) [] τ) : zq_G ν zm_L_law 15 zl_Q 929 (zl_ls i) [] σ := by
  obtain ⟨hS, hM, hW⟩ := hA
  have hn6 : za_n X.1 ≤ 6 := hM.1.1.1
  refine gq_aload_n dz_L_law_929 rfl ?_
  refine gq_aload_n dz_L_law_930 rfl ?_
  refine gq_iload_n dz_L_law_931 rfl ?_
  refine gq_iconst (v := 1) dz_L_law_932 rfl ?_
  refine gq_iadd dz_L_law_933 ?_
  refine gq_sld (i + 1) (nI_add i 1) (by omega) (by omega) dz_L_law_934 ?_
  refine gq_aload_n dz_L_law_935 rfl ?_
  refine gq_iload_n dz_L_law_936 rfl ?_
  refine gq_iconst (v := 2) dz_L_law_937 rfl ?_
  refine gq_iadd dz_L_law_938 ?_
  refine gq_sld (i + 2) (nI_add i 2) (by omega) (by omega) dz_L_law_939 ?_
  refine gq_aload_n dz_L_law_940 rfl ?_
  refine gq_iload_n dz_L_law_941 rfl ?_
  refine gq_iconst (v := 3) dz_L_law_942 rfl ?_
  refine gq_iadd dz_L_law_943 ?_
  refine gq_sld (i + 3) (nI_add i 3) (by omega) (by omega) dz_L_law_944 ?_
  refine gq_aload_n dz_L_law_945 rfl ?_
  refine gq_iload_n dz_L_law_946 rfl ?_
  refine gq_iconst (v := 4) dz_L_law_947 rfl ?_
  refine gq_iadd dz_L_law_948 ?_
  refine gq_sld (i + 4) (nI_add i 4) (by omega) (by omega) dz_L_law_949 ?_
  refine gq_cVP (sp_S_best hS hW _ _ _ _) zw_S_best zl_L_122 dz_L_law_950 rfl rfl rfl (by decide) rfl rfl (Nat.le_of_ble_eq_true rfl) (fun τS hqS => ?_)
  have hS1 := hqS.1
  have hM1 := hM.gS hW hqS.2
  refine gq_aload_n dz_L_law_953 rfl ?_
  refine gq_aload_n dz_L_law_954 rfl ?_
  refine gq_iload_n dz_L_law_955 rfl ?_
  refine gq_iconst (v := 1) dz_L_law_956 rfl ?_
  refine gq_iadd dz_L_law_957 ?_
  refine gq_sld (i + 1) (nI_add i 1) (by omega) (by omega) dz_L_law_958 ?_
  refine gq_aload_n dz_L_law_959 rfl ?_
  refine gq_iload_n dz_L_law_960 rfl ?_
  refine gq_iconst (v := 2) dz_L_law_961 rfl ?_
  refine gq_iadd dz_L_law_962 ?_
  refine gq_sld (i + 2) (nI_add i 2) (by omega) (by omega) dz_L_law_963 ?_
  refine gq_aload_n dz_L_law_964 rfl ?_
  refine gq_iload_n dz_L_law_965 rfl ?_
  refine gq_iconst (v := 3) dz_L_law_966 rfl ?_
  refine gq_iadd dz_L_law_967 ?_
  refine gq_sld (i + 3) (nI_add i 3) (by omega) (by omega) dz_L_law_968 ?_
  refine gq_aload_n dz_L_law_969 rfl ?_
  refine gq_iload_n dz_L_law_970 rfl ?_
  refine gq_iconst (v := 4) dz_L_law_971 rfl ?_
  refine gq_iadd dz_L_law_972 ?_
  refine gq_sld (i + 4) (nI_add i 4) (by omega) (by omega) dz_L_law_973 ?_
  refine gq_cVP (sp_M_best hM1 hW _ _ _ _) zw_M_best zl_L_125 dz_L_law_974 rfl rfl rfl (by decide) rfl rfl (Nat.le_of_ble_eq_true rfl) (fun τM hqM => ?_)
  refine gq_lcmp dz_L_law_977 ?_
  refine gq_if_eq (tgt := 1326) dz_L_law_978 rfl (fun _ => ?_) (fun hne => ?_)
  · exact kk _ _ ⟨hS1.gM hqM.2, hqM.1, hW⟩
  · exact absurd ((lg_cmp_eq _ _).mpr rfl) hne
set_option maxHeartbeats 4000000 in
theorem sl_27 {ν : zq_E} (hL : ν.2.2.2.2.2 ≤ 320) {i : Nat} (hi : i + 5 ≤ ν.2.2.2.2.2) {σ : zq_T} {X : za_X} (hA : zl_at σ X) (kk : ∀ τ Y, zl_at τ Y → zq_G ν zm_L_law 15 zl_Q 1326 (zl_ls i) [] τ) : zq_G ν zm_L_law 15 zl_Q 983 (zl_ls i) [] σ := by
  obtain ⟨hS, hM, hW⟩ := hA
  have hn6 : za_n X.1 ≤ 6 := hM.1.1.1
  refine gq_aload_n dz_L_law_983 rfl ?_
  refine gq_aload_n dz_L_law_984 rfl ?_
  refine gq_iload_n dz_L_law_985 rfl ?_
  refine gq_iconst (v := 1) dz_L_law_986 rfl ?_
  refine gq_iadd dz_L_law_987 ?_
  refine gq_sld (i + 1) (nI_add i 1) (by omega) (by omega) dz_L_law_988 ?_
  refine gq_aload_n dz_L_law_989 rfl ?_
  refine gq_iload_n dz_L_law_990 rfl ?_
  refine gq_iconst (v := 2) dz_L_law_991 rfl ?_
  refine gq_iadd dz_L_law_992 ?_
  refine gq_sld (i + 2) (nI_add i 2) (by omega) (by omega) dz_L_law_993 ?_
  refine gq_cVP (sp_S_see hS hW _ _) zw_S_see zl_L_126 dz_L_law_994 rfl rfl rfl (by decide) rfl rfl (Nat.le_of_ble_eq_true rfl) (fun τS hqS => ?_)
  have hS1 := hqS.1
  have hM1 := hM.gS hW hqS.2
  refine gq_aload_n dz_L_law_997 rfl ?_
  refine gq_aload_n dz_L_law_998 rfl ?_
  refine gq_iload_n dz_L_law_999 rfl ?_
  refine gq_iconst (v := 1) dz_L_law_1000 rfl ?_
  refine gq_iadd dz_L_law_1001 ?_
  refine gq_sld (i + 1) (nI_add i 1) (by omega) (by omega) dz_L_law_1002 ?_
  refine gq_aload_n dz_L_law_1003 rfl ?_
  refine gq_iload_n dz_L_law_1004 rfl ?_
  refine gq_iconst (v := 2) dz_L_law_1005 rfl ?_
  refine gq_iadd dz_L_law_1006 ?_
  refine gq_sld (i + 2) (nI_add i 2) (by omega) (by omega) dz_L_law_1007 ?_
  refine gq_cVP (sp_M_see hM1 hW _ _) zw_M_see zl_L_129 dz_L_law_1008 rfl rfl rfl (by decide) rfl rfl (Nat.le_of_ble_eq_true rfl) (fun τM hqM => ?_)
  refine gq_icmp_eq (tgt := 1326) dz_L_law_1011 rfl (fun _ => ?_) (fun hne => ?_)
  · exact kk _ _ ⟨hS1.gM hqM.2, hqM.1, zw_see hW _ _⟩
  · exact absurd rfl hne
set_option maxHeartbeats 4000000 in
theorem sl_28 {ν : zq_E} (hL : ν.2.2.2.2.2 ≤ 320) {i : Nat} (hi : i + 5 ≤ ν.2.2.2.2.2) {σ : zq_T} {X : za_X} (hA : zl_at σ X) (kk : ∀ τ Y, zl_at τ Y → zq_G ν zm_L_law 15 zl_Q 1326 (zl_ls i) [] τ) : zq_G ν zm_L_law 15 zl_Q 1016 (zl_ls i) [] σ := by
  obtain ⟨hS, hM, hW⟩ := hA
  have hn6 : za_n X.1 ≤ 6 := hM.1.1.1
  refine gq_aload_n dz_L_law_1016 rfl ?_
  refine gq_aload_n dz_L_law_1017 rfl ?_
  refine gq_iload_n dz_L_law_1018 rfl ?_
  refine gq_iconst (v := 1) dz_L_law_1019 rfl ?_
  refine gq_iadd dz_L_law_1020 ?_
  refine gq_sld (i + 1) (nI_add i 1) (by omega) (by omega) dz_L_law_1021 ?_
  refine gq_cVP (sp_S_forget hS hW _) zw_S_forget zl_L_130 dz_L_law_1022 rfl rfl rfl (by decide) rfl rfl (Nat.le_of_ble_eq_true rfl) (fun τS hqS => ?_)
  have hS1 := hqS.1
  have hM1 := hM.gS hW hqS.2
  refine gq_aload_n dz_L_law_1025 rfl ?_
  refine gq_aload_n dz_L_law_1026 rfl ?_
  refine gq_iload_n dz_L_law_1027 rfl ?_
  refine gq_iconst (v := 1) dz_L_law_1028 rfl ?_
  refine gq_iadd dz_L_law_1029 ?_
  refine gq_sld (i + 1) (nI_add i 1) (by omega) (by omega) dz_L_law_1030 ?_
  refine gq_cVP (sp_M_forget hM1 hW _) zw_M_forget zl_L_133 dz_L_law_1031 rfl rfl rfl (by decide) rfl rfl (Nat.le_of_ble_eq_true rfl) (fun τM hqM => ?_)
  refine gq_icmp_eq (tgt := 1326) dz_L_law_1034 rfl (fun _ => ?_) (fun hne => ?_)
  · exact kk _ _ ⟨hS1.gM hqM.2, hqM.1, zw_forget hW _⟩
  · exact absurd rfl hne
set_option maxHeartbeats 4000000 in
theorem sl_29 {ν : zq_E} (hL : ν.2.2.2.2.2 ≤ 320) {i : Nat} (hi : i + 5 ≤ ν.2.2.2.2.2) {σ : zq_T} {X : za_X} (hA : zl_at σ X) (kk : ∀ τ Y, zl_at τ Y → zq_G ν zm_L_law 15 zl_Q 1326 (zl_ls i) [] τ) : zq_G ν zm_L_law 15 zl_Q 1039 (zl_ls i) [] σ := by
  obtain ⟨hS, hM, hW⟩ := hA
  have hn6 : za_n X.1 ≤ 6 := hM.1.1.1
  refine gq_aload_n dz_L_law_1039 rfl ?_
  refine gq_aload_n dz_L_law_1040 rfl ?_
  refine gq_iload_n dz_L_law_1041 rfl ?_
  refine gq_iconst (v := 1) dz_L_law_1042 rfl ?_
  refine gq_iadd dz_L_law_1043 ?_
  refine gq_sld (i + 1) (nI_add i 1) (by omega) (by omega) dz_L_law_1044 ?_
  refine gq_cV (sp_S_fits hS hW _) zw_S_fits zl_L_134 dz_L_law_1045 rfl rfl rfl (by decide) rfl rfl (Nat.le_of_ble_eq_true rfl) ?_
  have hS1 := hS
  have hM1 := hM
  refine gq_aload_n dz_L_law_1048 rfl ?_
  refine gq_aload_n dz_L_law_1049 rfl ?_
  refine gq_iload_n dz_L_law_1050 rfl ?_
  refine gq_iconst (v := 1) dz_L_law_1051 rfl ?_
  refine gq_iadd dz_L_law_1052 ?_
  refine gq_sld (i + 1) (nI_add i 1) (by omega) (by omega) dz_L_law_1053 ?_
  refine gq_cV (sp_M_fits hM1 hW _) zw_M_fits zl_L_137 dz_L_law_1054 rfl rfl rfl (by decide) rfl rfl (Nat.le_of_ble_eq_true rfl) ?_
  refine gq_icmp_eq (tgt := 1326) dz_L_law_1057 rfl (fun _ => ?_) (fun hne => ?_)
  · exact kk _ _ ⟨hS1, hM1, hW⟩
  · exact absurd rfl hne
set_option maxHeartbeats 4000000 in
theorem sl_30 {ν : zq_E} (hL : ν.2.2.2.2.2 ≤ 320) {i : Nat} (hi : i + 5 ≤ ν.2.2.2.2.2) {σ : zq_T} {X : za_X} (hA : zl_at σ X) (kk : ∀ τ Y, zl_at τ Y → zq_G ν zm_L_law 15 zl_Q 1326 (zl_ls i) [] τ) : zq_G ν zm_L_law 15 zl_Q 1062 (zl_ls i) [] σ := by
  obtain ⟨hS, hM, hW⟩ := hA
  have hn6 : za_n X.1 ≤ 6 := hM.1.1.1
  refine gq_aload_n dz_L_law_1062 rfl ?_
  refine gq_aload_n dz_L_law_1063 rfl ?_
  refine gq_iload_n dz_L_law_1064 rfl ?_
  refine gq_iconst (v := 1) dz_L_law_1065 rfl ?_
  refine gq_iadd dz_L_law_1066 ?_
  refine gq_sld (i + 1) (nI_add i 1) (by omega) (by omega) dz_L_law_1067 ?_
  refine gq_aload_n dz_L_law_1068 rfl ?_
  refine gq_iload_n dz_L_law_1069 rfl ?_
  refine gq_iconst (v := 2) dz_L_law_1070 rfl ?_
  refine gq_iadd dz_L_law_1071 ?_
  refine gq_sld (i + 2) (nI_add i 2) (by omega) (by omega) dz_L_law_1072 ?_
  refine gq_aload_n dz_L_law_1073 rfl ?_
  refine gq_iload_n dz_L_law_1074 rfl ?_
  refine gq_iconst (v := 3) dz_L_law_1075 rfl ?_
  refine gq_iadd dz_L_law_1076 ?_
  refine gq_sld (i + 3) (nI_add i 3) (by omega) (by omega) dz_L_law_1077 ?_
  refine gq_cVP (sp_S_drift hS hW _ _ _) zw_S_drift zl_L_138 dz_L_law_1078 rfl rfl rfl (by decide) rfl rfl (Nat.le_of_ble_eq_true rfl) (fun τS hqS => ?_)
  have hS1 := hqS.1
  have hM1 := hM.gS hW hqS.2
  refine gq_aload_n dz_L_law_1081 rfl ?_
  refine gq_aload_n dz_L_law_1082 rfl ?_
  refine gq_iload_n dz_L_law_1083 rfl ?_
  refine gq_iconst (v := 1) dz_L_law_1084 rfl ?_
  refine gq_iadd dz_L_law_1085 ?_
  refine gq_sld (i + 1) (nI_add i 1) (by omega) (by omega) dz_L_law_1086 ?_
  refine gq_aload_n dz_L_law_1087 rfl ?_
  refine gq_iload_n dz_L_law_1088 rfl ?_
  refine gq_iconst (v := 2) dz_L_law_1089 rfl ?_
  refine gq_iadd dz_L_law_1090 ?_
  refine gq_sld (i + 2) (nI_add i 2) (by omega) (by omega) dz_L_law_1091 ?_
  refine gq_aload_n dz_L_law_1092 rfl ?_
  refine gq_iload_n dz_L_law_1093 rfl ?_
  refine gq_iconst (v := 3) dz_L_law_1094 rfl ?_
  refine gq_iadd dz_L_law_1095 ?_
  refine gq_sld (i + 3) (nI_add i 3) (by omega) (by omega) dz_L_law_1096 ?_
  refine gq_cVP (sp_M_drift hM1 hW _ _ _) zw_M_drift zl_L_142 dz_L_law_1097 rfl rfl rfl (by decide) rfl rfl (Nat.le_of_ble_eq_true rfl) (fun τM hqM => ?_)
  refine gq_icmp_eq (tgt := 1326) dz_L_law_1100 rfl (fun _ => ?_) (fun hne => ?_)
  · exact kk _ _ ⟨hS1.gM hqM.2, hqM.1, hW⟩
  · exact absurd rfl hne
set_option maxHeartbeats 4000000 in
theorem sl_31 {ν : zq_E} (hL : ν.2.2.2.2.2 ≤ 320) {i : Nat} (hi : i + 5 ≤ ν.2.2.2.2.2) {σ : zq_T} {X : za_X} (hA : zl_at σ X) (kk : ∀ τ Y, zl_at τ Y → zq_G ν zm_L_law 15 zl_Q 1326 (zl_ls i) [] τ) : zq_G ν zm_L_law 15 zl_Q 1105 (zl_ls i) [] σ := by
  obtain ⟨hS, hM, hW⟩ := hA
  have hn6 : za_n X.1 ≤ 6 := hM.1.1.1
  refine gq_aload_n dz_L_law_1105 rfl ?_
  refine gq_aload_n dz_L_law_1106 rfl ?_
  refine gq_iload_n dz_L_law_1107 rfl ?_
  refine gq_iconst (v := 1) dz_L_law_1108 rfl ?_
  refine gq_iadd dz_L_law_1109 ?_
  refine gq_sld (i + 1) (nI_add i 1) (by omega) (by omega) dz_L_law_1110 ?_
  refine gq_cVP (sp_S_keep hS hW _) zw_S_keep zl_L_143 dz_L_law_1111 rfl rfl rfl (by decide) rfl rfl (Nat.le_of_ble_eq_true rfl) (fun τS hqS => ?_)
  have hS1 := hqS.1
  have hM1 := hM.gS hW hqS.2
  refine gq_aload_n dz_L_law_1114 rfl ?_
  refine gq_aload_n dz_L_law_1115 rfl ?_
  refine gq_iload_n dz_L_law_1116 rfl ?_
  refine gq_iconst (v := 1) dz_L_law_1117 rfl ?_
  refine gq_iadd dz_L_law_1118 ?_
  refine gq_sld (i + 1) (nI_add i 1) (by omega) (by omega) dz_L_law_1119 ?_
  refine gq_cVP (sp_M_keep hM1 hW _) zw_M_keep zl_L_146 dz_L_law_1120 rfl rfl rfl (by decide) rfl rfl (Nat.le_of_ble_eq_true rfl) (fun τM hqM => ?_)
  refine gq_icmp_eq (tgt := 1326) dz_L_law_1123 rfl (fun _ => ?_) (fun hne => ?_)
  · exact kk _ _ ⟨hS1.gM hqM.2, hqM.1, zw_keep hW _⟩
  · exact absurd rfl hne
set_option maxHeartbeats 4000000 in
theorem sl_32 {ν : zq_E} (hL : ν.2.2.2.2.2 ≤ 320) {i : Nat} (hi : i + 5 ≤ ν.2.2.2.2.2) {σ : zq_T} {X : za_X} (hA : zl_at σ X) (kk : ∀ τ Y, zl_at τ Y → zq_G ν zm_L_law 15 zl_Q 1326 (zl_ls i) [] τ) : zq_G ν zm_L_law 15 zl_Q 1128 (zl_ls i) [] σ := by
  obtain ⟨hS, hM, hW⟩ := hA
  have hn6 : za_n X.1 ≤ 6 := hM.1.1.1
  refine gq_aload_n dz_L_law_1128 rfl ?_
  refine gq_aload_n dz_L_law_1129 rfl ?_
  refine gq_iload_n dz_L_law_1130 rfl ?_
  refine gq_iconst (v := 1) dz_L_law_1131 rfl ?_
  refine gq_iadd dz_L_law_1132 ?_
  refine gq_sld (i + 1) (nI_add i 1) (by omega) (by omega) dz_L_law_1133 ?_
  refine gq_cVP (sp_S_back hS hW _) zw_S_back zl_L_147 dz_L_law_1134 rfl rfl rfl (by decide) rfl rfl (Nat.le_of_ble_eq_true rfl) (fun τS hqS => ?_)
  have hS1 := hqS.1
  have hM1 := hM.gS hW hqS.2
  refine gq_aload_n dz_L_law_1137 rfl ?_
  refine gq_aload_n dz_L_law_1138 rfl ?_
  refine gq_iload_n dz_L_law_1139 rfl ?_
  refine gq_iconst (v := 1) dz_L_law_1140 rfl ?_
  refine gq_iadd dz_L_law_1141 ?_
  refine gq_sld (i + 1) (nI_add i 1) (by omega) (by omega) dz_L_law_1142 ?_
  refine gq_cVP (sp_M_back hM1 hW _) zw_M_back zl_L_150 dz_L_law_1143 rfl rfl rfl (by decide) rfl rfl (Nat.le_of_ble_eq_true rfl) (fun τM hqM => ?_)
  refine gq_icmp_eq (tgt := 1326) dz_L_law_1146 rfl (fun _ => ?_) (fun hne => ?_)
  · exact kk _ _ ⟨hS1.gM hqM.2, hqM.1, zw_back hW _⟩
  · exact absurd rfl hne
set_option maxHeartbeats 4000000 in
theorem sl_33 {ν : zq_E} (hL : ν.2.2.2.2.2 ≤ 320) {i : Nat} (hi : i + 5 ≤ ν.2.2.2.2.2) {σ : zq_T} {X : za_X} (hA : zl_at σ X) (kk : ∀ τ Y, zl_at τ Y → zq_G ν zm_L_law 15 zl_Q 1326 (zl_ls i) [] τ) : zq_G ν zm_L_law 15 zl_Q 1151 (zl_ls i) [] σ := by
  obtain ⟨hS, hM, hW⟩ := hA
  have hn6 : za_n X.1 ≤ 6 := hM.1.1.1
  refine gq_aload_n dz_L_law_1151 rfl ?_
  refine gq_aload_n dz_L_law_1152 rfl ?_
  refine gq_iload_n dz_L_law_1153 rfl ?_
  refine gq_iconst (v := 1) dz_L_law_1154 rfl ?_
  refine gq_iadd dz_L_law_1155 ?_
  refine gq_sld (i + 1) (nI_add i 1) (by omega) (by omega) dz_L_law_1156 ?_
  refine gq_aload_n dz_L_law_1157 rfl ?_
  refine gq_iload_n dz_L_law_1158 rfl ?_
  refine gq_iconst (v := 2) dz_L_law_1159 rfl ?_
  refine gq_iadd dz_L_law_1160 ?_
  refine gq_sld (i + 2) (nI_add i 2) (by omega) (by omega) dz_L_law_1161 ?_
  refine gq_aload_n dz_L_law_1162 rfl ?_
  refine gq_iload_n dz_L_law_1163 rfl ?_
  refine gq_iconst (v := 3) dz_L_law_1164 rfl ?_
  refine gq_iadd dz_L_law_1165 ?_
  refine gq_sld (i + 3) (nI_add i 3) (by omega) (by omega) dz_L_law_1166 ?_
  refine gq_cVP (sp_S_sheet hS hW _ _ _) zw_S_sheet zl_L_151 dz_L_law_1167 rfl rfl rfl (by decide) rfl rfl (Nat.le_of_ble_eq_true rfl) (fun τS hqS => ?_)
  have hS1 := hqS.1
  have hM1 := hM.gS hW hqS.2
  refine gq_aload_n dz_L_law_1170 rfl ?_
  refine gq_aload_n dz_L_law_1171 rfl ?_
  refine gq_iload_n dz_L_law_1172 rfl ?_
  refine gq_iconst (v := 1) dz_L_law_1173 rfl ?_
  refine gq_iadd dz_L_law_1174 ?_
  refine gq_sld (i + 1) (nI_add i 1) (by omega) (by omega) dz_L_law_1175 ?_
  refine gq_aload_n dz_L_law_1176 rfl ?_
  refine gq_iload_n dz_L_law_1177 rfl ?_
  refine gq_iconst (v := 2) dz_L_law_1178 rfl ?_
  refine gq_iadd dz_L_law_1179 ?_
  refine gq_sld (i + 2) (nI_add i 2) (by omega) (by omega) dz_L_law_1180 ?_
  refine gq_aload_n dz_L_law_1181 rfl ?_
  refine gq_iload_n dz_L_law_1182 rfl ?_
  refine gq_iconst (v := 3) dz_L_law_1183 rfl ?_
  refine gq_iadd dz_L_law_1184 ?_
  refine gq_sld (i + 3) (nI_add i 3) (by omega) (by omega) dz_L_law_1185 ?_
  refine gq_cVP (sp_M_sheet hM1 hW _ _ _) zw_M_sheet zl_L_154 dz_L_law_1186 rfl rfl rfl (by decide) rfl rfl (Nat.le_of_ble_eq_true rfl) (fun τM hqM => ?_)
  refine gq_icmp_eq (tgt := 1326) dz_L_law_1189 rfl (fun _ => ?_) (fun hne => ?_)
  · exact kk _ _ ⟨hS1.gM hqM.2, hqM.1, zw_sheet hW _ _ _⟩
  · exact absurd rfl hne
set_option maxHeartbeats 4000000 in
theorem sl_34 {ν : zq_E} (hL : ν.2.2.2.2.2 ≤ 320) {i : Nat} (hi : i + 5 ≤ ν.2.2.2.2.2) {σ : zq_T} {X : za_X} (hA : zl_at σ X) (kk : ∀ τ Y, zl_at τ Y → zq_G ν zm_L_law 15 zl_Q 1326 (zl_ls i) [] τ) : zq_G ν zm_L_law 15 zl_Q 1194 (zl_ls i) [] σ := by
  obtain ⟨hS, hM, hW⟩ := hA
  have hn6 : za_n X.1 ≤ 6 := hM.1.1.1
  refine gq_aload_n dz_L_law_1194 rfl ?_
  refine gq_aload_n dz_L_law_1195 rfl ?_
  refine gq_iload_n dz_L_law_1196 rfl ?_
  refine gq_iconst (v := 1) dz_L_law_1197 rfl ?_
  refine gq_iadd dz_L_law_1198 ?_
  refine gq_sld (i + 1) (nI_add i 1) (by omega) (by omega) dz_L_law_1199 ?_
  refine gq_aload_n dz_L_law_1200 rfl ?_
  refine gq_iload_n dz_L_law_1201 rfl ?_
  refine gq_iconst (v := 2) dz_L_law_1202 rfl ?_
  refine gq_iadd dz_L_law_1203 ?_
  refine gq_sld (i + 2) (nI_add i 2) (by omega) (by omega) dz_L_law_1204 ?_
  refine gq_aload_n dz_L_law_1205 rfl ?_
  refine gq_iload_n dz_L_law_1206 rfl ?_
  refine gq_iconst (v := 3) dz_L_law_1207 rfl ?_
  refine gq_iadd dz_L_law_1208 ?_
  refine gq_sld (i + 3) (nI_add i 3) (by omega) (by omega) dz_L_law_1209 ?_
  refine gq_cVP (sp_S_lay hS hW _ _ _) zw_S_lay zl_L_155 dz_L_law_1210 rfl rfl rfl (by decide) rfl rfl (Nat.le_of_ble_eq_true rfl) (fun τS hqS => ?_)
  have hS1 := hqS.1
  have hM1 := hM.gS hW hqS.2
  refine gq_aload_n dz_L_law_1213 rfl ?_
  refine gq_aload_n dz_L_law_1214 rfl ?_
  refine gq_iload_n dz_L_law_1215 rfl ?_
  refine gq_iconst (v := 1) dz_L_law_1216 rfl ?_
  refine gq_iadd dz_L_law_1217 ?_
  refine gq_sld (i + 1) (nI_add i 1) (by omega) (by omega) dz_L_law_1218 ?_
  refine gq_aload_n dz_L_law_1219 rfl ?_
  refine gq_iload_n dz_L_law_1220 rfl ?_
  refine gq_iconst (v := 2) dz_L_law_1221 rfl ?_
  refine gq_iadd dz_L_law_1222 ?_
  refine gq_sld (i + 2) (nI_add i 2) (by omega) (by omega) dz_L_law_1223 ?_
  refine gq_aload_n dz_L_law_1224 rfl ?_
  refine gq_iload_n dz_L_law_1225 rfl ?_
  refine gq_iconst (v := 3) dz_L_law_1226 rfl ?_
  refine gq_iadd dz_L_law_1227 ?_
  refine gq_sld (i + 3) (nI_add i 3) (by omega) (by omega) dz_L_law_1228 ?_
  refine gq_cVP (sp_M_lay hM1 hW _ _ _) zw_M_lay zl_L_158 dz_L_law_1229 rfl rfl rfl (by decide) rfl rfl (Nat.le_of_ble_eq_true rfl) (fun τM hqM => ?_)
  refine gq_icmp_eq (tgt := 1326) dz_L_law_1232 rfl (fun _ => ?_) (fun hne => ?_)
  · exact kk _ _ ⟨hS1.gM hqM.2, hqM.1, zw_lay hW _ _ _⟩
  · exact absurd rfl hne
set_option maxHeartbeats 4000000 in
theorem sl_35 {ν : zq_E} (hL : ν.2.2.2.2.2 ≤ 320) {i : Nat} (hi : i + 5 ≤ ν.2.2.2.2.2) {σ : zq_T} {X : za_X} (hA : zl_at σ X) (kk : ∀ τ Y, zl_at τ Y → zq_G ν zm_L_law 15 zl_Q 1326 (zl_ls i) [] τ) : zq_G ν zm_L_law 15 zl_Q 1237 (zl_ls i) [] σ := by
  obtain ⟨hS, hM, hW⟩ := hA
  have hn6 : za_n X.1 ≤ 6 := hM.1.1.1
  refine gq_aload_n dz_L_law_1237 rfl ?_
  refine gq_aload_n dz_L_law_1238 rfl ?_
  refine gq_iload_n dz_L_law_1239 rfl ?_
  refine gq_iconst (v := 1) dz_L_law_1240 rfl ?_
  refine gq_iadd dz_L_law_1241 ?_
  refine gq_sld (i + 1) (nI_add i 1) (by omega) (by omega) dz_L_law_1242 ?_
  refine gq_aload_n dz_L_law_1243 rfl ?_
  refine gq_iload_n dz_L_law_1244 rfl ?_
  refine gq_iconst (v := 2) dz_L_law_1245 rfl ?_
  refine gq_iadd dz_L_law_1246 ?_
  refine gq_sld (i + 2) (nI_add i 2) (by omega) (by omega) dz_L_law_1247 ?_
  refine gq_aload_n dz_L_law_1248 rfl ?_
  refine gq_iload_n dz_L_law_1249 rfl ?_
  refine gq_iconst (v := 3) dz_L_law_1250 rfl ?_
  refine gq_iadd dz_L_law_1251 ?_
  refine gq_sld (i + 3) (nI_add i 3) (by omega) (by omega) dz_L_law_1252 ?_
  refine gq_aload_n dz_L_law_1253 rfl ?_
  refine gq_iload_n dz_L_law_1254 rfl ?_
  refine gq_iconst (v := 4) dz_L_law_1255 rfl ?_
  refine gq_iadd dz_L_law_1256 ?_
  refine gq_sld (i + 4) (nI_add i 4) (by omega) (by omega) dz_L_law_1257 ?_
  refine gq_cVP (sp_S_read hS hW _ _ _ _) zw_S_read zl_L_159 dz_L_law_1258 rfl rfl rfl (by decide) rfl rfl (Nat.le_of_ble_eq_true rfl) (fun τS hqS => ?_)
  have hS1 := hqS.1
  have hM1 := hM.gS hW hqS.2
  refine gq_aload_n dz_L_law_1261 rfl ?_
  refine gq_aload_n dz_L_law_1262 rfl ?_
  refine gq_iload_n dz_L_law_1263 rfl ?_
  refine gq_iconst (v := 1) dz_L_law_1264 rfl ?_
  refine gq_iadd dz_L_law_1265 ?_
  refine gq_sld (i + 1) (nI_add i 1) (by omega) (by omega) dz_L_law_1266 ?_
  refine gq_aload_n dz_L_law_1267 rfl ?_
  refine gq_iload_n dz_L_law_1268 rfl ?_
  refine gq_iconst (v := 2) dz_L_law_1269 rfl ?_
  refine gq_iadd dz_L_law_1270 ?_
  refine gq_sld (i + 2) (nI_add i 2) (by omega) (by omega) dz_L_law_1271 ?_
  refine gq_aload_n dz_L_law_1272 rfl ?_
  refine gq_iload_n dz_L_law_1273 rfl ?_
  refine gq_iconst (v := 3) dz_L_law_1274 rfl ?_
  refine gq_iadd dz_L_law_1275 ?_
  refine gq_sld (i + 3) (nI_add i 3) (by omega) (by omega) dz_L_law_1276 ?_
  refine gq_aload_n dz_L_law_1277 rfl ?_
  refine gq_iload_n dz_L_law_1278 rfl ?_
  refine gq_iconst (v := 4) dz_L_law_1279 rfl ?_
  refine gq_iadd dz_L_law_1280 ?_
  refine gq_sld (i + 4) (nI_add i 4) (by omega) (by omega) dz_L_law_1281 ?_
  refine gq_cVP (sp_M_read hM1 hW _ _ _ _) zw_M_read zl_L_162 dz_L_law_1282 rfl rfl rfl (by decide) rfl rfl (Nat.le_of_ble_eq_true rfl) (fun τM hqM => ?_)
  refine gq_icmp_eq (tgt := 1326) dz_L_law_1285 rfl (fun _ => ?_) (fun hne => ?_)
  · exact kk _ _ ⟨hS1.gM hqM.2, hqM.1, zw_read hW hn6 _ _ _ _⟩
  · exact absurd rfl hne
set_option maxHeartbeats 4000000 in
theorem sl_36 {ν : zq_E} (hL : ν.2.2.2.2.2 ≤ 320) {i : Nat} (hi : i + 5 ≤ ν.2.2.2.2.2) {σ : zq_T} {X : za_X} (hA : zl_at σ X) (kk : ∀ τ Y, zl_at τ Y → zq_G ν zm_L_law 15 zl_Q 1326 (zl_ls i) [] τ) : zq_G ν zm_L_law 15 zl_Q 1290 (zl_ls i) [] σ := by
  obtain ⟨hS, hM, hW⟩ := hA
  have hn6 : za_n X.1 ≤ 6 := hM.1.1.1
  refine gq_aload_n dz_L_law_1290 rfl ?_
  refine gq_cV (sp_S_torn hS hW) zw_S_torn zl_L_163 dz_L_law_1291 rfl rfl rfl (by decide) rfl rfl (Nat.le_of_ble_eq_true rfl) ?_
  have hS1 := hS
  have hM1 := hM
  refine gq_aload_n dz_L_law_1294 rfl ?_
  refine gq_cV (sp_M_torn hM1) zw_M_torn zl_L_166 dz_L_law_1295 rfl rfl rfl (by decide) rfl rfl (Nat.le_of_ble_eq_true rfl) ?_
  refine gq_icmp_eq (tgt := 1326) dz_L_law_1298 rfl (fun _ => ?_) (fun hne => ?_)
  · exact kk _ _ ⟨hS1, hM1, hW⟩
  · exact absurd rfl hne
set_option maxHeartbeats 4000000 in
theorem sl_37 {ν : zq_E} (hL : ν.2.2.2.2.2 ≤ 320) {i : Nat} (hi : i + 5 ≤ ν.2.2.2.2.2) {σ : zq_T} {X : za_X} (hA : zl_at σ X) (kk : ∀ τ Y, zl_at τ Y → zq_G ν zm_L_law 15 zl_Q 1326 (zl_ls i) [] τ) : zq_G ν zm_L_law 15 zl_Q 1303 (zl_ls i) [] σ := by
  obtain ⟨hS, hM, hW⟩ := hA
  have hn6 : za_n X.1 ≤ 6 := hM.1.1.1
  refine gq_aload_n dz_L_law_1303 rfl ?_
  refine gq_aload_n dz_L_law_1304 rfl ?_
  refine gq_iload_n dz_L_law_1305 rfl ?_
  refine gq_iconst (v := 1) dz_L_law_1306 rfl ?_
  refine gq_iadd dz_L_law_1307 ?_
  refine gq_sld (i + 1) (nI_add i 1) (by omega) (by omega) dz_L_law_1308 ?_
  refine gq_cV (sp_S_count hS hW _) zw_S_count zl_L_167 dz_L_law_1309 rfl rfl rfl (by decide) rfl rfl (Nat.le_of_ble_eq_true rfl) ?_
  have hS1 := hS
  have hM1 := hM
  refine gq_aload_n dz_L_law_1312 rfl ?_
  refine gq_aload_n dz_L_law_1313 rfl ?_
  refine gq_iload_n dz_L_law_1314 rfl ?_
  refine gq_iconst (v := 1) dz_L_law_1315 rfl ?_
  refine gq_iadd dz_L_law_1316 ?_
  refine gq_sld (i + 1) (nI_add i 1) (by omega) (by omega) dz_L_law_1317 ?_
  refine gq_cV (sp_M_count hM1 hW _) zw_M_count zl_L_170 dz_L_law_1318 rfl rfl rfl (by decide) rfl rfl (Nat.le_of_ble_eq_true rfl) ?_
  refine gq_icmp_eq (tgt := 1326) dz_L_law_1321 rfl (fun _ => ?_) (fun hne => ?_)
  · exact kk _ _ ⟨hS1, hM1, hW⟩
  · exact absurd rfl hne
