/-! the law's cases with no wrapper, and goodShare -/
theorem apC5 {σ : zS} {D : zDv} (h : zCP σ D) (hn : D.ni + 20 ≤ 900) (x1 x2 x3 x4 x5 : Int32) : zCP (aB (aB (aB (aB (aB σ (D.ni + 0) x1 4) (D.ni + 4) x2 4) (D.ni + 8) x3 4) (D.ni + 12) x4 4) (D.ni + 16) x5 4) (((((D.app x1).app x2).app x3).app x4).app x5) ∧ zFr 0 327 σ (aB (aB (aB (aB (aB σ (D.ni + 0) x1 4) (D.ni + 4) x2 4) (D.ni + 8) x3 4) (D.ni + 12) x4 4) (D.ni + 16) x5 4) := by
  have h1 := zCP_ap h (by omega) x1
  have n1 : (D.app x1).ni = D.ni + 4 := rfl
  have h2 := zCP_ap h1.1 (by omega) x2
  have n2 : ((D.app x1).app x2).ni = D.ni + 4 + 4 := rfl
  have h3 := zCP_ap h2.1 (by omega) x3
  have n3 : (((D.app x1).app x2).app x3).ni = D.ni + 4 + 4 + 4 := rfl
  have h4 := zCP_ap h3.1 (by omega) x4
  have n4 : ((((D.app x1).app x2).app x3).app x4).ni = D.ni + 4 + 4 + 4 + 4 := rfl
  have h5 := zCP_ap h4.1 (by omega) x5
  exact ⟨h5.1, zFr_trans (zFr_trans (zFr_trans (zFr_trans h1.2 h2.2) h3.2) h4.2) h5.2⟩
def f2dP (x : UInt32) : Bool := decide (FP.f2d x &&& 0x7fffffffffffffff ≤ 0x7ff0000000000000) && decide (Op.cmpValue (FP.dcmp (FP.f2d x) (FP.f2d x)) .l = 0)
theorem vg8 : ∀ a, a < 9 → ∀ b, b < 9 → 1 ≤ b → f2dP (FP.fdiv (FP.i2f (zI ((a : Nat) : Int))) (FP.i2f (zI ((b : Nat) : Int)))) = true := by decide +kernel
theorem vg1 : f2dP FP.fconst1 = true := by decide +kernel
theorem f2d_ok {U : zSU} (S : zST) (y lim : Int) (h : U.nb ≤ 8) : vf_n64 (FP.f2d (dGs U S y lim)) ∧ Op.cmpValue (FP.dcmp (FP.f2d (dGs U S y lim)) (FP.f2d (dGs U S y lim))) .l = 0 := by
  have hp : f2dP (dGs U S y lim) = true := by
    unfold dGs
    split
    · exact vg1
    · have := dGd_le U S y lim U.nb
      exact vg8 _ (by omega) _ (by omega) (by omega)
  have h2 := Bool.and_eq_true_iff.mp hp
  have e1 : FP.f2d (dGs U S y lim) &&& 0x7fffffffffffffff ≤ 0x7ff0000000000000 := of_decide_eq_true h2.1
  exact ⟨e1, of_decide_eq_true h2.2⟩
set_option maxRecDepth 20000 in
theorem w_c_X10_goodShare {l : Launch} (hfl : l.stackTraces = false) (E : zE) (σ : zS) (U : zSU) (S : zST) (y : Int) (lim : Int) (hU : zSUp σ 29 U) (hS : zSTp σ 34 S) (hy : U.s0 ≤ y ∧ y ≤ U.s0 + 999) (hl : 0 ≤ lim ∧ lim ≤ 1000000000) : zRh l E yL_goodShare cL_goodShare 5 [(0, 10, 13, 13)] (zrm 7 172) 0 0 [.ref (ob E 0), .int (zI y), .int (zI lim), .ref (ob E 340)] σ (fun r τ => r = zI 0 ∧ ∃ (v : UInt32) (υ : zS), (fun r τ => r = dGs U S y lim ∧ τ = qW σ U S U.nb) v υ ∧ τ = sD υ 340 0 (FP.f2d v)) := by
  refine zMetH hfl (by decide) rfl (Nat.le_of_ble_eq_true rfl) ?_
  intro p e s m args below meth c C hr htab
  refine (?_ : zV p l e _ s m args below meth c 5 E _ 0 0 σ 0 [(0, .ref (ob E 0)), (1, .int (zI y)), (2, .int (zI lim)), (3, .ref (ob E 340))] [])
  refine zv_aload_n C 3 dL_goodShare_0 rfl rfl ?_
  refine zv_iconst (v := zI 0) C dL_goodShare_1 rfl ?_
  refine zv_aload_n C 0 dL_goodShare_2 rfl rfl ?_
  refine zv_iload_n C 1 dL_goodShare_3 rfl rfl ?_
  refine zv_iload_n C 2 dL_goodShare_4 rfl rfl ?_
  refine zv_cvf (st := [.int (zI 0), .ref (ob E 340)]) C (c_X10_goodShare hfl E σ U S y lim hU hS hy hl) mX10_goodShare kL_151 (by decide : kd 0 = 9) rfl rfl rfl ⟨rfl, rfl⟩ (show zfit (zrm 6 148) 5 (zrm 7 172) = true from rfl) (Nat.le_of_ble_eq_true rfl) dL_goodShare_5 ⟨Nat.zero_le _, Nat.zero_le _⟩ (fun r5 τ5 hp5 => ?_)
  obtain ⟨hr9, hW9⟩ := hp5
  have hF2 := f2d_ok S y lim hU.2.2.1
  refine zv_eqf (y := dGs U S y lim) hr9 ?_
  refine zv_f2d C dL_goodShare_8 (hF2.1) ?_
  refine zv_dast (j := 0) C (by decide : kd 340 = _) (zI_ix (by omega)) (by decide) dL_goodShare_9 ?_
  refine zv_goto (tgt := 17) C dL_goodShare_10 (by decide) ?_
  refine zv_iconst (v := zI 0) C dL_goodShare_17 rfl ?_
  exact zv_iret C hr rfl dL_goodShare_18 ⟨rfl, r5, τ5, ⟨hr9, hW9⟩, by rw [hr9]⟩
set_option maxRecDepth 20000 in
theorem w_x1_X10_goodShare {l : Launch} (hfl : l.stackTraces = false) (E : zE) (σ : zS) (U : zSU) (y z : Int) (hU : zSUp σ 29 U) (hyi : -2147483648 ≤ y ∧ y < 2147483648) (hno : ¬ (U.s0 ≤ y ∧ y ≤ U.s0 + 999)) : zRh l E yL_goodShare cL_goodShare 5 [(0, 10, 13, 13)] (zrx 13 324) 1 6 [.ref (ob E 0), .int (zI y), .int (zI z), .ref (ob E 340)] σ (fun r τ => r = zI 1 ∧ (fun u => u = σ) τ) := by
  refine zMetH hfl (by decide) rfl (Nat.le_of_ble_eq_true rfl) ?_
  intro p e s m args below meth c C hr htab
  refine (?_ : zV p l e _ s m args below meth c 5 E _ 0 0 σ 0 [(0, .ref (ob E 0)), (1, .int (zI y)), (2, .int (zI z)), (3, .ref (ob E 340))] [])
  have hpass : ∀ z ∈ tableOf [], z.catchType ≠ 0 ∧ ∃ nm' : String, Cond.classLink RL z.catchType nm' ∈ zT ∧ ("java/lang/IllegalArgumentException", nm') ∈ zNc := fun z hz => by
    cases hz
  refine zv_aload_n C 3 dL_goodShare_0 rfl rfl ?_
  refine zv_iconst (v := zI 0) C dL_goodShare_1 rfl ?_
  refine zv_aload_n C 0 dL_goodShare_2 rfl rfl ?_
  refine zv_iload_n C 1 dL_goodShare_3 rfl rfl ?_
  refine zv_iload_n C 2 dL_goodShare_4 rfl rfl ?_
  refine zv_xcatch (st := [.int (zI 0), .ref (ob E 340)]) C (x1_X10_goodShare hfl E σ U y z hU hyi hno) (pre := tableOf []) (suf := tableOf []) (x := ⟨0, 10, 13, 13⟩) htab hpass (by decide) (by decide) zcl_13 zca_13 mX10_goodShare kL_151 (by decide : kd 0 = 9) rfl rfl rfl ⟨rfl, rfl⟩ (show zfit (zrx 12 300) 5 (zrx 13 324) = true from rfl) (Nat.le_of_ble_eq_true rfl) dL_goodShare_5 ⟨Nat.le_of_ble_eq_true rfl, Nat.le_of_ble_eq_true rfl⟩ (fun q9 τ9 hp9 => ?_)
  refine zv_astore (lv' := [(4, .ref q9), (0, .ref (ob E 0)), (1, .int (zI y)), (2, .int (zI z)), (3, .ref (ob E 340))]) C dL_goodShare_13  (by decide) rfl ?_
  refine zv_iconst (v := zI 1) C dL_goodShare_15 rfl ?_
  exact zv_iretN C hr rfl dL_goodShare_16 ⟨rfl, hp9⟩
set_option maxRecDepth 20000 in
theorem w_x2_X10_goodShare {l : Launch} (hfl : l.stackTraces = false) (E : zE) (σ : zS) (U : zSU) (y z : Int) (hU : zSUp σ 29 U) (hy : U.s0 ≤ y ∧ y ≤ U.s0 + 999) (hzi : -2147483648 ≤ z ∧ z < 2147483648) (hno : ¬ (0 ≤ z ∧ z ≤ 1000000000)) : zRh l E yL_goodShare cL_goodShare 5 [(0, 10, 13, 13)] (zrx 13 324) 1 6 [.ref (ob E 0), .int (zI y), .int (zI z), .ref (ob E 340)] σ (fun r τ => r = zI 1 ∧ (fun u => u = σ) τ) := by
  refine zMetH hfl (by decide) rfl (Nat.le_of_ble_eq_true rfl) ?_
  intro p e s m args below meth c C hr htab
  refine (?_ : zV p l e _ s m args below meth c 5 E _ 0 0 σ 0 [(0, .ref (ob E 0)), (1, .int (zI y)), (2, .int (zI z)), (3, .ref (ob E 340))] [])
  have hpass : ∀ z ∈ tableOf [], z.catchType ≠ 0 ∧ ∃ nm' : String, Cond.classLink RL z.catchType nm' ∈ zT ∧ ("java/lang/IllegalArgumentException", nm') ∈ zNc := fun z hz => by
    cases hz
  refine zv_aload_n C 3 dL_goodShare_0 rfl rfl ?_
  refine zv_iconst (v := zI 0) C dL_goodShare_1 rfl ?_
  refine zv_aload_n C 0 dL_goodShare_2 rfl rfl ?_
  refine zv_iload_n C 1 dL_goodShare_3 rfl rfl ?_
  refine zv_iload_n C 2 dL_goodShare_4 rfl rfl ?_
  refine zv_xcatch (st := [.int (zI 0), .ref (ob E 340)]) C (x2_X10_goodShare hfl E σ U y z hU hy hzi hno) (pre := tableOf []) (suf := tableOf []) (x := ⟨0, 10, 13, 13⟩) htab hpass (by decide) (by decide) zcl_13 zca_13 mX10_goodShare kL_151 (by decide : kd 0 = 9) rfl rfl rfl ⟨rfl, rfl⟩ (show zfit (zrx 12 300) 5 (zrx 13 324) = true from rfl) (Nat.le_of_ble_eq_true rfl) dL_goodShare_5 ⟨Nat.le_of_ble_eq_true rfl, Nat.le_of_ble_eq_true rfl⟩ (fun q9 τ9 hp9 => ?_)
  refine zv_astore (lv' := [(4, .ref q9), (0, .ref (ob E 0)), (1, .int (zI y)), (2, .int (zI z)), (3, .ref (ob E 340))]) C dL_goodShare_13  (by decide) rfl ?_
  refine zv_iconst (v := zI 1) C dL_goodShare_15 rfl ?_
  exact zv_iretN C hr rfl dL_goodShare_16 ⟨rfl, hp9⟩
theorem dL_law_288 : decode cL_law 288 = .ok (.aload_n 1, 1) := by decide +kernel
theorem dL_law_289 : decode cL_law 289 = .ok (.aload_n 0, 1) := by decide +kernel
theorem dL_law_290 : decode cL_law 290 = .ok (.iload 5, 2) := by decide +kernel
theorem dL_law_292 : decode cL_law 292 = .ok (.iconst 1, 1) := by decide +kernel
theorem dL_law_293 : decode cL_law 293 = .ok (.iadd, 1) := by decide +kernel
theorem dL_law_294 : decode cL_law 294 = .ok (.iaload, 1) := by decide +kernel
theorem dL_law_295 : decode cL_law 295 = .ok (.aload_n 0, 1) := by decide +kernel
theorem dL_law_296 : decode cL_law 296 = .ok (.iload 5, 2) := by decide +kernel
theorem dL_law_298 : decode cL_law 298 = .ok (.iconst 2, 1) := by decide +kernel
theorem dL_law_299 : decode cL_law 299 = .ok (.iadd, 1) := by decide +kernel
theorem dL_law_300 : decode cL_law 300 = .ok (.iaload, 1) := by decide +kernel
theorem dL_law_301 : decode cL_law 301 = .ok (.aload_n 0, 1) := by decide +kernel
theorem dL_law_302 : decode cL_law 302 = .ok (.iload 5, 2) := by decide +kernel
theorem dL_law_304 : decode cL_law 304 = .ok (.iconst 3, 1) := by decide +kernel
theorem dL_law_305 : decode cL_law 305 = .ok (.iadd, 1) := by decide +kernel
theorem dL_law_306 : decode cL_law 306 = .ok (.iaload, 1) := by decide +kernel
theorem dL_law_307 : decode cL_law 307 = .ok (.aload_n 0, 1) := by decide +kernel
theorem dL_law_308 : decode cL_law 308 = .ok (.iload 5, 2) := by decide +kernel
theorem dL_law_310 : decode cL_law 310 = .ok (.iconst 4, 1) := by decide +kernel
theorem dL_law_311 : decode cL_law 311 = .ok (.iadd, 1) := by decide +kernel
theorem dL_law_312 : decode cL_law 312 = .ok (.iaload, 1) := by decide +kernel
theorem dL_law_313 : decode cL_law 313 = .ok (.aload_n 0, 1) := by decide +kernel
theorem dL_law_314 : decode cL_law 314 = .ok (.iload 5, 2) := by decide +kernel
theorem dL_law_316 : decode cL_law 316 = .ok (.iconst 5, 1) := by decide +kernel
theorem dL_law_317 : decode cL_law 317 = .ok (.iadd, 1) := by decide +kernel
theorem dL_law_318 : decode cL_law 318 = .ok (.iaload, 1) := by decide +kernel
theorem dL_law_319 : decode cL_law 319 = .ok (.invokevirtual 172, 3) := by decide +kernel
theorem dL_law_322 : decode cL_law 322 = .ok (.aload_n 2, 1) := by decide +kernel
theorem dL_law_323 : decode cL_law 323 = .ok (.aload_n 0, 1) := by decide +kernel
theorem dL_law_324 : decode cL_law 324 = .ok (.iload 5, 2) := by decide +kernel
theorem dL_law_326 : decode cL_law 326 = .ok (.iconst 1, 1) := by decide +kernel
theorem dL_law_327 : decode cL_law 327 = .ok (.iadd, 1) := by decide +kernel
theorem dL_law_328 : decode cL_law 328 = .ok (.iaload, 1) := by decide +kernel
theorem dL_law_329 : decode cL_law 329 = .ok (.aload_n 0, 1) := by decide +kernel
theorem dL_law_330 : decode cL_law 330 = .ok (.iload 5, 2) := by decide +kernel
theorem dL_law_332 : decode cL_law 332 = .ok (.iconst 2, 1) := by decide +kernel
theorem dL_law_333 : decode cL_law 333 = .ok (.iadd, 1) := by decide +kernel
theorem dL_law_334 : decode cL_law 334 = .ok (.iaload, 1) := by decide +kernel
theorem dL_law_335 : decode cL_law 335 = .ok (.aload_n 0, 1) := by decide +kernel
theorem dL_law_336 : decode cL_law 336 = .ok (.iload 5, 2) := by decide +kernel
theorem dL_law_338 : decode cL_law 338 = .ok (.iconst 3, 1) := by decide +kernel
theorem dL_law_339 : decode cL_law 339 = .ok (.iadd, 1) := by decide +kernel
theorem dL_law_340 : decode cL_law 340 = .ok (.iaload, 1) := by decide +kernel
theorem dL_law_341 : decode cL_law 341 = .ok (.aload_n 0, 1) := by decide +kernel
theorem dL_law_342 : decode cL_law 342 = .ok (.iload 5, 2) := by decide +kernel
theorem dL_law_344 : decode cL_law 344 = .ok (.iconst 4, 1) := by decide +kernel
theorem dL_law_345 : decode cL_law 345 = .ok (.iadd, 1) := by decide +kernel
theorem dL_law_346 : decode cL_law 346 = .ok (.iaload, 1) := by decide +kernel
theorem dL_law_347 : decode cL_law 347 = .ok (.aload_n 0, 1) := by decide +kernel
theorem dL_law_348 : decode cL_law 348 = .ok (.iload 5, 2) := by decide +kernel
theorem dL_law_350 : decode cL_law 350 = .ok (.iconst 5, 1) := by decide +kernel
theorem dL_law_351 : decode cL_law 351 = .ok (.iadd, 1) := by decide +kernel
theorem dL_law_352 : decode cL_law 352 = .ok (.iaload, 1) := by decide +kernel
theorem dL_law_353 : decode cL_law 353 = .ok (.invokevirtual 176, 3) := by decide +kernel
theorem dL_law_356 : decode cL_law 356 = .ok (.if_icmp .eq 3268, 3) := by decide +kernel
theorem dL_law_359 : decode cL_law 359 = .ok (.iconst 0, 1) := by decide +kernel
theorem dL_law_360 : decode cL_law 360 = .ok (.ireturn, 1) := by decide +kernel
theorem dL_law_361 : decode cL_law 361 = .ok (.aload_n 1, 1) := by decide +kernel
theorem dL_law_362 : decode cL_law 362 = .ok (.aload_n 0, 1) := by decide +kernel
theorem dL_law_363 : decode cL_law 363 = .ok (.iload 5, 2) := by decide +kernel
theorem dL_law_365 : decode cL_law 365 = .ok (.iconst 1, 1) := by decide +kernel
theorem dL_law_366 : decode cL_law 366 = .ok (.iadd, 1) := by decide +kernel
theorem dL_law_367 : decode cL_law 367 = .ok (.iaload, 1) := by decide +kernel
theorem dL_law_368 : decode cL_law 368 = .ok (.invokevirtual 177, 3) := by decide +kernel
theorem dL_law_371 : decode cL_law 371 = .ok (.aload_n 2, 1) := by decide +kernel
theorem dL_law_372 : decode cL_law 372 = .ok (.aload_n 0, 1) := by decide +kernel
theorem dL_law_373 : decode cL_law 373 = .ok (.iload 5, 2) := by decide +kernel
theorem dL_law_375 : decode cL_law 375 = .ok (.iconst 1, 1) := by decide +kernel
theorem dL_law_376 : decode cL_law 376 = .ok (.iadd, 1) := by decide +kernel
theorem dL_law_377 : decode cL_law 377 = .ok (.iaload, 1) := by decide +kernel
theorem dL_law_378 : decode cL_law 378 = .ok (.invokevirtual 181, 3) := by decide +kernel
theorem dL_law_381 : decode cL_law 381 = .ok (.if_icmp .eq 3243, 3) := by decide +kernel
theorem dL_law_384 : decode cL_law 384 = .ok (.iconst 0, 1) := by decide +kernel
theorem dL_law_385 : decode cL_law 385 = .ok (.ireturn, 1) := by decide +kernel
theorem dL_law_386 : decode cL_law 386 = .ok (.aload_n 1, 1) := by decide +kernel
theorem dL_law_387 : decode cL_law 387 = .ok (.invokevirtual 182, 3) := by decide +kernel
theorem dL_law_390 : decode cL_law 390 = .ok (.aload_n 2, 1) := by decide +kernel
theorem dL_law_391 : decode cL_law 391 = .ok (.invokevirtual 185, 3) := by decide +kernel
theorem dL_law_394 : decode cL_law 394 = .ok (.if_icmp .eq 3230, 3) := by decide +kernel
theorem dL_law_397 : decode cL_law 397 = .ok (.iconst 0, 1) := by decide +kernel
theorem dL_law_398 : decode cL_law 398 = .ok (.ireturn, 1) := by decide +kernel
theorem dL_law_399 : decode cL_law 399 = .ok (.aload_n 1, 1) := by decide +kernel
theorem dL_law_400 : decode cL_law 400 = .ok (.invokevirtual 186, 3) := by decide +kernel
theorem dL_law_403 : decode cL_law 403 = .ok (.aload_n 2, 1) := by decide +kernel
theorem dL_law_404 : decode cL_law 404 = .ok (.invokevirtual 189, 3) := by decide +kernel
theorem dL_law_407 : decode cL_law 407 = .ok (.if_icmp .eq 3217, 3) := by decide +kernel
theorem dL_law_410 : decode cL_law 410 = .ok (.iconst 0, 1) := by decide +kernel
theorem dL_law_411 : decode cL_law 411 = .ok (.ireturn, 1) := by decide +kernel
theorem dL_law_412 : decode cL_law 412 = .ok (.aload_n 1, 1) := by decide +kernel
theorem dL_law_413 : decode cL_law 413 = .ok (.invokevirtual 190, 3) := by decide +kernel
theorem dL_law_416 : decode cL_law 416 = .ok (.aload_n 2, 1) := by decide +kernel
theorem dL_law_417 : decode cL_law 417 = .ok (.invokevirtual 193, 3) := by decide +kernel
theorem dL_law_420 : decode cL_law 420 = .ok (.if_icmp .eq 3204, 3) := by decide +kernel
theorem dL_law_423 : decode cL_law 423 = .ok (.iconst 0, 1) := by decide +kernel
theorem dL_law_424 : decode cL_law 424 = .ok (.ireturn, 1) := by decide +kernel
theorem dL_law_2114 : decode cL_law 2114 = .ok (.aload_n 1, 1) := by decide +kernel
theorem dL_law_2115 : decode cL_law 2115 = .ok (.aload_n 0, 1) := by decide +kernel
theorem dL_law_2116 : decode cL_law 2116 = .ok (.iload 5, 2) := by decide +kernel
theorem dL_law_2118 : decode cL_law 2118 = .ok (.iconst 1, 1) := by decide +kernel
theorem dL_law_2119 : decode cL_law 2119 = .ok (.iadd, 1) := by decide +kernel
theorem dL_law_2120 : decode cL_law 2120 = .ok (.iaload, 1) := by decide +kernel
theorem dL_law_2121 : decode cL_law 2121 = .ok (.invokevirtual 281, 3) := by decide +kernel
theorem dL_law_2124 : decode cL_law 2124 = .ok (.aload_n 2, 1) := by decide +kernel
theorem dL_law_2125 : decode cL_law 2125 = .ok (.aload_n 0, 1) := by decide +kernel
theorem dL_law_2126 : decode cL_law 2126 = .ok (.iload 5, 2) := by decide +kernel
theorem dL_law_2128 : decode cL_law 2128 = .ok (.iconst 1, 1) := by decide +kernel
theorem dL_law_2129 : decode cL_law 2129 = .ok (.iadd, 1) := by decide +kernel
theorem dL_law_2130 : decode cL_law 2130 = .ok (.iaload, 1) := by decide +kernel
theorem dL_law_2131 : decode cL_law 2131 = .ok (.invokevirtual 284, 3) := by decide +kernel
theorem dL_law_2134 : decode cL_law 2134 = .ok (.if_icmp .eq 1490, 3) := by decide +kernel
theorem dL_law_2137 : decode cL_law 2137 = .ok (.iconst 0, 1) := by decide +kernel
theorem dL_law_2138 : decode cL_law 2138 = .ok (.ireturn, 1) := by decide +kernel
theorem dL_law_3210 : decode cL_law 3210 = .ok (.aload_n 1, 1) := by decide +kernel
theorem dL_law_3211 : decode cL_law 3211 = .ok (.aload_n 0, 1) := by decide +kernel
theorem dL_law_3212 : decode cL_law 3212 = .ok (.iload 5, 2) := by decide +kernel
theorem dL_law_3214 : decode cL_law 3214 = .ok (.iconst 1, 1) := by decide +kernel
theorem dL_law_3215 : decode cL_law 3215 = .ok (.iadd, 1) := by decide +kernel
theorem dL_law_3216 : decode cL_law 3216 = .ok (.iaload, 1) := by decide +kernel
theorem dL_law_3217 : decode cL_law 3217 = .ok (.invokevirtual 334, 3) := by decide +kernel
theorem dL_law_3220 : decode cL_law 3220 = .ok (.aload_n 2, 1) := by decide +kernel
theorem dL_law_3221 : decode cL_law 3221 = .ok (.aload_n 0, 1) := by decide +kernel
theorem dL_law_3222 : decode cL_law 3222 = .ok (.iload 5, 2) := by decide +kernel
theorem dL_law_3224 : decode cL_law 3224 = .ok (.iconst 1, 1) := by decide +kernel
theorem dL_law_3225 : decode cL_law 3225 = .ok (.iadd, 1) := by decide +kernel
theorem dL_law_3226 : decode cL_law 3226 = .ok (.iaload, 1) := by decide +kernel
theorem dL_law_3227 : decode cL_law 3227 = .ok (.invokevirtual 337, 3) := by decide +kernel
theorem dL_law_3230 : decode cL_law 3230 = .ok (.if_icmp .eq 394, 3) := by decide +kernel
theorem dL_law_3233 : decode cL_law 3233 = .ok (.iconst 0, 1) := by decide +kernel
theorem dL_law_3234 : decode cL_law 3234 = .ok (.ireturn, 1) := by decide +kernel
theorem dL_law_3235 : decode cL_law 3235 = .ok (.aload_n 1, 1) := by decide +kernel
theorem dL_law_3236 : decode cL_law 3236 = .ok (.aload_n 0, 1) := by decide +kernel
theorem dL_law_3237 : decode cL_law 3237 = .ok (.iload 5, 2) := by decide +kernel
theorem dL_law_3239 : decode cL_law 3239 = .ok (.iconst 1, 1) := by decide +kernel
theorem dL_law_3240 : decode cL_law 3240 = .ok (.iadd, 1) := by decide +kernel
theorem dL_law_3241 : decode cL_law 3241 = .ok (.iaload, 1) := by decide +kernel
theorem dL_law_3242 : decode cL_law 3242 = .ok (.aload_n 0, 1) := by decide +kernel
theorem dL_law_3243 : decode cL_law 3243 = .ok (.iload 5, 2) := by decide +kernel
theorem dL_law_3245 : decode cL_law 3245 = .ok (.iconst 2, 1) := by decide +kernel
theorem dL_law_3246 : decode cL_law 3246 = .ok (.iadd, 1) := by decide +kernel
theorem dL_law_3247 : decode cL_law 3247 = .ok (.iaload, 1) := by decide +kernel
theorem dL_law_3248 : decode cL_law 3248 = .ok (.aload 4, 2) := by decide +kernel
theorem dL_law_3250 : decode cL_law 3250 = .ok (.invokestatic 338, 3) := by decide +kernel
theorem dL_law_3253 : decode cL_law 3253 = .ok (.istore 6, 2) := by decide +kernel
theorem dL_law_3255 : decode cL_law 3255 = .ok (.aload_n 2, 1) := by decide +kernel
theorem dL_law_3256 : decode cL_law 3256 = .ok (.aload_n 0, 1) := by decide +kernel
theorem dL_law_3257 : decode cL_law 3257 = .ok (.iload 5, 2) := by decide +kernel
theorem dL_law_3259 : decode cL_law 3259 = .ok (.iconst 1, 1) := by decide +kernel
theorem dL_law_3260 : decode cL_law 3260 = .ok (.iadd, 1) := by decide +kernel
theorem dL_law_3261 : decode cL_law 3261 = .ok (.iaload, 1) := by decide +kernel
theorem dL_law_3262 : decode cL_law 3262 = .ok (.aload_n 0, 1) := by decide +kernel
theorem dL_law_3263 : decode cL_law 3263 = .ok (.iload 5, 2) := by decide +kernel
theorem dL_law_3265 : decode cL_law 3265 = .ok (.iconst 2, 1) := by decide +kernel
theorem dL_law_3266 : decode cL_law 3266 = .ok (.iadd, 1) := by decide +kernel
theorem dL_law_3267 : decode cL_law 3267 = .ok (.iaload, 1) := by decide +kernel
theorem dL_law_3268 : decode cL_law 3268 = .ok (.invokevirtual 341, 3) := by decide +kernel
theorem dL_law_3271 : decode cL_law 3271 = .ok (.fstore 7, 2) := by decide +kernel
theorem dL_law_3273 : decode cL_law 3273 = .ok (.aload_n 2, 1) := by decide +kernel
theorem dL_law_3274 : decode cL_law 3274 = .ok (.invokevirtual 200, 3) := by decide +kernel
theorem dL_law_3277 : decode cL_law 3277 = .ok (.iload 6, 2) := by decide +kernel
theorem dL_law_3279 : decode cL_law 3279 = .ok (.if_icmp .eq 5, 3) := by decide +kernel
theorem dL_law_3282 : decode cL_law 3282 = .ok (.iconst 0, 1) := by decide +kernel
theorem dL_law_3283 : decode cL_law 3283 = .ok (.ireturn, 1) := by decide +kernel
theorem dL_law_3284 : decode cL_law 3284 = .ok (.iload 6, 2) := by decide +kernel
theorem dL_law_3286 : decode cL_law 3286 = .ok (.ifCond .ne 36, 3) := by decide +kernel
theorem dL_law_3289 : decode cL_law 3289 = .ok (.aload 4, 2) := by decide +kernel
theorem dL_law_3291 : decode cL_law 3291 = .ok (.iconst 0, 1) := by decide +kernel
theorem dL_law_3292 : decode cL_law 3292 = .ok (.daload, 1) := by decide +kernel
theorem dL_law_3293 : decode cL_law 3293 = .ok (.fload 7, 2) := by decide +kernel
theorem dL_law_3295 : decode cL_law 3295 = .ok (.f2d, 1) := by decide +kernel
theorem dL_law_3296 : decode cL_law 3296 = .ok (.dcmp .l, 1) := by decide +kernel
theorem dL_law_3297 : decode cL_law 3297 = .ok (.ifCond .eq 25, 3) := by decide +kernel
theorem dL_law_3300 : decode cL_law 3300 = .ok (.aload 4, 2) := by decide +kernel
theorem dL_law_3302 : decode cL_law 3302 = .ok (.iconst 0, 1) := by decide +kernel
theorem dL_law_3303 : decode cL_law 3303 = .ok (.daload, 1) := by decide +kernel
theorem dL_law_3304 : decode cL_law 3304 = .ok (.aload 4, 2) := by decide +kernel
theorem dL_law_3306 : decode cL_law 3306 = .ok (.iconst 0, 1) := by decide +kernel
theorem dL_law_3307 : decode cL_law 3307 = .ok (.daload, 1) := by decide +kernel
theorem dL_law_3308 : decode cL_law 3308 = .ok (.dcmp .l, 1) := by decide +kernel
theorem dL_law_3309 : decode cL_law 3309 = .ok (.ifCond .eq 11, 3) := by decide +kernel
theorem dL_law_3312 : decode cL_law 3312 = .ok (.fload 7, 2) := by decide +kernel
theorem dL_law_3314 : decode cL_law 3314 = .ok (.fload 7, 2) := by decide +kernel
theorem dL_law_3316 : decode cL_law 3316 = .ok (.fcmp .l, 1) := by decide +kernel
theorem dL_law_3317 : decode cL_law 3317 = .ok (.ifCond .ne 5, 3) := by decide +kernel
theorem dL_law_3320 : decode cL_law 3320 = .ok (.iconst 0, 1) := by decide +kernel
theorem dL_law_3321 : decode cL_law 3321 = .ok (.ireturn, 1) := by decide +kernel
theorem dL_law_3322 : decode cL_law 3322 = .ok (.goto 302, 3) := by decide +kernel
theorem dL_law_3529 : decode cL_law 3529 = .ok (.aload_n 1, 1) := by decide +kernel
theorem dL_law_3530 : decode cL_law 3530 = .ok (.aload_n 0, 1) := by decide +kernel
theorem dL_law_3531 : decode cL_law 3531 = .ok (.iload 5, 2) := by decide +kernel
theorem dL_law_3533 : decode cL_law 3533 = .ok (.iconst 1, 1) := by decide +kernel
theorem dL_law_3534 : decode cL_law 3534 = .ok (.iadd, 1) := by decide +kernel
theorem dL_law_3535 : decode cL_law 3535 = .ok (.iaload, 1) := by decide +kernel
theorem dL_law_3536 : decode cL_law 3536 = .ok (.invokevirtual 351, 3) := by decide +kernel
theorem dL_law_3539 : decode cL_law 3539 = .ok (.aload_n 2, 1) := by decide +kernel
theorem dL_law_3540 : decode cL_law 3540 = .ok (.aload_n 0, 1) := by decide +kernel
theorem dL_law_3541 : decode cL_law 3541 = .ok (.iload 5, 2) := by decide +kernel
theorem dL_law_3543 : decode cL_law 3543 = .ok (.iconst 1, 1) := by decide +kernel
theorem dL_law_3544 : decode cL_law 3544 = .ok (.iadd, 1) := by decide +kernel
theorem dL_law_3545 : decode cL_law 3545 = .ok (.iaload, 1) := by decide +kernel
theorem dL_law_3546 : decode cL_law 3546 = .ok (.invokevirtual 354, 3) := by decide +kernel
theorem dL_law_3549 : decode cL_law 3549 = .ok (.if_icmp .eq 75, 3) := by decide +kernel
theorem dL_law_3552 : decode cL_law 3552 = .ok (.iconst 0, 1) := by decide +kernel
theorem dL_law_3553 : decode cL_law 3553 = .ok (.ireturn, 1) := by decide +kernel
theorem dL_law_3554 : decode cL_law 3554 = .ok (.aload_n 1, 1) := by decide +kernel
theorem dL_law_3555 : decode cL_law 3555 = .ok (.invokevirtual 355, 3) := by decide +kernel
theorem dL_law_3558 : decode cL_law 3558 = .ok (.aload_n 2, 1) := by decide +kernel
theorem dL_law_3559 : decode cL_law 3559 = .ok (.invokevirtual 358, 3) := by decide +kernel
theorem dL_law_3562 : decode cL_law 3562 = .ok (.if_icmp .eq 62, 3) := by decide +kernel
theorem dL_law_3565 : decode cL_law 3565 = .ok (.iconst 0, 1) := by decide +kernel
theorem dL_law_3566 : decode cL_law 3566 = .ok (.ireturn, 1) := by decide +kernel
theorem dL_law_3567 : decode cL_law 3567 = .ok (.aload_n 1, 1) := by decide +kernel
theorem dL_law_3568 : decode cL_law 3568 = .ok (.invokevirtual 359, 3) := by decide +kernel
theorem dL_law_3571 : decode cL_law 3571 = .ok (.aload_n 2, 1) := by decide +kernel
theorem dL_law_3572 : decode cL_law 3572 = .ok (.invokevirtual 362, 3) := by decide +kernel
theorem dL_law_3575 : decode cL_law 3575 = .ok (.if_icmp .eq 49, 3) := by decide +kernel
theorem dL_law_3578 : decode cL_law 3578 = .ok (.iconst 0, 1) := by decide +kernel
theorem dL_law_3579 : decode cL_law 3579 = .ok (.ireturn, 1) := by decide +kernel
theorem dL_law_3580 : decode cL_law 3580 = .ok (.aload_n 1, 1) := by decide +kernel
theorem dL_law_3581 : decode cL_law 3581 = .ok (.aload_n 3, 1) := by decide +kernel
theorem dL_law_3582 : decode cL_law 3582 = .ok (.invokestatic 363, 3) := by decide +kernel
theorem dL_law_3585 : decode cL_law 3585 = .ok (.istore 6, 2) := by decide +kernel
theorem dL_law_3587 : decode cL_law 3587 = .ok (.aload_n 2, 1) := by decide +kernel
theorem dL_law_3588 : decode cL_law 3588 = .ok (.invokevirtual 366, 3) := by decide +kernel
theorem dL_law_3591 : decode cL_law 3591 = .ok (.istore 7, 2) := by decide +kernel
theorem dL_law_3593 : decode cL_law 3593 = .ok (.aload_n 2, 1) := by decide +kernel
theorem dL_law_3594 : decode cL_law 3594 = .ok (.invokevirtual 200, 3) := by decide +kernel
theorem dL_law_3597 : decode cL_law 3597 = .ok (.iload 6, 2) := by decide +kernel
theorem dL_law_3599 : decode cL_law 3599 = .ok (.if_icmp .eq 5, 3) := by decide +kernel
theorem dL_law_3602 : decode cL_law 3602 = .ok (.iconst 0, 1) := by decide +kernel
theorem dL_law_3603 : decode cL_law 3603 = .ok (.ireturn, 1) := by decide +kernel
theorem dL_law_3604 : decode cL_law 3604 = .ok (.iload 6, 2) := by decide +kernel
theorem dL_law_3606 : decode cL_law 3606 = .ok (.ifCond .ne 15, 3) := by decide +kernel
theorem dL_law_3609 : decode cL_law 3609 = .ok (.aload_n 3, 1) := by decide +kernel
theorem dL_law_3610 : decode cL_law 3610 = .ok (.iconst 0, 1) := by decide +kernel
theorem dL_law_3611 : decode cL_law 3611 = .ok (.laload, 1) := by decide +kernel
theorem dL_law_3612 : decode cL_law 3612 = .ok (.iload 7, 2) := by decide +kernel
theorem dL_law_3614 : decode cL_law 3614 = .ok (.i2l, 1) := by decide +kernel
theorem dL_law_3615 : decode cL_law 3615 = .ok (.lcmp, 1) := by decide +kernel
theorem dL_law_3616 : decode cL_law 3616 = .ok (.ifCond .eq 5, 3) := by decide +kernel
theorem dL_law_3619 : decode cL_law 3619 = .ok (.iconst 0, 1) := by decide +kernel
theorem dL_law_3620 : decode cL_law 3620 = .ok (.ireturn, 1) := by decide +kernel
theorem dL_law_3621 : decode cL_law 3621 = .ok (.goto 3, 3) := by decide +kernel
set_option maxRecDepth 20000 in
theorem lw_appendInput_1 {p : Program} {l : Launch} {e : Env} {s : State} {m : MethodId} {args : Array Value} {below : List Frame} {meth : Method} {c : Code} {E : zE} {Q : State → Prop} {b0 L i ce sl : Nat} {xs : Nat → Int32} {σ : zS} (ni : Nat) (tx : Nat → Int) (ec : Nat) (eo : Int) (U : zSU) (S : zST) (hh : List zST) (kp : Option zST) (ou : List Nat) (x1 : Int32) (x2 : Int32) (x3 : Int32) (x4 : Int32) (x5 : Int32) (W : zLW p l s m args meth c E b0 L xs) (hi : i + 6 ≤ L) (hcs : ce + 1 ≤ room_1.cells ∧ sl + 6 ≤ room_1.slots) (hR : zRel σ (zDv.mk ni tx ec eo U S hh kp ou)) (hx1 : xs (i + 1) = x1) (hx2 : xs (i + 2) = x2) (hx3 : xs (i + 3) = x3) (hx4 : xs (i + 4) = x4) (hx5 : xs (i + 5) = x5)  (hok : ni + 20 ≤ 900) (kk : zNx p l e s m args below meth c E Q b0 i ce sl) : zV p l e room_1 s m args below meth c 9 E Q ce sl σ 288 (lwL b0 i E) [] := by
  refine (?_ : zV p l e room_1 s m args below meth c 9 E Q ce sl σ 288 [(0, .ref b0), (1, .ref (ob E 0)), (2, .ref (ob E 327)), (3, .ref (ob E 339)), (4, .ref (ob E 340)), (5, .int (zI (i : Int)))] [])
  have C := W.2.1
  have hfl := W.1
  have hroom : room_1.cells = 601024 ∧ room_1.slots = 7293034 := ⟨rfl, rfl⟩
  refine zv_aload_n C 1 dL_law_288 rfl rfl ?_
  refine zv_aload_n C 0 dL_law_289 rfl rfl ?_
  refine zv_iload C 5 dL_law_290 rfl ?_
  refine zv_iconst (v := zI 1) C dL_law_292 rfl ?_
  refine zv_iaddZ C dL_law_293 ?_
  refine zv_sld (j := i + 1) (v := x1) C W.2.2.1 W.2.2.2.1 W.2.2.2.2.1 W.2.2.2.2.2 (zI_ix (by omega)) (by omega) hx1 dL_law_294 ?_
  refine zv_aload_n C 0 dL_law_295 rfl rfl ?_
  refine zv_iload C 5 dL_law_296 rfl ?_
  refine zv_iconst (v := zI 2) C dL_law_298 rfl ?_
  refine zv_iaddZ C dL_law_299 ?_
  refine zv_sld (j := i + 2) (v := x2) C W.2.2.1 W.2.2.2.1 W.2.2.2.2.1 W.2.2.2.2.2 (zI_ix (by omega)) (by omega) hx2 dL_law_300 ?_
  refine zv_aload_n C 0 dL_law_301 rfl rfl ?_
  refine zv_iload C 5 dL_law_302 rfl ?_
  refine zv_iconst (v := zI 3) C dL_law_304 rfl ?_
  refine zv_iaddZ C dL_law_305 ?_
  refine zv_sld (j := i + 3) (v := x3) C W.2.2.1 W.2.2.2.1 W.2.2.2.2.1 W.2.2.2.2.2 (zI_ix (by omega)) (by omega) hx3 dL_law_306 ?_
  refine zv_aload_n C 0 dL_law_307 rfl rfl ?_
  refine zv_iload C 5 dL_law_308 rfl ?_
  refine zv_iconst (v := zI 4) C dL_law_310 rfl ?_
  refine zv_iaddZ C dL_law_311 ?_
  refine zv_sld (j := i + 4) (v := x4) C W.2.2.1 W.2.2.2.1 W.2.2.2.2.1 W.2.2.2.2.2 (zI_ix (by omega)) (by omega) hx4 dL_law_312 ?_
  refine zv_aload_n C 0 dL_law_313 rfl rfl ?_
  refine zv_iload C 5 dL_law_314 rfl ?_
  refine zv_iconst (v := zI 5) C dL_law_316 rfl ?_
  refine zv_iaddZ C dL_law_317 ?_
  refine zv_sld (j := i + 5) (v := x5) C W.2.2.1 W.2.2.2.1 W.2.2.2.2.1 W.2.2.2.2.2 (zI_ix (by omega)) (by omega) hx5 dL_law_318 ?_
  refine zv_cvi (st := []) C (c_X10_appendInput hfl E σ ni x1 x2 x3 x4 x5 hR.1.1.1 hR.1.1.2.1) mX10_appendInput kL_172 (by decide : kd 0 = 9) rfl rfl rfl ⟨rfl, rfl⟩ (show zfit (zrm 1 22) 7 room_1 = true from rfl) (Nat.le_of_ble_eq_true rfl) dL_law_319 ⟨by omega, by omega⟩ (fun r319 τ319 hp319 => ?_)
  obtain ⟨hr1, hW1⟩ := hp319
  rw [if_pos hok] at hr1 hW1
  have hA1 := apC5 hR.1 hok x1 x2 x3 x4 x5
  rw [show zDv.ni (zDv.mk ni tx ec eo U S hh kp ou) = ni from rfl, ← hW1] at hA1
  obtain ⟨hC1, hF1⟩ := hA1
  have hM1 : zMP τ319 (zDv.mk ni tx ec eo U S hh kp ou) := zMP_fr hR.2 hF1
  refine zv_eqi (y := zI ((ni + 20 : Nat) : Int)) hr1 ?_
  refine zv_aload_n C 2 dL_law_322 rfl rfl ?_
  refine zv_aload_n C 0 dL_law_323 rfl rfl ?_
  refine zv_iload C 5 dL_law_324 rfl ?_
  refine zv_iconst (v := zI 1) C dL_law_326 rfl ?_
  refine zv_iaddZ C dL_law_327 ?_
  refine zv_sld (j := i + 1) (v := x1) C W.2.2.1 W.2.2.2.1 W.2.2.2.2.1 W.2.2.2.2.2 (zI_ix (by omega)) (by omega) hx1 dL_law_328 ?_
  refine zv_aload_n C 0 dL_law_329 rfl rfl ?_
  refine zv_iload C 5 dL_law_330 rfl ?_
  refine zv_iconst (v := zI 2) C dL_law_332 rfl ?_
  refine zv_iaddZ C dL_law_333 ?_
  refine zv_sld (j := i + 2) (v := x2) C W.2.2.1 W.2.2.2.1 W.2.2.2.2.1 W.2.2.2.2.2 (zI_ix (by omega)) (by omega) hx2 dL_law_334 ?_
  refine zv_aload_n C 0 dL_law_335 rfl rfl ?_
  refine zv_iload C 5 dL_law_336 rfl ?_
  refine zv_iconst (v := zI 3) C dL_law_338 rfl ?_
  refine zv_iaddZ C dL_law_339 ?_
  refine zv_sld (j := i + 3) (v := x3) C W.2.2.1 W.2.2.2.1 W.2.2.2.2.1 W.2.2.2.2.2 (zI_ix (by omega)) (by omega) hx3 dL_law_340 ?_
  refine zv_aload_n C 0 dL_law_341 rfl rfl ?_
  refine zv_iload C 5 dL_law_342 rfl ?_
  refine zv_iconst (v := zI 4) C dL_law_344 rfl ?_
  refine zv_iaddZ C dL_law_345 ?_
  refine zv_sld (j := i + 4) (v := x4) C W.2.2.1 W.2.2.2.1 W.2.2.2.2.1 W.2.2.2.2.2 (zI_ix (by omega)) (by omega) hx4 dL_law_346 ?_
  refine zv_aload_n C 0 dL_law_347 rfl rfl ?_
  refine zv_iload C 5 dL_law_348 rfl ?_
  refine zv_iconst (v := zI 5) C dL_law_350 rfl ?_
  refine zv_iaddZ C dL_law_351 ?_
  refine zv_sld (j := i + 5) (v := x5) C W.2.2.1 W.2.2.2.1 W.2.2.2.2.1 W.2.2.2.2.2 (zI_ix (by omega)) (by omega) hx5 dL_law_352 ?_
  refine zv_cvi (st := [.int (zI ((ni + 20 : Nat) : Int))]) C (c_X11_appendInput hfl E τ319 σ ni tx ec eo U S hh kp ou x1 x2 x3 x4 x5 hM1 hR.1.2.2.1 hR.1.2.2.2.1.1 (by first | assumption | omega)) mX11_appendInput kL_176 (by decide : kd 327 = 10) rfl rfl rfl ⟨rfl, rfl⟩ (show zfit (zrm 0 0) 6 room_1 = true from rfl) (Nat.le_of_ble_eq_true rfl) dL_law_353 ⟨by omega, by omega⟩ (fun r353 τ353 hp353 => ?_)
  obtain ⟨hr2, hK2⟩ := hp353
  refine zv_eqi (y := zI ((ni + 20 : Nat) : Int)) hr2 ?_
  have hR2 : zRel τ353 _ := ⟨zCP_fr hC1 hK2.2.2, hK2.1⟩
  refine zv_icmp_eq (tgt := 3624) C dL_law_356 (by decide) (fun h356 => ?_) (fun h356 => ?_)
  · skip
    refine zv_sub (lv' := [(0, .ref b0), (1, .ref (ob E 0)), (2, .ref (ob E 327)), (3, .ref (ob E 339)), (4, .ref (ob E 340)), (5, .int (zI (i : Int)))]) [0, 1, 2, 3, 4, 5] (zcons rfl (zcons rfl (zcons rfl (zcons rfl (zcons rfl (zcons rfl rfl)))))) ?_
    exact kk _ _ _ _ (by omega) (by omega) hR2
  · exfalso
    exact h356 rfl
set_option maxRecDepth 20000 in
theorem lw_appendInput_0 {p : Program} {l : Launch} {e : Env} {s : State} {m : MethodId} {args : Array Value} {below : List Frame} {meth : Method} {c : Code} {E : zE} {Q : State → Prop} {b0 L i ce sl : Nat} {xs : Nat → Int32} {σ : zS} (ni : Nat) (tx : Nat → Int) (ec : Nat) (eo : Int) (U : zSU) (S : zST) (hh : List zST) (kp : Option zST) (ou : List Nat) (x1 : Int32) (x2 : Int32) (x3 : Int32) (x4 : Int32) (x5 : Int32) (W : zLW p l s m args meth c E b0 L xs) (hi : i + 6 ≤ L) (hcs : ce + 1 ≤ room_1.cells ∧ sl + 6 ≤ room_1.slots) (hR : zRel σ (zDv.mk ni tx ec eo U S hh kp ou)) (hx1 : xs (i + 1) = x1) (hx2 : xs (i + 2) = x2) (hx3 : xs (i + 3) = x3) (hx4 : xs (i + 4) = x4) (hx5 : xs (i + 5) = x5)  (hno : ¬ ni + 20 ≤ 900) (kk : zNx p l e s m args below meth c E Q b0 i ce sl) : zV p l e room_1 s m args below meth c 9 E Q ce sl σ 288 (lwL b0 i E) [] := by
  refine (?_ : zV p l e room_1 s m args below meth c 9 E Q ce sl σ 288 [(0, .ref b0), (1, .ref (ob E 0)), (2, .ref (ob E 327)), (3, .ref (ob E 339)), (4, .ref (ob E 340)), (5, .int (zI (i : Int)))] [])
  have C := W.2.1
  have hfl := W.1
  have hroom : room_1.cells = 601024 ∧ room_1.slots = 7293034 := ⟨rfl, rfl⟩
  refine zv_aload_n C 1 dL_law_288 rfl rfl ?_
  refine zv_aload_n C 0 dL_law_289 rfl rfl ?_
  refine zv_iload C 5 dL_law_290 rfl ?_
  refine zv_iconst (v := zI 1) C dL_law_292 rfl ?_
  refine zv_iaddZ C dL_law_293 ?_
  refine zv_sld (j := i + 1) (v := x1) C W.2.2.1 W.2.2.2.1 W.2.2.2.2.1 W.2.2.2.2.2 (zI_ix (by omega)) (by omega) hx1 dL_law_294 ?_
  refine zv_aload_n C 0 dL_law_295 rfl rfl ?_
  refine zv_iload C 5 dL_law_296 rfl ?_
  refine zv_iconst (v := zI 2) C dL_law_298 rfl ?_
  refine zv_iaddZ C dL_law_299 ?_
  refine zv_sld (j := i + 2) (v := x2) C W.2.2.1 W.2.2.2.1 W.2.2.2.2.1 W.2.2.2.2.2 (zI_ix (by omega)) (by omega) hx2 dL_law_300 ?_
  refine zv_aload_n C 0 dL_law_301 rfl rfl ?_
  refine zv_iload C 5 dL_law_302 rfl ?_
  refine zv_iconst (v := zI 3) C dL_law_304 rfl ?_
  refine zv_iaddZ C dL_law_305 ?_
  refine zv_sld (j := i + 3) (v := x3) C W.2.2.1 W.2.2.2.1 W.2.2.2.2.1 W.2.2.2.2.2 (zI_ix (by omega)) (by omega) hx3 dL_law_306 ?_
  refine zv_aload_n C 0 dL_law_307 rfl rfl ?_
  refine zv_iload C 5 dL_law_308 rfl ?_
  refine zv_iconst (v := zI 4) C dL_law_310 rfl ?_
  refine zv_iaddZ C dL_law_311 ?_
  refine zv_sld (j := i + 4) (v := x4) C W.2.2.1 W.2.2.2.1 W.2.2.2.2.1 W.2.2.2.2.2 (zI_ix (by omega)) (by omega) hx4 dL_law_312 ?_
  refine zv_aload_n C 0 dL_law_313 rfl rfl ?_
  refine zv_iload C 5 dL_law_314 rfl ?_
  refine zv_iconst (v := zI 5) C dL_law_316 rfl ?_
  refine zv_iaddZ C dL_law_317 ?_
  refine zv_sld (j := i + 5) (v := x5) C W.2.2.1 W.2.2.2.1 W.2.2.2.2.1 W.2.2.2.2.2 (zI_ix (by omega)) (by omega) hx5 dL_law_318 ?_
  refine zv_cvi (st := []) C (c_X10_appendInput hfl E σ ni x1 x2 x3 x4 x5 hR.1.1.1 hR.1.1.2.1) mX10_appendInput kL_172 (by decide : kd 0 = 9) rfl rfl rfl ⟨rfl, rfl⟩ (show zfit (zrm 1 22) 7 room_1 = true from rfl) (Nat.le_of_ble_eq_true rfl) dL_law_319 ⟨by omega, by omega⟩ (fun r319 τ319 hp319 => ?_)
  obtain ⟨hr1, hW1⟩ := hp319
  rw [if_neg hno] at hr1 hW1
  have hR1 : zRel τ319 (zDv.mk ni tx ec eo U S hh kp ou) := by rw [hW1]; exact hR
  refine zv_eqi (y := zI (-1)) hr1 ?_
  refine zv_aload_n C 2 dL_law_322 rfl rfl ?_
  refine zv_aload_n C 0 dL_law_323 rfl rfl ?_
  refine zv_iload C 5 dL_law_324 rfl ?_
  refine zv_iconst (v := zI 1) C dL_law_326 rfl ?_
  refine zv_iaddZ C dL_law_327 ?_
  refine zv_sld (j := i + 1) (v := x1) C W.2.2.1 W.2.2.2.1 W.2.2.2.2.1 W.2.2.2.2.2 (zI_ix (by omega)) (by omega) hx1 dL_law_328 ?_
  refine zv_aload_n C 0 dL_law_329 rfl rfl ?_
  refine zv_iload C 5 dL_law_330 rfl ?_
  refine zv_iconst (v := zI 2) C dL_law_332 rfl ?_
  refine zv_iaddZ C dL_law_333 ?_
  refine zv_sld (j := i + 2) (v := x2) C W.2.2.1 W.2.2.2.1 W.2.2.2.2.1 W.2.2.2.2.2 (zI_ix (by omega)) (by omega) hx2 dL_law_334 ?_
  refine zv_aload_n C 0 dL_law_335 rfl rfl ?_
  refine zv_iload C 5 dL_law_336 rfl ?_
  refine zv_iconst (v := zI 3) C dL_law_338 rfl ?_
  refine zv_iaddZ C dL_law_339 ?_
  refine zv_sld (j := i + 3) (v := x3) C W.2.2.1 W.2.2.2.1 W.2.2.2.2.1 W.2.2.2.2.2 (zI_ix (by omega)) (by omega) hx3 dL_law_340 ?_
  refine zv_aload_n C 0 dL_law_341 rfl rfl ?_
  refine zv_iload C 5 dL_law_342 rfl ?_
  refine zv_iconst (v := zI 4) C dL_law_344 rfl ?_
  refine zv_iaddZ C dL_law_345 ?_
  refine zv_sld (j := i + 4) (v := x4) C W.2.2.1 W.2.2.2.1 W.2.2.2.2.1 W.2.2.2.2.2 (zI_ix (by omega)) (by omega) hx4 dL_law_346 ?_
  refine zv_aload_n C 0 dL_law_347 rfl rfl ?_
  refine zv_iload C 5 dL_law_348 rfl ?_
  refine zv_iconst (v := zI 5) C dL_law_350 rfl ?_
  refine zv_iaddZ C dL_law_351 ?_
  refine zv_sld (j := i + 5) (v := x5) C W.2.2.1 W.2.2.2.1 W.2.2.2.2.1 W.2.2.2.2.2 (zI_ix (by omega)) (by omega) hx5 dL_law_352 ?_
  refine zv_cvi (st := [.int (zI (-1))]) C (c0_X11_appendInput hfl E τ319 σ ni tx ec eo U S hh kp ou x1 x2 x3 x4 x5 hR1.2 hR.1.2.2.1 hR.1.2.2.2.1.1 (by first | assumption | omega)) mX11_appendInput kL_176 (by decide : kd 327 = 10) rfl rfl rfl ⟨rfl, rfl⟩ (show zfit (zrm 0 0) 6 room_1 = true from rfl) (Nat.le_of_ble_eq_true rfl) dL_law_353 ⟨by omega, by omega⟩ (fun r353 τ353 hp353 => ?_)
  obtain ⟨hr2, hK2⟩ := hp353
  refine zv_eqi (y := zI (-1)) hr2 ?_
  have hR2 : zRel τ353 (zDv.mk ni tx ec eo U S hh kp ou) := zRel_m hR1 hK2
  refine zv_icmp_eq (tgt := 3624) C dL_law_356 (by decide) (fun h356 => ?_) (fun h356 => ?_)
  · skip
    refine zv_sub (lv' := [(0, .ref b0), (1, .ref (ob E 0)), (2, .ref (ob E 327)), (3, .ref (ob E 339)), (4, .ref (ob E 340)), (5, .int (zI (i : Int)))]) [0, 1, 2, 3, 4, 5] (zcons rfl (zcons rfl (zcons rfl (zcons rfl (zcons rfl (zcons rfl rfl)))))) ?_
    exact kk _ _ _ _ (by omega) (by omega) hR2
  · exfalso
    exact h356 rfl
set_option maxRecDepth 20000 in
theorem lw_truncateInput_1 {p : Program} {l : Launch} {e : Env} {s : State} {m : MethodId} {args : Array Value} {below : List Frame} {meth : Method} {c : Code} {E : zE} {Q : State → Prop} {b0 L i ce sl : Nat} {xs : Nat → Int32} {σ : zS} (ni : Nat) (tx : Nat → Int) (ec : Nat) (eo : Int) (U : zSU) (S : zST) (hh : List zST) (kp : Option zST) (ou : List Nat) (n1 : Nat) (W : zLW p l s m args meth c E b0 L xs) (hi : i + 6 ≤ L) (hcs : ce + 1 ≤ room_1.cells ∧ sl + 6 ≤ room_1.slots) (hR : zRel σ (zDv.mk ni tx ec eo U S hh kp ou)) (hx1 : xs (i + 1) = (zI (n1 : Int))) (hyi0 : -2147483648 ≤ (n1 : Int) ∧ (n1 : Int) < 2147483648) (hm : n1 ≤ ni) (kk : zNx p l e s m args below meth c E Q b0 i ce sl) : zV p l e room_1 s m args below meth c 9 E Q ce sl σ 361 (lwL b0 i E) [] := by
  refine (?_ : zV p l e room_1 s m args below meth c 9 E Q ce sl σ 361 [(0, .ref b0), (1, .ref (ob E 0)), (2, .ref (ob E 327)), (3, .ref (ob E 339)), (4, .ref (ob E 340)), (5, .int (zI (i : Int)))] [])
  have C := W.2.1
  have hfl := W.1
  have hroom : room_1.cells = 601024 ∧ room_1.slots = 7293034 := ⟨rfl, rfl⟩
  refine zv_aload_n C 1 dL_law_361 rfl rfl ?_
  refine zv_aload_n C 0 dL_law_362 rfl rfl ?_
  refine zv_iload C 5 dL_law_363 rfl ?_
  refine zv_iconst (v := zI 1) C dL_law_365 rfl ?_
  refine zv_iaddZ C dL_law_366 ?_
  refine zv_sld (j := i + 1) (v := (zI (n1 : Int))) C W.2.2.1 W.2.2.2.1 W.2.2.2.2.1 W.2.2.2.2.2 (zI_ix (by omega)) (by omega) hx1 dL_law_367 ?_
  refine zv_cvi (st := []) C (c_X10_truncateInput hfl E σ ni (n1 : Int) hR.1.1.1 hR.1.1.2.1 (by first | assumption | omega)) mX10_truncateInput kL_177 (by decide : kd 0 = 9) rfl rfl rfl ⟨rfl, rfl⟩ (show zfit (zrm 0 0) 2 room_1 = true from rfl) (Nat.le_of_ble_eq_true rfl) dL_law_368 ⟨by omega, by omega⟩ (fun r368 τ368 hp368 => ?_)
  obtain ⟨hr1, hW1⟩ := hp368
  have hok : 0 ≤ (n1 : Int) ∧ (n1 : Int) ≤ ni := ⟨by omega, by omega⟩
  rw [if_pos hok] at hW1
  have hA1 := zCP_cut hR.1 (m := n1) hm
  rw [← hW1] at hA1
  obtain ⟨hC1, hF1⟩ := hA1
  have hM1 : zMP τ368 (zDv.mk ni tx ec eo U S hh kp ou) := zMP_fr hR.2 hF1
  refine zv_eqi (y := zI 1) (hr1.trans (zB_t hok)) ?_
  refine zv_aload_n C 2 dL_law_371 rfl rfl ?_
  refine zv_aload_n C 0 dL_law_372 rfl rfl ?_
  refine zv_iload C 5 dL_law_373 rfl ?_
  refine zv_iconst (v := zI 1) C dL_law_375 rfl ?_
  refine zv_iaddZ C dL_law_376 ?_
  refine zv_sld (j := i + 1) (v := (zI (n1 : Int))) C W.2.2.1 W.2.2.2.1 W.2.2.2.2.1 W.2.2.2.2.2 (zI_ix (by omega)) (by omega) hx1 dL_law_377 ?_
  refine zv_cvi (st := [.int (zI 1)]) C (c_X11_truncateInput hfl E τ368 σ ni tx ec eo U S hh kp ou n1 hM1 hR.1.2.2.1 hR.1.2.2.2.1.1 (by first | assumption | omega)) mX11_truncateInput kL_181 (by decide : kd 327 = 10) rfl rfl rfl ⟨rfl, rfl⟩ (show zfit (zrm 1 25) 2 room_1 = true from rfl) (Nat.le_of_ble_eq_true rfl) dL_law_378 ⟨by omega, by omega⟩ (fun r378 τ378 hp378 => ?_)
  obtain ⟨hr2, hK2⟩ := hp378
  refine zv_eqi (y := zI 1) hr2 ?_
  have hR2 : zRel τ378 _ := ⟨zCP_fr hC1 hK2.2.2, hK2.1⟩
  refine zv_icmp_eq (tgt := 3624) C dL_law_381 (by decide) (fun h381 => ?_) (fun h381 => ?_)
  · skip
    refine zv_sub (lv' := [(0, .ref b0), (1, .ref (ob E 0)), (2, .ref (ob E 327)), (3, .ref (ob E 339)), (4, .ref (ob E 340)), (5, .int (zI (i : Int)))]) [0, 1, 2, 3, 4, 5] (zcons rfl (zcons rfl (zcons rfl (zcons rfl (zcons rfl (zcons rfl rfl)))))) ?_
    exact kk _ _ _ _ (by omega) (by omega) hR2
  · exfalso
    exact h381 rfl
set_option maxRecDepth 20000 in
theorem lw_truncateInput_0 {p : Program} {l : Launch} {e : Env} {s : State} {m : MethodId} {args : Array Value} {below : List Frame} {meth : Method} {c : Code} {E : zE} {Q : State → Prop} {b0 L i ce sl : Nat} {xs : Nat → Int32} {σ : zS} (ni : Nat) (tx : Nat → Int) (ec : Nat) (eo : Int) (U : zSU) (S : zST) (hh : List zST) (kp : Option zST) (ou : List Nat) (v1 : Int) (W : zLW p l s m args meth c E b0 L xs) (hi : i + 6 ≤ L) (hcs : ce + 1 ≤ room_1.cells ∧ sl + 6 ≤ room_1.slots) (hR : zRel σ (zDv.mk ni tx ec eo U S hh kp ou)) (hx1 : xs (i + 1) = (zI v1)) (hyi0 : -2147483648 ≤ v1 ∧ v1 < 2147483648) (hno : ¬ (0 ≤ v1 ∧ v1 ≤ ni)) (kk : zNx p l e s m args below meth c E Q b0 i ce sl) : zV p l e room_1 s m args below meth c 9 E Q ce sl σ 361 (lwL b0 i E) [] := by
  refine (?_ : zV p l e room_1 s m args below meth c 9 E Q ce sl σ 361 [(0, .ref b0), (1, .ref (ob E 0)), (2, .ref (ob E 327)), (3, .ref (ob E 339)), (4, .ref (ob E 340)), (5, .int (zI (i : Int)))] [])
  have C := W.2.1
  have hfl := W.1
  have hroom : room_1.cells = 601024 ∧ room_1.slots = 7293034 := ⟨rfl, rfl⟩
  refine zv_aload_n C 1 dL_law_361 rfl rfl ?_
  refine zv_aload_n C 0 dL_law_362 rfl rfl ?_
  refine zv_iload C 5 dL_law_363 rfl ?_
  refine zv_iconst (v := zI 1) C dL_law_365 rfl ?_
  refine zv_iaddZ C dL_law_366 ?_
  refine zv_sld (j := i + 1) (v := (zI v1)) C W.2.2.1 W.2.2.2.1 W.2.2.2.2.1 W.2.2.2.2.2 (zI_ix (by omega)) (by omega) hx1 dL_law_367 ?_
  refine zv_cvi (st := []) C (c_X10_truncateInput hfl E σ ni v1 hR.1.1.1 hR.1.1.2.1 (by first | assumption | omega)) mX10_truncateInput kL_177 (by decide : kd 0 = 9) rfl rfl rfl ⟨rfl, rfl⟩ (show zfit (zrm 0 0) 2 room_1 = true from rfl) (Nat.le_of_ble_eq_true rfl) dL_law_368 ⟨by omega, by omega⟩ (fun r368 τ368 hp368 => ?_)
  obtain ⟨hr1, hW1⟩ := hp368
  rw [if_neg hno] at hW1
  have hR1 : zRel τ368 (zDv.mk ni tx ec eo U S hh kp ou) := by rw [hW1]; exact hR
  refine zv_eqi (y := zI 0) (hr1.trans (zB_f hno)) ?_
  refine zv_aload_n C 2 dL_law_371 rfl rfl ?_
  refine zv_aload_n C 0 dL_law_372 rfl rfl ?_
  refine zv_iload C 5 dL_law_373 rfl ?_
  refine zv_iconst (v := zI 1) C dL_law_375 rfl ?_
  refine zv_iaddZ C dL_law_376 ?_
  refine zv_sld (j := i + 1) (v := (zI v1)) C W.2.2.1 W.2.2.2.1 W.2.2.2.2.1 W.2.2.2.2.2 (zI_ix (by omega)) (by omega) hx1 dL_law_377 ?_
  refine zv_cvi (st := [.int (zI 0)]) C (c0_X11_truncateInput hfl E τ368 σ ni tx ec eo U S hh kp ou v1 hR1.2 hR.1.2.2.1 hR.1.2.2.2.1.1 (by first | assumption | omega) (by first | assumption | omega)) mX11_truncateInput kL_181 (by decide : kd 327 = 10) rfl rfl rfl ⟨rfl, rfl⟩ (show zfit (zrm 1 25) 2 room_1 = true from rfl) (Nat.le_of_ble_eq_true rfl) dL_law_378 ⟨by omega, by omega⟩ (fun r378 τ378 hp378 => ?_)
  obtain ⟨hr2, hK2⟩ := hp378
  refine zv_eqi (y := zI 0) hr2 ?_
  have hR2 : zRel τ378 (zDv.mk ni tx ec eo U S hh kp ou) := zRel_m hR1 hK2
  refine zv_icmp_eq (tgt := 3624) C dL_law_381 (by decide) (fun h381 => ?_) (fun h381 => ?_)
  · skip
    refine zv_sub (lv' := [(0, .ref b0), (1, .ref (ob E 0)), (2, .ref (ob E 327)), (3, .ref (ob E 339)), (4, .ref (ob E 340)), (5, .int (zI (i : Int)))]) [0, 1, 2, 3, 4, 5] (zcons rfl (zcons rfl (zcons rfl (zcons rfl (zcons rfl (zcons rfl rfl)))))) ?_
    exact kk _ _ _ _ (by omega) (by omega) hR2
  · exfalso
    exact h381 rfl
set_option maxRecDepth 20000 in
theorem lw_loadDrive_1 {p : Program} {l : Launch} {e : Env} {s : State} {m : MethodId} {args : Array Value} {below : List Frame} {meth : Method} {c : Code} {E : zE} {Q : State → Prop} {b0 L i ce sl : Nat} {xs : Nat → Int32} {σ : zS} (ni : Nat) (tx : Nat → Int) (ec : Nat) (eo : Int) (U : zSU) (S : zST) (hh : List zST) (kp : Option zST) (ou : List Nat)  (W : zLW p l s m args meth c E b0 L xs) (hi : i + 6 ≤ L) (hcs : ce + 1 ≤ room_1.cells ∧ sl + 6 ≤ room_1.slots) (hR : zRel σ (zDv.mk ni tx ec eo U S hh kp ou))  (hok0 : (pText tx ni).1 = 0)  (kk : zNx p l e s m args below meth c E Q b0 i ce sl) : zV p l e room_1 s m args below meth c 9 E Q ce sl σ 386 (lwL b0 i E) [] := by
  refine (?_ : zV p l e room_1 s m args below meth c 9 E Q ce sl σ 386 [(0, .ref b0), (1, .ref (ob E 0)), (2, .ref (ob E 327)), (3, .ref (ob E 339)), (4, .ref (ob E 340)), (5, .int (zI (i : Int)))] [])
  have C := W.2.1
  have hfl := W.1
  have hroom : room_1.cells = 601024 ∧ room_1.slots = 7293034 := ⟨rfl, rfl⟩
  refine zv_aload_n C 1 dL_law_386 rfl rfl ?_
  refine zv_cvi (st := []) C (c_X10_loadDrive hfl E σ ni tx ec eo U S hh kp ou hR.1 (by first | assumption | omega)) mX10_loadDrive kL_182 (by decide : kd 0 = 9) rfl rfl rfl ⟨rfl, rfl⟩ (show zfit (zrm 6 140) 2 room_1 = true from rfl) (Nat.le_of_ble_eq_true rfl) dL_law_387 ⟨by omega, by omega⟩ (fun r387 τ387 hp387 => ?_)
  obtain ⟨hr1, hC1, hF1⟩ := hp387
  have hM1 : zMP τ387 (zDv.mk ni tx ec eo U S hh kp ou) := zMP_fr hR.2 hF1
  refine zv_eqi (y := zI ((pText tx ni).2.U.nb : Int)) hr1 ?_
  refine zv_aload_n C 2 dL_law_390 rfl rfl ?_
  refine zv_cvi (st := [.int (zI ((pText tx ni).2.U.nb : Int))]) C (c_X11_loadDrive hfl E τ387 σ ni tx ec eo U S hh kp ou hM1 hR.1.2.2.1 hR.1.2.2.2.1.1 hR.1.1.2.2.2 (by first | assumption | omega)) mX11_loadDrive kL_185 (by decide : kd 327 = 10) rfl rfl rfl ⟨rfl, rfl⟩ (show zfit (zrm 12 300) 2 room_1 = true from rfl) (Nat.le_of_ble_eq_true rfl) dL_law_391 ⟨by omega, by omega⟩ (fun r391 τ391 hp391 => ?_)
  obtain ⟨hr2, hK2⟩ := hp391
  refine zv_eqi (y := zI ((pText tx ni).2.U.nb : Int)) hr2 ?_
  have hR2 : zRel τ391 _ := ⟨zCP_fr hC1 hK2.2.2, hK2.1⟩
  refine zv_icmp_eq (tgt := 3624) C dL_law_394 (by decide) (fun h394 => ?_) (fun h394 => ?_)
  · skip
    refine zv_sub (lv' := [(0, .ref b0), (1, .ref (ob E 0)), (2, .ref (ob E 327)), (3, .ref (ob E 339)), (4, .ref (ob E 340)), (5, .int (zI (i : Int)))]) [0, 1, 2, 3, 4, 5] (zcons rfl (zcons rfl (zcons rfl (zcons rfl (zcons rfl (zcons rfl rfl)))))) ?_
    exact kk _ _ _ _ (by omega) (by omega) hR2
  · exfalso
    exact h394 rfl
set_option maxRecDepth 20000 in
theorem lw_loadDrive_0 {p : Program} {l : Launch} {e : Env} {s : State} {m : MethodId} {args : Array Value} {below : List Frame} {meth : Method} {c : Code} {E : zE} {Q : State → Prop} {b0 L i ce sl : Nat} {xs : Nat → Int32} {σ : zS} (ni : Nat) (tx : Nat → Int) (ec : Nat) (eo : Int) (U : zSU) (S : zST) (hh : List zST) (kp : Option zST) (ou : List Nat)  (W : zLW p l s m args meth c E b0 L xs) (hi : i + 6 ≤ L) (hcs : ce + 1 ≤ room_1.cells ∧ sl + 6 ≤ room_1.slots) (hR : zRel σ (zDv.mk ni tx ec eo U S hh kp ou))  (hno0 : ¬ (pText tx ni).1 = 0)  (kk : zNx p l e s m args below meth c E Q b0 i ce sl) : zV p l e room_1 s m args below meth c 9 E Q ce sl σ 386 (lwL b0 i E) [] := by
  refine (?_ : zV p l e room_1 s m args below meth c 9 E Q ce sl σ 386 [(0, .ref b0), (1, .ref (ob E 0)), (2, .ref (ob E 327)), (3, .ref (ob E 339)), (4, .ref (ob E 340)), (5, .int (zI (i : Int)))] [])
  have C := W.2.1
  have hfl := W.1
  have hroom : room_1.cells = 601024 ∧ room_1.slots = 7293034 := ⟨rfl, rfl⟩
  refine zv_aload_n C 1 dL_law_386 rfl rfl ?_
  refine zv_cvi (st := []) C (c0_X10_loadDrive hfl E σ ni tx ec eo U S hh kp ou hR.1 (by first | assumption | omega)) mX10_loadDrive kL_182 (by decide : kd 0 = 9) rfl rfl rfl ⟨rfl, rfl⟩ (show zfit (zrm 6 140) 2 room_1 = true from rfl) (Nat.le_of_ble_eq_true rfl) dL_law_387 ⟨by omega, by omega⟩ (fun r387 τ387 hp387 => ?_)
  obtain ⟨hr1, hC1, hF1⟩ := hp387
  have hM1 : zMP τ387 (zDv.mk ni tx ec eo U S hh kp ou) := zMP_fr hR.2 hF1
  refine zv_eqi (y := zI (-1)) hr1 ?_
  refine zv_aload_n C 2 dL_law_390 rfl rfl ?_
  refine zv_cvi (st := [.int (zI (-1))]) C (c0_X11_loadDrive hfl E τ387 σ ni tx ec eo U S hh kp ou hM1 hR.1.2.2.1 hR.1.2.2.2.1.1 hR.1.1.2.2.2 (by first | assumption | omega)) mX11_loadDrive kL_185 (by decide : kd 327 = 10) rfl rfl rfl ⟨rfl, rfl⟩ (show zfit (zrm 12 300) 2 room_1 = true from rfl) (Nat.le_of_ble_eq_true rfl) dL_law_391 ⟨by omega, by omega⟩ (fun r391 τ391 hp391 => ?_)
  obtain ⟨hr2, hK2⟩ := hp391
  refine zv_eqi (y := zI (-1)) hr2 ?_
  have hR2 : zRel τ391 _ := ⟨zCP_fr hC1 hK2.2.2, hK2.1⟩
  refine zv_icmp_eq (tgt := 3624) C dL_law_394 (by decide) (fun h394 => ?_) (fun h394 => ?_)
  · skip
    refine zv_sub (lv' := [(0, .ref b0), (1, .ref (ob E 0)), (2, .ref (ob E 327)), (3, .ref (ob E 339)), (4, .ref (ob E 340)), (5, .int (zI (i : Int)))]) [0, 1, 2, 3, 4, 5] (zcons rfl (zcons rfl (zcons rfl (zcons rfl (zcons rfl (zcons rfl rfl)))))) ?_
    exact kk _ _ _ _ (by omega) (by omega) hR2
  · exfalso
    exact h394 rfl
set_option maxRecDepth 20000 in
theorem lw_errorCode {p : Program} {l : Launch} {e : Env} {s : State} {m : MethodId} {args : Array Value} {below : List Frame} {meth : Method} {c : Code} {E : zE} {Q : State → Prop} {b0 L i ce sl : Nat} {xs : Nat → Int32} {σ : zS} (ni : Nat) (tx : Nat → Int) (ec : Nat) (eo : Int) (U : zSU) (S : zST) (hh : List zST) (kp : Option zST) (ou : List Nat)  (W : zLW p l s m args meth c E b0 L xs) (hi : i + 6 ≤ L) (hcs : ce + 1 ≤ room_1.cells ∧ sl + 6 ≤ room_1.slots) (hR : zRel σ (zDv.mk ni tx ec eo U S hh kp ou))    (kk : zNx p l e s m args below meth c E Q b0 i ce sl) : zV p l e room_1 s m args below meth c 9 E Q ce sl σ 399 (lwL b0 i E) [] := by
  refine (?_ : zV p l e room_1 s m args below meth c 9 E Q ce sl σ 399 [(0, .ref b0), (1, .ref (ob E 0)), (2, .ref (ob E 327)), (3, .ref (ob E 339)), (4, .ref (ob E 340)), (5, .int (zI (i : Int)))] [])
  have C := W.2.1
  have hfl := W.1
  have hroom : room_1.cells = 601024 ∧ room_1.slots = 7293034 := ⟨rfl, rfl⟩
  refine zv_aload_n C 1 dL_law_399 rfl rfl ?_
  refine zv_cvi (st := []) C (c_X10_errorCode hfl E σ ) mX10_errorCode kL_186 (by decide : kd 0 = 9) rfl rfl rfl ⟨rfl, rfl⟩ (show zfit (zrm 0 0) 1 room_1 = true from rfl) (Nat.le_of_ble_eq_true rfl) dL_law_400 ⟨by omega, by omega⟩ (fun r400 τ400 hp400 => ?_)
  obtain ⟨hr1, hW1⟩ := hp400
  have hR1 : zRel τ400 (zDv.mk ni tx ec eo U S hh kp ou) := by rw [hW1]; exact hR
  refine zv_eqi (y := zI (ec : Int)) (hr1.trans hR.1.2.1.1) ?_
  refine zv_aload_n C 2 dL_law_403 rfl rfl ?_
  refine zv_cvi (st := [.int (zI (ec : Int))]) C (c_X11_errorCode hfl E τ400 (ec : Int) hR1.2.2.1.1) mX11_errorCode kL_189 (by decide : kd 327 = 10) rfl rfl rfl ⟨rfl, rfl⟩ (show zfit (zrm 0 0) 1 room_1 = true from rfl) (Nat.le_of_ble_eq_true rfl) dL_law_404 ⟨by omega, by omega⟩ (fun r404 τ404 hp404 => ?_)
  obtain ⟨hr2, hK2⟩ := hp404
  refine zv_eqi (y := zI (ec : Int)) hr2 ?_
  have hR2 : zRel τ404 (zDv.mk ni tx ec eo U S hh kp ou) := zRel_m hR1 hK2
  refine zv_icmp_eq (tgt := 3624) C dL_law_407 (by decide) (fun h407 => ?_) (fun h407 => ?_)
  · skip
    refine zv_sub (lv' := [(0, .ref b0), (1, .ref (ob E 0)), (2, .ref (ob E 327)), (3, .ref (ob E 339)), (4, .ref (ob E 340)), (5, .int (zI (i : Int)))]) [0, 1, 2, 3, 4, 5] (zcons rfl (zcons rfl (zcons rfl (zcons rfl (zcons rfl (zcons rfl rfl)))))) ?_
    exact kk _ _ _ _ (by omega) (by omega) hR2
  · exfalso
    exact h407 rfl
set_option maxRecDepth 20000 in
theorem lw_errorOffset {p : Program} {l : Launch} {e : Env} {s : State} {m : MethodId} {args : Array Value} {below : List Frame} {meth : Method} {c : Code} {E : zE} {Q : State → Prop} {b0 L i ce sl : Nat} {xs : Nat → Int32} {σ : zS} (ni : Nat) (tx : Nat → Int) (ec : Nat) (eo : Int) (U : zSU) (S : zST) (hh : List zST) (kp : Option zST) (ou : List Nat)  (W : zLW p l s m args meth c E b0 L xs) (hi : i + 6 ≤ L) (hcs : ce + 1 ≤ room_1.cells ∧ sl + 6 ≤ room_1.slots) (hR : zRel σ (zDv.mk ni tx ec eo U S hh kp ou))    (kk : zNx p l e s m args below meth c E Q b0 i ce sl) : zV p l e room_1 s m args below meth c 9 E Q ce sl σ 412 (lwL b0 i E) [] := by
  refine (?_ : zV p l e room_1 s m args below meth c 9 E Q ce sl σ 412 [(0, .ref b0), (1, .ref (ob E 0)), (2, .ref (ob E 327)), (3, .ref (ob E 339)), (4, .ref (ob E 340)), (5, .int (zI (i : Int)))] [])
  have C := W.2.1
  have hfl := W.1
  have hroom : room_1.cells = 601024 ∧ room_1.slots = 7293034 := ⟨rfl, rfl⟩
  refine zv_aload_n C 1 dL_law_412 rfl rfl ?_
  refine zv_cvi (st := []) C (c_X10_errorOffset hfl E σ ) mX10_errorOffset kL_190 (by decide : kd 0 = 9) rfl rfl rfl ⟨rfl, rfl⟩ (show zfit (zrm 0 0) 1 room_1 = true from rfl) (Nat.le_of_ble_eq_true rfl) dL_law_413 ⟨by omega, by omega⟩ (fun r413 τ413 hp413 => ?_)
  obtain ⟨hr1, hW1⟩ := hp413
  have hR1 : zRel τ413 (zDv.mk ni tx ec eo U S hh kp ou) := by rw [hW1]; exact hR
  refine zv_eqi (y := zI eo) (hr1.trans hR.1.2.1.2) ?_
  refine zv_aload_n C 2 dL_law_416 rfl rfl ?_
  refine zv_cvi (st := [.int (zI eo)]) C (c_X11_errorOffset hfl E τ413 eo hR1.2.2.1.2) mX11_errorOffset kL_193 (by decide : kd 327 = 10) rfl rfl rfl ⟨rfl, rfl⟩ (show zfit (zrm 0 0) 1 room_1 = true from rfl) (Nat.le_of_ble_eq_true rfl) dL_law_417 ⟨by omega, by omega⟩ (fun r417 τ417 hp417 => ?_)
  obtain ⟨hr2, hK2⟩ := hp417
  refine zv_eqi (y := zI eo) hr2 ?_
  have hR2 : zRel τ417 (zDv.mk ni tx ec eo U S hh kp ou) := zRel_m hR1 hK2
  refine zv_icmp_eq (tgt := 3624) C dL_law_420 (by decide) (fun h420 => ?_) (fun h420 => ?_)
  · skip
    refine zv_sub (lv' := [(0, .ref b0), (1, .ref (ob E 0)), (2, .ref (ob E 327)), (3, .ref (ob E 339)), (4, .ref (ob E 340)), (5, .int (zI (i : Int)))]) [0, 1, 2, 3, 4, 5] (zcons rfl (zcons rfl (zcons rfl (zcons rfl (zcons rfl (zcons rfl rfl)))))) ?_
    exact kk _ _ _ _ (by omega) (by omega) hR2
  · exfalso
    exact h420 rfl
set_option maxRecDepth 20000 in
theorem lw_removeStock_1 {p : Program} {l : Launch} {e : Env} {s : State} {m : MethodId} {args : Array Value} {below : List Frame} {meth : Method} {c : Code} {E : zE} {Q : State → Prop} {b0 L i ce sl : Nat} {xs : Nat → Int32} {σ : zS} (ni : Nat) (tx : Nat → Int) (ec : Nat) (eo : Int) (U : zSU) (S : zST) (hh : List zST) (kp : Option zST) (ou : List Nat) (v1 : Int) (W : zLW p l s m args meth c E b0 L xs) (hi : i + 6 ≤ L) (hcs : ce + 1 ≤ room_1.cells ∧ sl + 6 ≤ room_1.slots) (hR : zRel σ (zDv.mk ni tx ec eo U S hh kp ou)) (hx1 : xs (i + 1) = (zI v1)) (htt0 : -2147483648 ≤ v1 ∧ v1 < 2147483648) (hok1 : sHas S.f v1 S.n = true)  (kk : zNx p l e s m args below meth c E Q b0 i ce sl) : zV p l e room_1 s m args below meth c 9 E Q ce sl σ 2114 (lwL b0 i E) [] := by
  refine (?_ : zV p l e room_1 s m args below meth c 9 E Q ce sl σ 2114 [(0, .ref b0), (1, .ref (ob E 0)), (2, .ref (ob E 327)), (3, .ref (ob E 339)), (4, .ref (ob E 340)), (5, .int (zI (i : Int)))] [])
  have C := W.2.1
  have hfl := W.1
  have hroom : room_1.cells = 601024 ∧ room_1.slots = 7293034 := ⟨rfl, rfl⟩
  refine zv_aload_n C 1 dL_law_2114 rfl rfl ?_
  refine zv_aload_n C 0 dL_law_2115 rfl rfl ?_
  refine zv_iload C 5 dL_law_2116 rfl ?_
  refine zv_iconst (v := zI 1) C dL_law_2118 rfl ?_
  refine zv_iaddZ C dL_law_2119 ?_
  refine zv_sld (j := i + 1) (v := (zI v1)) C W.2.2.1 W.2.2.2.1 W.2.2.2.2.1 W.2.2.2.2.2 (zI_ix (by omega)) (by omega) hx1 dL_law_2120 ?_
  refine zv_cvi (st := []) C (c_X10_removeStock hfl E σ ni tx ec eo U S hh kp ou v1 hR.1 (by first | assumption | omega) (by first | assumption | omega)) mX10_removeStock kL_281 (by decide : kd 0 = 9) rfl rfl rfl ⟨rfl, rfl⟩ (show zfit (zrm 4 126) 2 room_1 = true from rfl) (Nat.le_of_ble_eq_true rfl) dL_law_2121 ⟨by omega, by omega⟩ (fun r2121 τ2121 hp2121 => ?_)
  obtain ⟨hr1, hC1, hF1⟩ := hp2121
  have hM1 : zMP τ2121 (zDv.mk ni tx ec eo U S hh kp ou) := zMP_fr hR.2 hF1
  refine zv_eqi (y := zI 1) hr1 ?_
  refine zv_aload_n C 2 dL_law_2124 rfl rfl ?_
  refine zv_aload_n C 0 dL_law_2125 rfl rfl ?_
  refine zv_iload C 5 dL_law_2126 rfl ?_
  refine zv_iconst (v := zI 1) C dL_law_2128 rfl ?_
  refine zv_iaddZ C dL_law_2129 ?_
  refine zv_sld (j := i + 1) (v := (zI v1)) C W.2.2.1 W.2.2.2.1 W.2.2.2.2.1 W.2.2.2.2.2 (zI_ix (by omega)) (by omega) hx1 dL_law_2130 ?_
  refine zv_cvi (st := [.int (zI 1)]) C (c_X11_removeStock hfl E τ2121 σ ni tx ec eo U S hh kp ou v1 hM1 hR.1.2.2.1 hR.1.2.2.2.1.1 (by first | assumption | omega) (by first | assumption | omega)) mX11_removeStock kL_284 (by decide : kd 327 = 10) rfl rfl rfl ⟨rfl, rfl⟩ (show zfit (zrm 1 22) 3 room_1 = true from rfl) (Nat.le_of_ble_eq_true rfl) dL_law_2131 ⟨by omega, by omega⟩ (fun r2131 τ2131 hp2131 => ?_)
  obtain ⟨hr2, hK2⟩ := hp2131
  refine zv_eqi (y := zI 1) hr2 ?_
  have hR2 : zRel τ2131 _ := ⟨zCP_fr hC1 hK2.2.2, hK2.1⟩
  refine zv_icmp_eq (tgt := 3624) C dL_law_2134 (by decide) (fun h2134 => ?_) (fun h2134 => ?_)
  · skip
    refine zv_sub (lv' := [(0, .ref b0), (1, .ref (ob E 0)), (2, .ref (ob E 327)), (3, .ref (ob E 339)), (4, .ref (ob E 340)), (5, .int (zI (i : Int)))]) [0, 1, 2, 3, 4, 5] (zcons rfl (zcons rfl (zcons rfl (zcons rfl (zcons rfl (zcons rfl rfl)))))) ?_
    exact kk _ _ _ _ (by omega) (by omega) hR2
  · exfalso
    exact h2134 rfl
set_option maxRecDepth 20000 in
theorem lw_removeStock_0 {p : Program} {l : Launch} {e : Env} {s : State} {m : MethodId} {args : Array Value} {below : List Frame} {meth : Method} {c : Code} {E : zE} {Q : State → Prop} {b0 L i ce sl : Nat} {xs : Nat → Int32} {σ : zS} (ni : Nat) (tx : Nat → Int) (ec : Nat) (eo : Int) (U : zSU) (S : zST) (hh : List zST) (kp : Option zST) (ou : List Nat) (v1 : Int) (W : zLW p l s m args meth c E b0 L xs) (hi : i + 6 ≤ L) (hcs : ce + 1 ≤ room_1.cells ∧ sl + 6 ≤ room_1.slots) (hR : zRel σ (zDv.mk ni tx ec eo U S hh kp ou)) (hx1 : xs (i + 1) = (zI v1)) (htt0 : -2147483648 ≤ v1 ∧ v1 < 2147483648) (hno1 : ¬ sHas S.f v1 S.n = true)  (kk : zNx p l e s m args below meth c E Q b0 i ce sl) : zV p l e room_1 s m args below meth c 9 E Q ce sl σ 2114 (lwL b0 i E) [] := by
  refine (?_ : zV p l e room_1 s m args below meth c 9 E Q ce sl σ 2114 [(0, .ref b0), (1, .ref (ob E 0)), (2, .ref (ob E 327)), (3, .ref (ob E 339)), (4, .ref (ob E 340)), (5, .int (zI (i : Int)))] [])
  have C := W.2.1
  have hfl := W.1
  have hroom : room_1.cells = 601024 ∧ room_1.slots = 7293034 := ⟨rfl, rfl⟩
  refine zv_aload_n C 1 dL_law_2114 rfl rfl ?_
  refine zv_aload_n C 0 dL_law_2115 rfl rfl ?_
  refine zv_iload C 5 dL_law_2116 rfl ?_
  refine zv_iconst (v := zI 1) C dL_law_2118 rfl ?_
  refine zv_iaddZ C dL_law_2119 ?_
  refine zv_sld (j := i + 1) (v := (zI v1)) C W.2.2.1 W.2.2.2.1 W.2.2.2.2.1 W.2.2.2.2.2 (zI_ix (by omega)) (by omega) hx1 dL_law_2120 ?_
  refine zv_cvi (st := []) C (c0_X10_removeStock hfl E σ S v1 hR.1.2.2.2.1.1 (by first | assumption | omega) (by first | assumption | omega)) mX10_removeStock kL_281 (by decide : kd 0 = 9) rfl rfl rfl ⟨rfl, rfl⟩ (show zfit (zrm 4 126) 2 room_1 = true from rfl) (Nat.le_of_ble_eq_true rfl) dL_law_2121 ⟨by omega, by omega⟩ (fun r2121 τ2121 hp2121 => ?_)
  obtain ⟨hr1, hW1⟩ := hp2121
  have hR1 : zRel τ2121 (zDv.mk ni tx ec eo U S hh kp ou) := by rw [hW1]; exact hR
  refine zv_eqi (y := zI 0) hr1 ?_
  refine zv_aload_n C 2 dL_law_2124 rfl rfl ?_
  refine zv_aload_n C 0 dL_law_2125 rfl rfl ?_
  refine zv_iload C 5 dL_law_2126 rfl ?_
  refine zv_iconst (v := zI 1) C dL_law_2128 rfl ?_
  refine zv_iaddZ C dL_law_2129 ?_
  refine zv_sld (j := i + 1) (v := (zI v1)) C W.2.2.1 W.2.2.2.1 W.2.2.2.2.1 W.2.2.2.2.2 (zI_ix (by omega)) (by omega) hx1 dL_law_2130 ?_
  refine zv_cvi (st := [.int (zI 0)]) C (c0_X11_removeStock hfl E τ2121 σ U S v1 hR1.2.2.2.1 hR.1.2.2.1 hR1.2.2.2.2.2.1.1 hR.1.2.2.2.1.1 (by first | assumption | omega) (by first | assumption | omega)) mX11_removeStock kL_284 (by decide : kd 327 = 10) rfl rfl rfl ⟨rfl, rfl⟩ (show zfit (zrm 1 22) 3 room_1 = true from rfl) (Nat.le_of_ble_eq_true rfl) dL_law_2131 ⟨by omega, by omega⟩ (fun r2131 τ2131 hp2131 => ?_)
  obtain ⟨hr2, hK2⟩ := hp2131
  refine zv_eqi (y := zI 0) hr2 ?_
  have hR2 : zRel τ2131 (zDv.mk ni tx ec eo U S hh kp ou) := zRel_m hR1 hK2
  refine zv_icmp_eq (tgt := 3624) C dL_law_2134 (by decide) (fun h2134 => ?_) (fun h2134 => ?_)
  · skip
    refine zv_sub (lv' := [(0, .ref b0), (1, .ref (ob E 0)), (2, .ref (ob E 327)), (3, .ref (ob E 339)), (4, .ref (ob E 340)), (5, .int (zI (i : Int)))]) [0, 1, 2, 3, 4, 5] (zcons rfl (zcons rfl (zcons rfl (zcons rfl (zcons rfl (zcons rfl rfl)))))) ?_
    exact kk _ _ _ _ (by omega) (by omega) hR2
  · exfalso
    exact h2134 rfl
set_option maxRecDepth 20000 in
theorem lw_uses {p : Program} {l : Launch} {e : Env} {s : State} {m : MethodId} {args : Array Value} {below : List Frame} {meth : Method} {c : Code} {E : zE} {Q : State → Prop} {b0 L i ce sl : Nat} {xs : Nat → Int32} {σ : zS} (ni : Nat) (tx : Nat → Int) (ec : Nat) (eo : Int) (U : zSU) (S : zST) (hh : List zST) (kp : Option zST) (ou : List Nat) (v1 : Int) (W : zLW p l s m args meth c E b0 L xs) (hi : i + 6 ≤ L) (hcs : ce + 1 ≤ room_1.cells ∧ sl + 6 ≤ room_1.slots) (hR : zRel σ (zDv.mk ni tx ec eo U S hh kp ou)) (hx1 : xs (i + 1) = (zI v1)) (ht0 : -2147483648 ≤ v1 ∧ v1 < 2147483648)  (kk : zNx p l e s m args below meth c E Q b0 i ce sl) : zV p l e room_1 s m args below meth c 9 E Q ce sl σ 3210 (lwL b0 i E) [] := by
  refine (?_ : zV p l e room_1 s m args below meth c 9 E Q ce sl σ 3210 [(0, .ref b0), (1, .ref (ob E 0)), (2, .ref (ob E 327)), (3, .ref (ob E 339)), (4, .ref (ob E 340)), (5, .int (zI (i : Int)))] [])
  have C := W.2.1
  have hfl := W.1
  have hroom : room_1.cells = 601024 ∧ room_1.slots = 7293034 := ⟨rfl, rfl⟩
  refine zv_aload_n C 1 dL_law_3210 rfl rfl ?_
  refine zv_aload_n C 0 dL_law_3211 rfl rfl ?_
  refine zv_iload C 5 dL_law_3212 rfl ?_
  refine zv_iconst (v := zI 1) C dL_law_3214 rfl ?_
  refine zv_iaddZ C dL_law_3215 ?_
  refine zv_sld (j := i + 1) (v := (zI v1)) C W.2.2.1 W.2.2.2.1 W.2.2.2.2.1 W.2.2.2.2.2 (zI_ix (by omega)) (by omega) hx1 dL_law_3216 ?_
  refine zv_cvi (st := []) C (c_X10_uses hfl E σ U S v1 hR.1.2.2.1 hR.1.2.2.2.1.1 (by first | assumption | omega)) mX10_uses kL_334 (by decide : kd 0 = 9) rfl rfl rfl ⟨rfl, rfl⟩ (show zfit (zrm 3 67) 4 room_1 = true from rfl) (Nat.le_of_ble_eq_true rfl) dL_law_3217 ⟨by omega, by omega⟩ (fun r3217 τ3217 hp3217 => ?_)
  obtain ⟨hr1, hW1⟩ := hp3217
  have hR1 : zRel τ3217 (zDv.mk ni tx ec eo U S hh kp ou) := by rw [hW1]; exact hR
  refine zv_eqi (y := zI (dUse S v1 U.nb : Int)) hr1 ?_
  refine zv_aload_n C 2 dL_law_3220 rfl rfl ?_
  refine zv_aload_n C 0 dL_law_3221 rfl rfl ?_
  refine zv_iload C 5 dL_law_3222 rfl ?_
  refine zv_iconst (v := zI 1) C dL_law_3224 rfl ?_
  refine zv_iaddZ C dL_law_3225 ?_
  refine zv_sld (j := i + 1) (v := (zI v1)) C W.2.2.1 W.2.2.2.1 W.2.2.2.2.1 W.2.2.2.2.2 (zI_ix (by omega)) (by omega) hx1 dL_law_3226 ?_
  refine zv_cvi (st := [.int (zI (dUse S v1 U.nb : Int))]) C (c_X11_uses hfl E τ3217 σ U S v1 hR1.2.2.2.1 hR.1.2.2.1 hR1.2.2.2.2.2.1.1 hR.1.2.2.2.1.1 (by first | assumption | omega)) mX11_uses kL_337 (by decide : kd 327 = 10) rfl rfl rfl ⟨rfl, rfl⟩ (show zfit (zrm 2 44) 5 room_1 = true from rfl) (Nat.le_of_ble_eq_true rfl) dL_law_3227 ⟨by omega, by omega⟩ (fun r3227 τ3227 hp3227 => ?_)
  obtain ⟨hr2, hK2⟩ := hp3227
  refine zv_eqi (y := zI (dUse S v1 U.nb : Int)) hr2 ?_
  have hR2 : zRel τ3227 (zDv.mk ni tx ec eo U S hh kp ou) := zRel_m hR1 hK2
  refine zv_icmp_eq (tgt := 3624) C dL_law_3230 (by decide) (fun h3230 => ?_) (fun h3230 => ?_)
  · skip
    refine zv_sub (lv' := [(0, .ref b0), (1, .ref (ob E 0)), (2, .ref (ob E 327)), (3, .ref (ob E 339)), (4, .ref (ob E 340)), (5, .int (zI (i : Int)))]) [0, 1, 2, 3, 4, 5] (zcons rfl (zcons rfl (zcons rfl (zcons rfl (zcons rfl (zcons rfl rfl)))))) ?_
    exact kk _ _ _ _ (by omega) (by omega) hR2
  · exfalso
    exact h3230 rfl
set_option maxRecDepth 20000 in
theorem lw_outputByte_1 {p : Program} {l : Launch} {e : Env} {s : State} {m : MethodId} {args : Array Value} {below : List Frame} {meth : Method} {c : Code} {E : zE} {Q : State → Prop} {b0 L i ce sl : Nat} {xs : Nat → Int32} {σ : zS} (ni : Nat) (tx : Nat → Int) (ec : Nat) (eo : Int) (U : zSU) (S : zST) (hh : List zST) (kp : Option zST) (ou : List Nat) (n1 : Nat) (W : zLW p l s m args meth c E b0 L xs) (hi : i + 6 ≤ L) (hcs : ce + 1 ≤ room_1.cells ∧ sl + 6 ≤ room_1.slots) (hR : zRel σ (zDv.mk ni tx ec eo U S hh kp ou)) (hx1 : xs (i + 1) = (zI (n1 : Int))) (hyi0 : -2147483648 ≤ (n1 : Int) ∧ (n1 : Int) < 2147483648) (hj9 : n1 < ou.length) (kk : zNx p l e s m args below meth c E Q b0 i ce sl) : zV p l e room_1 s m args below meth c 9 E Q ce sl σ 3529 (lwL b0 i E) [] := by
  refine (?_ : zV p l e room_1 s m args below meth c 9 E Q ce sl σ 3529 [(0, .ref b0), (1, .ref (ob E 0)), (2, .ref (ob E 327)), (3, .ref (ob E 339)), (4, .ref (ob E 340)), (5, .int (zI (i : Int)))] [])
  have C := W.2.1
  have hfl := W.1
  have hroom : room_1.cells = 601024 ∧ room_1.slots = 7293034 := ⟨rfl, rfl⟩
  refine zv_aload_n C 1 dL_law_3529 rfl rfl ?_
  refine zv_aload_n C 0 dL_law_3530 rfl rfl ?_
  refine zv_iload C 5 dL_law_3531 rfl ?_
  refine zv_iconst (v := zI 1) C dL_law_3533 rfl ?_
  refine zv_iaddZ C dL_law_3534 ?_
  refine zv_sld (j := i + 1) (v := (zI (n1 : Int))) C W.2.2.1 W.2.2.2.1 W.2.2.2.2.1 W.2.2.2.2.2 (zI_ix (by omega)) (by omega) hx1 dL_law_3535 ?_
  refine zv_cvi (st := []) C (c_X10_outputByte hfl E σ ou.length (n1 : Int) hR.1.2.2.2.2.2.2.1 hR.1.2.2.2.2.2.2.2.1 (by first | assumption | omega)) mX10_outputByte kL_351 (by decide : kd 0 = 9) rfl rfl rfl ⟨rfl, rfl⟩ (show zfit (zrm 0 0) 2 room_1 = true from rfl) (Nat.le_of_ble_eq_true rfl) dL_law_3536 ⟨by omega, by omega⟩ (fun r3536 τ3536 hp3536 => ?_)
  obtain ⟨hr1, hW1⟩ := hp3536
  have hR1 : zRel τ3536 (zDv.mk ni tx ec eo U S hh kp ou) := by rw [hW1]; exact hR
  refine zv_eqi (y := zI ((ou.getD n1 0 : Nat) : Int)) (hr1.trans ((if_pos ⟨by omega, by omega⟩).trans (hR.1.2.2.2.2.2.2.2.2 n1 hj9))) ?_
  refine zv_aload_n C 2 dL_law_3539 rfl rfl ?_
  refine zv_aload_n C 0 dL_law_3540 rfl rfl ?_
  refine zv_iload C 5 dL_law_3541 rfl ?_
  refine zv_iconst (v := zI 1) C dL_law_3543 rfl ?_
  refine zv_iaddZ C dL_law_3544 ?_
  refine zv_sld (j := i + 1) (v := (zI (n1 : Int))) C W.2.2.1 W.2.2.2.1 W.2.2.2.2.1 W.2.2.2.2.2 (zI_ix (by omega)) (by omega) hx1 dL_law_3545 ?_
  refine zv_cvi (st := [.int (zI ((ou.getD n1 0 : Nat) : Int))]) C (c_X11_outputByte hfl E τ3536 ou n1 hR1.2.2.2.2.2.2.2.2 (by first | assumption | omega)) mX11_outputByte kL_354 (by decide : kd 327 = 10) rfl rfl rfl ⟨rfl, rfl⟩ (show zfit (zrm 1 25) 2 room_1 = true from rfl) (Nat.le_of_ble_eq_true rfl) dL_law_3546 ⟨by omega, by omega⟩ (fun r3546 τ3546 hp3546 => ?_)
  obtain ⟨hr2, hK2⟩ := hp3546
  refine zv_eqi (y := zI ((ou.getD n1 0 : Nat) : Int)) hr2 ?_
  have hR2 : zRel τ3546 (zDv.mk ni tx ec eo U S hh kp ou) := zRel_m hR1 hK2
  refine zv_icmp_eq (tgt := 3624) C dL_law_3549 (by decide) (fun h3549 => ?_) (fun h3549 => ?_)
  · skip
    refine zv_sub (lv' := [(0, .ref b0), (1, .ref (ob E 0)), (2, .ref (ob E 327)), (3, .ref (ob E 339)), (4, .ref (ob E 340)), (5, .int (zI (i : Int)))]) [0, 1, 2, 3, 4, 5] (zcons rfl (zcons rfl (zcons rfl (zcons rfl (zcons rfl (zcons rfl rfl)))))) ?_
    exact kk _ _ _ _ (by omega) (by omega) hR2
  · exfalso
    exact h3549 rfl
set_option maxRecDepth 20000 in
theorem lw_outputByte_0 {p : Program} {l : Launch} {e : Env} {s : State} {m : MethodId} {args : Array Value} {below : List Frame} {meth : Method} {c : Code} {E : zE} {Q : State → Prop} {b0 L i ce sl : Nat} {xs : Nat → Int32} {σ : zS} (ni : Nat) (tx : Nat → Int) (ec : Nat) (eo : Int) (U : zSU) (S : zST) (hh : List zST) (kp : Option zST) (ou : List Nat) (v1 : Int) (W : zLW p l s m args meth c E b0 L xs) (hi : i + 6 ≤ L) (hcs : ce + 1 ≤ room_1.cells ∧ sl + 6 ≤ room_1.slots) (hR : zRel σ (zDv.mk ni tx ec eo U S hh kp ou)) (hx1 : xs (i + 1) = (zI v1)) (hyi0 : -2147483648 ≤ v1 ∧ v1 < 2147483648) (hno : ¬ (0 ≤ v1 ∧ v1 < ou.length)) (kk : zNx p l e s m args below meth c E Q b0 i ce sl) : zV p l e room_1 s m args below meth c 9 E Q ce sl σ 3529 (lwL b0 i E) [] := by
  refine (?_ : zV p l e room_1 s m args below meth c 9 E Q ce sl σ 3529 [(0, .ref b0), (1, .ref (ob E 0)), (2, .ref (ob E 327)), (3, .ref (ob E 339)), (4, .ref (ob E 340)), (5, .int (zI (i : Int)))] [])
  have C := W.2.1
  have hfl := W.1
  have hroom : room_1.cells = 601024 ∧ room_1.slots = 7293034 := ⟨rfl, rfl⟩
  refine zv_aload_n C 1 dL_law_3529 rfl rfl ?_
  refine zv_aload_n C 0 dL_law_3530 rfl rfl ?_
  refine zv_iload C 5 dL_law_3531 rfl ?_
  refine zv_iconst (v := zI 1) C dL_law_3533 rfl ?_
  refine zv_iaddZ C dL_law_3534 ?_
  refine zv_sld (j := i + 1) (v := (zI v1)) C W.2.2.1 W.2.2.2.1 W.2.2.2.2.1 W.2.2.2.2.2 (zI_ix (by omega)) (by omega) hx1 dL_law_3535 ?_
  refine zv_cvi (st := []) C (c_X10_outputByte hfl E σ ou.length v1 hR.1.2.2.2.2.2.2.1 hR.1.2.2.2.2.2.2.2.1 (by first | assumption | omega)) mX10_outputByte kL_351 (by decide : kd 0 = 9) rfl rfl rfl ⟨rfl, rfl⟩ (show zfit (zrm 0 0) 2 room_1 = true from rfl) (Nat.le_of_ble_eq_true rfl) dL_law_3536 ⟨by omega, by omega⟩ (fun r3536 τ3536 hp3536 => ?_)
  obtain ⟨hr1, hW1⟩ := hp3536
  have hR1 : zRel τ3536 (zDv.mk ni tx ec eo U S hh kp ou) := by rw [hW1]; exact hR
  refine zv_eqi (y := zI (-1)) (hr1.trans (if_neg hno)) ?_
  refine zv_aload_n C 2 dL_law_3539 rfl rfl ?_
  refine zv_aload_n C 0 dL_law_3540 rfl rfl ?_
  refine zv_iload C 5 dL_law_3541 rfl ?_
  refine zv_iconst (v := zI 1) C dL_law_3543 rfl ?_
  refine zv_iaddZ C dL_law_3544 ?_
  refine zv_sld (j := i + 1) (v := (zI v1)) C W.2.2.1 W.2.2.2.1 W.2.2.2.2.1 W.2.2.2.2.2 (zI_ix (by omega)) (by omega) hx1 dL_law_3545 ?_
  refine zv_cvi (st := [.int (zI (-1))]) C (c0_X11_outputByte hfl E τ3536 ou v1 hR1.2.2.2.2.2.2.2.2 (by first | assumption | omega) (by first | assumption | omega)) mX11_outputByte kL_354 (by decide : kd 327 = 10) rfl rfl rfl ⟨rfl, rfl⟩ (show zfit (zrm 1 25) 2 room_1 = true from rfl) (Nat.le_of_ble_eq_true rfl) dL_law_3546 ⟨by omega, by omega⟩ (fun r3546 τ3546 hp3546 => ?_)
  obtain ⟨hr2, hK2⟩ := hp3546
  refine zv_eqi (y := zI (-1)) hr2 ?_
  have hR2 : zRel τ3546 (zDv.mk ni tx ec eo U S hh kp ou) := zRel_m hR1 hK2
  refine zv_icmp_eq (tgt := 3624) C dL_law_3549 (by decide) (fun h3549 => ?_) (fun h3549 => ?_)
  · skip
    refine zv_sub (lv' := [(0, .ref b0), (1, .ref (ob E 0)), (2, .ref (ob E 327)), (3, .ref (ob E 339)), (4, .ref (ob E 340)), (5, .int (zI (i : Int)))]) [0, 1, 2, 3, 4, 5] (zcons rfl (zcons rfl (zcons rfl (zcons rfl (zcons rfl (zcons rfl rfl)))))) ?_
    exact kk _ _ _ _ (by omega) (by omega) hR2
  · exfalso
    exact h3549 rfl
set_option maxRecDepth 20000 in
theorem lw_undo_0 {p : Program} {l : Launch} {e : Env} {s : State} {m : MethodId} {args : Array Value} {below : List Frame} {meth : Method} {c : Code} {E : zE} {Q : State → Prop} {b0 L i ce sl : Nat} {xs : Nat → Int32} {σ : zS} (ni : Nat) (tx : Nat → Int) (ec : Nat) (eo : Int) (U : zSU) (S : zST) (kp : Option zST) (ou : List Nat)  (W : zLW p l s m args meth c E b0 L xs) (hi : i + 6 ≤ L) (hcs : ce + 1 ≤ room_1.cells ∧ sl + 6 ≤ room_1.slots) (hR : zRel σ (zDv.mk ni tx ec eo U S [] kp ou))    (kk : zNx p l e s m args below meth c E Q b0 i ce sl) : zV p l e room_1 s m args below meth c 9 E Q ce sl σ 3554 (lwL b0 i E) [] := by
  refine (?_ : zV p l e room_1 s m args below meth c 9 E Q ce sl σ 3554 [(0, .ref b0), (1, .ref (ob E 0)), (2, .ref (ob E 327)), (3, .ref (ob E 339)), (4, .ref (ob E 340)), (5, .int (zI (i : Int)))] [])
  have C := W.2.1
  have hfl := W.1
  have hroom : room_1.cells = 601024 ∧ room_1.slots = 7293034 := ⟨rfl, rfl⟩
  refine zv_aload_n C 1 dL_law_3554 rfl rfl ?_
  refine zv_cvi (st := []) C (c0_X10_undo hfl E σ ni tx ec eo U S kp ou hR.1) mX10_undo kL_355 (by decide : kd 0 = 9) rfl rfl rfl ⟨rfl, rfl⟩ (show zfit (zrm 4 124) 1 room_1 = true from rfl) (Nat.le_of_ble_eq_true rfl) dL_law_3555 ⟨by omega, by omega⟩ (fun r3555 τ3555 hp3555 => ?_)
  obtain ⟨hr1, hW1⟩ := hp3555
  have hR1 : zRel τ3555 (zDv.mk ni tx ec eo U S [] kp ou) := by rw [hW1]; exact hR
  refine zv_eqi (y := zI (-1)) hr1 ?_
  refine zv_aload_n C 2 dL_law_3558 rfl rfl ?_
  refine zv_cvi (st := [.int (zI (-1))]) C (c0_X11_undo hfl E τ3555 ni tx ec eo U S kp ou hR1.2) mX11_undo kL_358 (by decide : kd 327 = 10) rfl rfl rfl ⟨rfl, rfl⟩ (show zfit (zrm 0 0) 1 room_1 = true from rfl) (Nat.le_of_ble_eq_true rfl) dL_law_3559 ⟨by omega, by omega⟩ (fun r3559 τ3559 hp3559 => ?_)
  obtain ⟨hr2, hK2⟩ := hp3559
  refine zv_eqi (y := zI (-1)) hr2 ?_
  have hR2 : zRel τ3559 (zDv.mk ni tx ec eo U S [] kp ou) := zRel_m hR1 hK2
  refine zv_icmp_eq (tgt := 3624) C dL_law_3562 (by decide) (fun h3562 => ?_) (fun h3562 => ?_)
  · skip
    refine zv_sub (lv' := [(0, .ref b0), (1, .ref (ob E 0)), (2, .ref (ob E 327)), (3, .ref (ob E 339)), (4, .ref (ob E 340)), (5, .int (zI (i : Int)))]) [0, 1, 2, 3, 4, 5] (zcons rfl (zcons rfl (zcons rfl (zcons rfl (zcons rfl (zcons rfl rfl)))))) ?_
    exact kk _ _ _ _ (by omega) (by omega) hR2
  · exfalso
    exact h3562 rfl
set_option maxRecDepth 20000 in
theorem lw_undo_1 {p : Program} {l : Launch} {e : Env} {s : State} {m : MethodId} {args : Array Value} {below : List Frame} {meth : Method} {c : Code} {E : zE} {Q : State → Prop} {b0 L i ce sl : Nat} {xs : Nat → Int32} {σ : zS} (ni : Nat) (tx : Nat → Int) (ec : Nat) (eo : Int) (U : zSU) (S : zST) (kp : Option zST) (ou : List Nat) (S1 : zST) (h1 : List zST)  (W : zLW p l s m args meth c E b0 L xs) (hi : i + 6 ≤ L) (hcs : ce + 1 ≤ room_1.cells ∧ sl + 6 ≤ room_1.slots) (hR : zRel σ (zDv.mk ni tx ec eo U S (S1 :: h1) kp ou))    (kk : zNx p l e s m args below meth c E Q b0 i ce sl) : zV p l e room_1 s m args below meth c 9 E Q ce sl σ 3554 (lwL b0 i E) [] := by
  refine (?_ : zV p l e room_1 s m args below meth c 9 E Q ce sl σ 3554 [(0, .ref b0), (1, .ref (ob E 0)), (2, .ref (ob E 327)), (3, .ref (ob E 339)), (4, .ref (ob E 340)), (5, .int (zI (i : Int)))] [])
  have C := W.2.1
  have hfl := W.1
  have hroom : room_1.cells = 601024 ∧ room_1.slots = 7293034 := ⟨rfl, rfl⟩
  refine zv_aload_n C 1 dL_law_3554 rfl rfl ?_
  refine zv_cvi (st := []) C (c_X10_undo hfl E σ ni tx ec eo U S kp ou S1 h1 hR.1) mX10_undo kL_355 (by decide : kd 0 = 9) rfl rfl rfl ⟨rfl, rfl⟩ (show zfit (zrm 4 124) 1 room_1 = true from rfl) (Nat.le_of_ble_eq_true rfl) dL_law_3555 ⟨by omega, by omega⟩ (fun r3555 τ3555 hp3555 => ?_)
  obtain ⟨hr1, hC1, hF1⟩ := hp3555
  have hM1 : zMP τ3555 (zDv.mk ni tx ec eo U S (S1 :: h1) kp ou) := zMP_fr hR.2 hF1
  refine zv_eqi (y := zI (h1.length : Int)) hr1 ?_
  refine zv_aload_n C 2 dL_law_3558 rfl rfl ?_
  refine zv_cvi (st := [.int (zI (h1.length : Int))]) C (c_X11_undo hfl E τ3555 ni tx ec eo U S S1 h1 kp ou hM1) mX11_undo kL_358 (by decide : kd 327 = 10) rfl rfl rfl ⟨rfl, rfl⟩ (show zfit (zrm 0 0) 1 room_1 = true from rfl) (Nat.le_of_ble_eq_true rfl) dL_law_3559 ⟨by omega, by omega⟩ (fun r3559 τ3559 hp3559 => ?_)
  obtain ⟨hr2, hK2⟩ := hp3559
  refine zv_eqi (y := zI (h1.length : Int)) hr2 ?_
  have hR2 : zRel τ3559 _ := ⟨zCP_fr hC1 hK2.2.2, hK2.1⟩
  refine zv_icmp_eq (tgt := 3624) C dL_law_3562 (by decide) (fun h3562 => ?_) (fun h3562 => ?_)
  · skip
    refine zv_sub (lv' := [(0, .ref b0), (1, .ref (ob E 0)), (2, .ref (ob E 327)), (3, .ref (ob E 339)), (4, .ref (ob E 340)), (5, .int (zI (i : Int)))]) [0, 1, 2, 3, 4, 5] (zcons rfl (zcons rfl (zcons rfl (zcons rfl (zcons rfl (zcons rfl rfl)))))) ?_
    exact kk _ _ _ _ (by omega) (by omega) hR2
  · exfalso
    exact h3562 rfl
set_option maxRecDepth 20000 in
theorem lw_saveState {p : Program} {l : Launch} {e : Env} {s : State} {m : MethodId} {args : Array Value} {below : List Frame} {meth : Method} {c : Code} {E : zE} {Q : State → Prop} {b0 L i ce sl : Nat} {xs : Nat → Int32} {σ : zS} (ni : Nat) (tx : Nat → Int) (ec : Nat) (eo : Int) (U : zSU) (S : zST) (hh : List zST) (kp : Option zST) (ou : List Nat)  (W : zLW p l s m args meth c E b0 L xs) (hi : i + 6 ≤ L) (hcs : ce + 1 ≤ room_1.cells ∧ sl + 6 ≤ room_1.slots) (hR : zRel σ (zDv.mk ni tx ec eo U S hh kp ou))    (kk : zNx p l e s m args below meth c E Q b0 i ce sl) : zV p l e room_1 s m args below meth c 9 E Q ce sl σ 3567 (lwL b0 i E) [] := by
  refine (?_ : zV p l e room_1 s m args below meth c 9 E Q ce sl σ 3567 [(0, .ref b0), (1, .ref (ob E 0)), (2, .ref (ob E 327)), (3, .ref (ob E 339)), (4, .ref (ob E 340)), (5, .int (zI (i : Int)))] [])
  have C := W.2.1
  have hfl := W.1
  have hroom : room_1.cells = 601024 ∧ room_1.slots = 7293034 := ⟨rfl, rfl⟩
  refine zv_aload_n C 1 dL_law_3567 rfl rfl ?_
  refine zv_cvi (st := []) C (c_X10_saveState hfl E σ ni tx ec eo U S hh kp ou hR.1) mX10_saveState kL_359 (by decide : kd 0 = 9) rfl rfl rfl ⟨rfl, rfl⟩ (show zfit (zrm 4 124) 1 room_1 = true from rfl) (Nat.le_of_ble_eq_true rfl) dL_law_3568 ⟨by omega, by omega⟩ (fun r3568 τ3568 hp3568 => ?_)
  obtain ⟨hr1, hC1, hF1⟩ := hp3568
  have hM1 : zMP τ3568 (zDv.mk ni tx ec eo U S hh kp ou) := zMP_fr hR.2 hF1
  refine zv_eqi (y := zI (S.dy : Int)) hr1 ?_
  refine zv_aload_n C 2 dL_law_3571 rfl rfl ?_
  refine zv_cvi (st := [.int (zI (S.dy : Int))]) C (c_X11_saveState hfl E τ3568 ni tx ec eo U S hh kp ou hM1) mX11_saveState kL_362 (by decide : kd 327 = 10) rfl rfl rfl ⟨rfl, rfl⟩ (show zfit (zrm 1 25) 1 room_1 = true from rfl) (Nat.le_of_ble_eq_true rfl) dL_law_3572 ⟨by omega, by omega⟩ (fun r3572 τ3572 hp3572 => ?_)
  obtain ⟨hr2, hK2⟩ := hp3572
  refine zv_eqi (y := zI (S.dy : Int)) hr2 ?_
  have hR2 : zRel τ3572 _ := ⟨zCP_fr hC1 hK2.2.2, hK2.1⟩
  refine zv_icmp_eq (tgt := 3624) C dL_law_3575 (by decide) (fun h3575 => ?_) (fun h3575 => ?_)
  · skip
    refine zv_sub (lv' := [(0, .ref b0), (1, .ref (ob E 0)), (2, .ref (ob E 327)), (3, .ref (ob E 339)), (4, .ref (ob E 340)), (5, .int (zI (i : Int)))]) [0, 1, 2, 3, 4, 5] (zcons rfl (zcons rfl (zcons rfl (zcons rfl (zcons rfl (zcons rfl rfl)))))) ?_
    exact kk _ _ _ _ (by omega) (by omega) hR2
  · exfalso
    exact h3575 rfl
set_option maxRecDepth 20000 in
theorem lw_restoreState_c_c {p : Program} {l : Launch} {e : Env} {s : State} {m : MethodId} {args : Array Value} {below : List Frame} {meth : Method} {c : Code} {E : zE} {Q : State → Prop} {b0 L i ce sl : Nat} {xs : Nat → Int32} {σ : zS} (ni : Nat) (tx : Nat → Int) (ec : Nat) (eo : Int) (U : zSU) (S : zST) (hh : List zST) (ou : List Nat) (S1 : zST)  (W : zLW p l s m args meth c E b0 L xs) (hi : i + 6 ≤ L) (hcs : ce + 1 ≤ room_1.cells ∧ sl + 6 ≤ room_1.slots) (hR : zRel σ (zDv.mk ni tx ec eo U S hh (some S1) ou))    (kk : zNx p l e s m args below meth c E Q b0 i ce sl) : zV p l e room_1 s m args below meth c 9 E Q ce sl σ 3580 (lwL b0 i E) [] := by
  refine (?_ : zV p l e room_1 s m args below meth c 9 E Q ce sl σ 3580 [(0, .ref b0), (1, .ref (ob E 0)), (2, .ref (ob E 327)), (3, .ref (ob E 339)), (4, .ref (ob E 340)), (5, .int (zI (i : Int)))] [])
  have C := W.2.1
  have hfl := W.1
  have hroom : room_1.cells = 601024 ∧ room_1.slots = 7293034 := ⟨rfl, rfl⟩
  refine zv_aload_n C 1 dL_law_3580 rfl rfl ?_
  refine zv_aload_n C 3 dL_law_3581 rfl rfl ?_
  refine zv_cH (st := []) C (w_c_X10_restoreState hfl E σ ni tx ec eo U S hh ou S1 hR.1) mL_restoreState kL_363 rfl ⟨rfl, rfl⟩ (show zfit (zrm 5 144) 3 room_1 = true from rfl) (Nat.le_of_ble_eq_true rfl) dL_law_3582 ⟨by omega, by omega⟩ (fun r3582 τ3582 hp3582 => ?_)
  obtain ⟨hr0, v9, υ9, hP9, hτ9⟩ := hp3582
  refine zv_eqi (y := zI 0) hr0 ?_
  obtain ⟨hv9, hC9, hF9⟩ := hP9
  have hC1 := zCP_w (τ := τ3582) hC9 (fun x y hx => by rw [hτ9]; exact ⟨rfl, by first | rfl | rw [gJ_sJ, if_neg (by omega)]⟩)
  have hM1 : zMP τ3582 (zDv.mk ni tx ec eo U S hh (some S1) ou) := by rw [hτ9]; exact (zMP_fr hR.2 hF9 : zMP υ9 (zDv.mk ni tx ec eo U S hh (some S1) ou))
  have ho9 : gJ τ3582 339 0 = v9.toInt64 := by rw [hτ9, gJ_sJ, if_pos ⟨rfl, rfl⟩]
  rw [hv9] at ho9
  refine zv_istore (lv' := [(6, .int (zI 0)), (0, .ref b0), (1, .ref (ob E 0)), (2, .ref (ob E 327)), (3, .ref (ob E 339)), (4, .ref (ob E 340)), (5, .int (zI (i : Int)))]) C dL_law_3585  (by decide) rfl ?_
  refine zv_aload_n C 3 dL_law_3587 rfl rfl ?_
  refine zv_cvi (st := []) C (c_X11_restoreState hfl E τ3582 ni tx ec eo U S hh S1 ou hM1) mX11_restoreState kL_366 (by decide : kd 327 = 10) rfl rfl rfl ⟨rfl, rfl⟩ (show zfit (zrm 1 22) 1 room_1 = true from rfl) (Nat.le_of_ble_eq_true rfl) dL_law_3588 ⟨by omega, by omega⟩ (fun r3588 τ3588 hp3588 => ?_)
  obtain ⟨hr2, hK2⟩ := hp3588
  refine zv_eqi (y := zI (S1.dy : Int)) hr2 ?_
  have hR2 : zRel τ3588 _ := ⟨zCP_fr hC1 hK2.2.2, hK2.1⟩
  have ht2 : gI τ3588 327 10 = zI 0 := hK2.2.1
  have hJ2 : gJ τ3588 339 0 = gJ τ3582 339 0 := hK2.2.2.2.1 339 0 (by decide)
  refine zv_istore (lv' := [(7, .int (zI (S1.dy : Int))), (6, .int (zI 0)), (0, .ref b0), (1, .ref (ob E 0)), (2, .ref (ob E 327)), (3, .ref (ob E 339)), (4, .ref (ob E 340)), (5, .int (zI (i : Int)))]) C dL_law_3591  (by decide) rfl ?_
  refine zv_aload_n C 4 dL_law_3593 rfl rfl ?_
  refine zv_cviD (st := []) C (c_X11_thrown hfl E τ3588) mX11_thrown kL_200 (by decide : kd 327 = 10) rfl rfl rfl ⟨rfl, rfl⟩ (show zfit (zrm 0 0) 1 room_1 = true from rfl) (Nat.le_of_ble_eq_true rfl) dL_law_3594 ⟨by omega, by omega⟩ ?_
  refine zv_eqi (y := (zI 0)) (ht2) ?_
  refine zv_iload C 1 dL_law_3597 rfl ?_
  refine zv_icmp_eqZ (tgt := 3604) C (by omega) (by omega) dL_law_3599 (by decide) (fun h3599 => ?_) (fun h3599 => ?_)
  · skip
    refine zv_iload C 1 dL_law_3604 rfl ?_
    refine zv_if_neZ (tgt := 3621) C (by omega) dL_law_3606 (by decide) (fun h3606 => absurd h3606 (by decide)) (fun h3606 => ?_)
    refine zv_aload_n C 5 dL_law_3609 rfl rfl ?_
    refine zv_iconst (v := zI 0) C dL_law_3610 rfl ?_
    refine zv_lald (j := 0) C (by decide : kd 339 = _) (zI_ix (by omega)) (by decide) dL_law_3611 ?_
    refine zv_eql (y := ((zI (S1.dy : Int)).toInt64)) (hJ2.trans ho9) ?_
    refine zv_iload C 0 dL_law_3612 rfl ?_
    refine zv_i2l C dL_law_3614 ?_
    refine zv_lc_eq (tgt := 3621) C dL_law_3615 dL_law_3616 (by decide) (fun h3615 => ?_) (fun h3615 => ?_)
    · skip
      refine zv_goto (tgt := 3624) C dL_law_3621 (by decide) ?_
      refine zv_sub (lv' := [(0, .ref b0), (1, .ref (ob E 0)), (2, .ref (ob E 327)), (3, .ref (ob E 339)), (4, .ref (ob E 340)), (5, .int (zI (i : Int)))]) [2, 3, 4, 5, 6, 7] (zcons rfl (zcons rfl (zcons rfl (zcons rfl (zcons rfl (zcons rfl rfl)))))) ?_
      exact kk _ _ _ _ (by omega) (by omega) hR2
    · exfalso
      exact h3615 rfl
  · exfalso
    omega
set_option maxRecDepth 20000 in
theorem lw_restoreState_x1_x1 {p : Program} {l : Launch} {e : Env} {s : State} {m : MethodId} {args : Array Value} {below : List Frame} {meth : Method} {c : Code} {E : zE} {Q : State → Prop} {b0 L i ce sl : Nat} {xs : Nat → Int32} {σ : zS} (ni : Nat) (tx : Nat → Int) (ec : Nat) (eo : Int) (U : zSU) (S : zST) (hh : List zST) (ou : List Nat)  (W : zLW p l s m args meth c E b0 L xs) (hi : i + 6 ≤ L) (hcs : ce + 1 ≤ room_1.cells ∧ sl + 6 ≤ room_1.slots) (hR : zRel σ (zDv.mk ni tx ec eo U S hh none ou))    (kk : zNx p l e s m args below meth c E Q b0 i ce sl) : zV p l e room_1 s m args below meth c 9 E Q ce sl σ 3580 (lwL b0 i E) [] := by
  refine (?_ : zV p l e room_1 s m args below meth c 9 E Q ce sl σ 3580 [(0, .ref b0), (1, .ref (ob E 0)), (2, .ref (ob E 327)), (3, .ref (ob E 339)), (4, .ref (ob E 340)), (5, .int (zI (i : Int)))] [])
  have C := W.2.1
  have hfl := W.1
  have hroom : room_1.cells = 601024 ∧ room_1.slots = 7293034 := ⟨rfl, rfl⟩
  refine zv_aload_n C 1 dL_law_3580 rfl rfl ?_
  refine zv_aload_n C 3 dL_law_3581 rfl rfl ?_
  refine zv_cH (st := []) C (w_x1_X10_restoreState hfl E σ ni tx ec eo U S hh ou hR.1) mL_restoreState kL_363 rfl ⟨rfl, rfl⟩ (show zfit (zrx 10 220) 3 room_1 = true from rfl) (Nat.le_of_ble_eq_true rfl) dL_law_3582 ⟨by exact hcs.1, by exact hcs.2⟩ (fun r3582 τ3582 hp3582 => ?_)
  obtain ⟨hr0, hP9⟩ := hp3582
  refine zv_eqi (y := zI 1) hr0 ?_
  have hF9 : zFr 318 327 σ τ3582 := by rw [hP9]; exact (by first | exact zFr_refl _ _ _ | exact zFr_rW (zFr_refl _ _ _) (by omega) | exact zFr_rW (zFr_rW (zFr_refl _ _ _) (by omega)) (by omega) | exact qW_f _ _ _ _ | exact qM_f _ _ _ _ _ | exact rW2_f _ _ _ _ _ | exact rW3_f _ _ _ _ _ | exact alW_f _ _ _ _ _ | (split <;> first | exact zFr_refl _ _ _ | exact bW_f _ _ _ _) | assumption)
  have hR1 : zRel τ3582 (zDv.mk ni tx ec eo U S hh none ou) := zRel_c hR hF9
  refine zv_istore (lv' := [(6, .int (zI 1)), (0, .ref b0), (1, .ref (ob E 0)), (2, .ref (ob E 327)), (3, .ref (ob E 339)), (4, .ref (ob E 340)), (5, .int (zI (i : Int)))]) C dL_law_3585  (by decide) rfl ?_
  refine zv_aload_n C 3 dL_law_3587 rfl rfl ?_
  refine zv_cvi (st := []) C (x1_X11_restoreState hfl E τ3582 ni tx ec eo U S hh ou hR1.2) mX11_restoreState kL_366 (by decide : kd 327 = 10) rfl rfl rfl ⟨rfl, rfl⟩ (show zfit (zrm 1 22) 1 room_1 = true from rfl) (Nat.le_of_ble_eq_true rfl) dL_law_3588 ⟨by omega, by omega⟩ (fun r3588 τ3588 hp3588 => ?_)
  obtain ⟨hr2, hK2⟩ := hp3588
  refine zv_eqi (y := zI 0) hr2 ?_
  have hR2 : zRel τ3588 (zDv.mk ni tx ec eo U S hh none ou) := zRel_m hR1 hK2
  have ht2 : gI τ3588 327 10 = zI 1 := hK2.2
  have hJ2 : gJ τ3588 339 0 = gJ τ3582 339 0 := hK2.1.2.1 339 0 (by decide)
  have hD2 : gD τ3588 340 0 = gD τ3582 340 0 := hK2.1.2.2 340 0
  refine zv_istore (lv' := [(7, .int (zI 0)), (6, .int (zI 1)), (0, .ref b0), (1, .ref (ob E 0)), (2, .ref (ob E 327)), (3, .ref (ob E 339)), (4, .ref (ob E 340)), (5, .int (zI (i : Int)))]) C dL_law_3591  (by decide) rfl ?_
  refine zv_aload_n C 4 dL_law_3593 rfl rfl ?_
  refine zv_cviD (st := []) C (c_X11_thrown hfl E τ3588) mX11_thrown kL_200 (by decide : kd 327 = 10) rfl rfl rfl ⟨rfl, rfl⟩ (show zfit (zrm 0 0) 1 room_1 = true from rfl) (Nat.le_of_ble_eq_true rfl) dL_law_3594 ⟨by omega, by omega⟩ ?_
  refine zv_eqi (y := (zI 1)) (ht2) ?_
  refine zv_iload C 1 dL_law_3597 rfl ?_
  refine zv_icmp_eqZ (tgt := 3604) C (by omega) (by omega) dL_law_3599 (by decide) (fun h3599 => ?_) (fun h3599 => ?_)
  · skip
    refine zv_iload C 1 dL_law_3604 rfl ?_
    refine zv_if_neZ (tgt := 3621) C (by omega) dL_law_3606 (by decide) (fun h3606 => ?_) (fun h3606 => absurd h3606 (by decide))
    refine zv_goto (tgt := 3624) C dL_law_3621 (by decide) ?_
    refine zv_sub (lv' := [(0, .ref b0), (1, .ref (ob E 0)), (2, .ref (ob E 327)), (3, .ref (ob E 339)), (4, .ref (ob E 340)), (5, .int (zI (i : Int)))]) [2, 3, 4, 5, 6, 7] (zcons rfl (zcons rfl (zcons rfl (zcons rfl (zcons rfl (zcons rfl rfl)))))) ?_
    exact kk _ _ _ _ (by omega) (by omega) hR2
  · exfalso
    omega
set_option maxRecDepth 20000 in
theorem lw_goodShare_c_c {p : Program} {l : Launch} {e : Env} {s : State} {m : MethodId} {args : Array Value} {below : List Frame} {meth : Method} {c : Code} {E : zE} {Q : State → Prop} {b0 L i ce sl : Nat} {xs : Nat → Int32} {σ : zS} (ni : Nat) (tx : Nat → Int) (ec : Nat) (eo : Int) (U : zSU) (S : zST) (hh : List zST) (kp : Option zST) (ou : List Nat) (v1 : Int) (v2 : Int) (W : zLW p l s m args meth c E b0 L xs) (hi : i + 6 ≤ L) (hcs : ce + 1 ≤ room_1.cells ∧ sl + 6 ≤ room_1.slots) (hR : zRel σ (zDv.mk ni tx ec eo U S hh kp ou)) (hx1 : xs (i + 1) = (zI v1)) (hx2 : xs (i + 2) = (zI v2)) (hy0 : U.s0 ≤ v1 ∧ v1 ≤ U.s0 + 999) (hl1 : 0 ≤ v2 ∧ v2 ≤ 1000000000)  (kk : zNx p l e s m args below meth c E Q b0 i ce sl) : zV p l e room_1 s m args below meth c 9 E Q ce sl σ 3235 (lwL b0 i E) [] := by
  refine (?_ : zV p l e room_1 s m args below meth c 9 E Q ce sl σ 3235 [(0, .ref b0), (1, .ref (ob E 0)), (2, .ref (ob E 327)), (3, .ref (ob E 339)), (4, .ref (ob E 340)), (5, .int (zI (i : Int)))] [])
  have C := W.2.1
  have hfl := W.1
  have hroom : room_1.cells = 601024 ∧ room_1.slots = 7293034 := ⟨rfl, rfl⟩
  refine zv_aload_n C 1 dL_law_3235 rfl rfl ?_
  refine zv_aload_n C 0 dL_law_3236 rfl rfl ?_
  refine zv_iload C 5 dL_law_3237 rfl ?_
  refine zv_iconst (v := zI 1) C dL_law_3239 rfl ?_
  refine zv_iaddZ C dL_law_3240 ?_
  refine zv_sld (j := i + 1) (v := (zI v1)) C W.2.2.1 W.2.2.2.1 W.2.2.2.2.1 W.2.2.2.2.2 (zI_ix (by omega)) (by omega) hx1 dL_law_3241 ?_
  refine zv_aload_n C 0 dL_law_3242 rfl rfl ?_
  refine zv_iload C 5 dL_law_3243 rfl ?_
  refine zv_iconst (v := zI 2) C dL_law_3245 rfl ?_
  refine zv_iaddZ C dL_law_3246 ?_
  refine zv_sld (j := i + 2) (v := (zI v2)) C W.2.2.1 W.2.2.2.1 W.2.2.2.2.1 W.2.2.2.2.2 (zI_ix (by omega)) (by omega) hx2 dL_law_3247 ?_
  refine zv_aload C 4 dL_law_3248 rfl ?_
  refine zv_cH (st := []) C (w_c_X10_goodShare hfl E σ U S v1 v2 hR.1.2.2.1 hR.1.2.2.2.1.1 (by first | assumption | omega) (by first | assumption | omega)) mL_goodShare kL_338 rfl ⟨rfl, rfl⟩ (show zfit (zrm 7 172) 5 room_1 = true from rfl) (Nat.le_of_ble_eq_true rfl) dL_law_3250 ⟨by omega, by omega⟩ (fun r3250 τ3250 hp3250 => ?_)
  have hF2 := f2d_ok (U := U) S v1 v2 hR.1.2.2.1.2.2.1
  obtain ⟨hr0, v9, υ9, hP9, hτ9⟩ := hp3250
  refine zv_eqi (y := zI 0) hr0 ?_
  obtain ⟨hv9, hW9⟩ := hP9
  have hF9 : zFr 318 327 σ υ9 := by first | exact hW9 | (rw [hW9]; exact (by first | exact zFr_refl _ _ _ | exact zFr_rW (zFr_refl _ _ _) (by omega) | exact zFr_rW (zFr_rW (zFr_refl _ _ _) (by omega)) (by omega) | exact qW_f _ _ _ _ | exact qM_f _ _ _ _ _ | exact rW2_f _ _ _ _ _ | exact rW3_f _ _ _ _ _ | exact alW_f _ _ _ _ _ | (split <;> first | exact zFr_refl _ _ _ | exact bW_f _ _ _ _) | assumption))
  have hR1 : zRel τ3250 (zDv.mk ni tx ec eo U S hh kp ou) := by rw [hτ9]; exact zRel_D (zRel_c hR hF9) _
  have ho9 : gD τ3250 340 0 = (FP.f2d v9) := by rw [hτ9, gD_sD, if_pos ⟨rfl, rfl⟩]
  rw [hv9] at ho9
  refine zv_istore (lv' := [(6, .int (zI 0)), (0, .ref b0), (1, .ref (ob E 0)), (2, .ref (ob E 327)), (3, .ref (ob E 339)), (4, .ref (ob E 340)), (5, .int (zI (i : Int)))]) C dL_law_3253  (by decide) rfl ?_
  refine zv_aload_n C 3 dL_law_3255 rfl rfl ?_
  refine zv_aload_n C 1 dL_law_3256 rfl rfl ?_
  refine zv_iload C 6 dL_law_3257 rfl ?_
  refine zv_iconst (v := zI 1) C dL_law_3259 rfl ?_
  refine zv_iaddZ C dL_law_3260 ?_
  refine zv_sld (j := i + 1) (v := (zI v1)) C W.2.2.1 W.2.2.2.1 W.2.2.2.2.1 W.2.2.2.2.2 (zI_ix (by omega)) (by omega) hx1 dL_law_3261 ?_
  refine zv_aload_n C 1 dL_law_3262 rfl rfl ?_
  refine zv_iload C 6 dL_law_3263 rfl ?_
  refine zv_iconst (v := zI 2) C dL_law_3265 rfl ?_
  refine zv_iaddZ C dL_law_3266 ?_
  refine zv_sld (j := i + 2) (v := (zI v2)) C W.2.2.1 W.2.2.2.1 W.2.2.2.2.1 W.2.2.2.2.2 (zI_ix (by omega)) (by omega) hx2 dL_law_3267 ?_
  refine zv_cvf (st := []) C (c_X11_goodShare hfl E τ3250 σ U S v1 v2 hR1.2.2.2.1 hR.1.2.2.1 hR1.2.2.2.2.2.1.1 hR.1.2.2.2.1.1 (by first | assumption | omega) (by first | assumption | omega)) mX11_goodShare kL_341 (by decide : kd 327 = 10) rfl rfl rfl ⟨rfl, rfl⟩ (show zfit (zrm 2 46) 5 room_1 = true from rfl) (Nat.le_of_ble_eq_true rfl) dL_law_3268 ⟨by omega, by omega⟩ (fun r3268 τ3268 hp3268 => ?_)
  obtain ⟨hr2, hK2⟩ := hp3268
  refine zv_eqf (y := dGs U S v1 v2) hr2 ?_
  have hR2 : zRel τ3268 (zDv.mk ni tx ec eo U S hh kp ou) := zRel_m hR1 hK2
  have ht2 : gI τ3268 327 10 = zI 0 := hK2.2
  have hJ2 : gJ τ3268 339 0 = gJ τ3250 339 0 := hK2.1.2.1 339 0 (by decide)
  have hD2 : gD τ3268 340 0 = gD τ3250 340 0 := hK2.1.2.2 340 0
  refine zv_fstore (lv' := [(7, .float (dGs U S v1 v2)), (6, .int (zI 0)), (0, .ref b0), (1, .ref (ob E 0)), (2, .ref (ob E 327)), (3, .ref (ob E 339)), (4, .ref (ob E 340)), (5, .int (zI (i : Int)))]) C dL_law_3271  (by decide) rfl ?_
  refine zv_aload_n C 4 dL_law_3273 rfl rfl ?_
  refine zv_cviD (st := []) C (c_X11_thrown hfl E τ3268) mX11_thrown kL_200 (by decide : kd 327 = 10) rfl rfl rfl ⟨rfl, rfl⟩ (show zfit (zrm 0 0) 1 room_1 = true from rfl) (Nat.le_of_ble_eq_true rfl) dL_law_3274 ⟨by omega, by omega⟩ ?_
  refine zv_eqi (y := (zI 0)) (ht2) ?_
  refine zv_iload C 1 dL_law_3277 rfl ?_
  refine zv_icmp_eqZ (tgt := 3284) C (by omega) (by omega) dL_law_3279 (by decide) (fun h3279 => ?_) (fun h3279 => ?_)
  · skip
    refine zv_iload C 1 dL_law_3284 rfl ?_
    refine zv_if_neZ (tgt := 3322) C (by omega) dL_law_3286 (by decide) (fun h3286 => absurd h3286 (by decide)) (fun h3286 => ?_)
    refine zv_aload C 6 dL_law_3289 rfl ?_
    refine zv_iconst (v := zI 0) C dL_law_3291 rfl ?_
    refine zv_dald (j := 0) C (by decide : kd 340 = _) (zI_ix (by omega)) (by decide) dL_law_3292 ?_
    refine zv_eqd (y := (FP.f2d (dGs U S v1 v2))) (hD2.trans ho9) ?_
    refine zv_fload C 0 dL_law_3293 rfl ?_
    refine zv_f2d C dL_law_3295 (hF2.1) ?_
    refine zv_dcmp C dL_law_3296 ?_
    refine zv_if_eq (tgt := 3322) C dL_law_3297 (by decide) (fun h3297 => ?_) (fun h3297 => ?_)
    · skip
      refine zv_goto (tgt := 3624) C dL_law_3322 (by decide) ?_
      refine zv_sub (lv' := [(0, .ref b0), (1, .ref (ob E 0)), (2, .ref (ob E 327)), (3, .ref (ob E 339)), (4, .ref (ob E 340)), (5, .int (zI (i : Int)))]) [2, 3, 4, 5, 6, 7] (zcons rfl (zcons rfl (zcons rfl (zcons rfl (zcons rfl (zcons rfl rfl)))))) ?_
      exact kk _ _ _ _ (by omega) (by omega) hR2
    · exfalso
      exact h3297 hF2.2
  · exfalso
    omega
set_option maxRecDepth 20000 in
theorem lw_goodShare_x1_x1 {p : Program} {l : Launch} {e : Env} {s : State} {m : MethodId} {args : Array Value} {below : List Frame} {meth : Method} {c : Code} {E : zE} {Q : State → Prop} {b0 L i ce sl : Nat} {xs : Nat → Int32} {σ : zS} (ni : Nat) (tx : Nat → Int) (ec : Nat) (eo : Int) (U : zSU) (S : zST) (hh : List zST) (kp : Option zST) (ou : List Nat) (v1 : Int) (v2 : Int) (W : zLW p l s m args meth c E b0 L xs) (hi : i + 6 ≤ L) (hcs : ce + 1 ≤ room_1.cells ∧ sl + 6 ≤ room_1.slots) (hR : zRel σ (zDv.mk ni tx ec eo U S hh kp ou)) (hx1 : xs (i + 1) = (zI v1)) (hx2 : xs (i + 2) = (zI v2)) (hyi0 : -2147483648 ≤ v1 ∧ v1 < 2147483648) (hno1 : ¬ (U.s0 ≤ v1 ∧ v1 ≤ U.s0 + 999)) (hvr : -2147483648 ≤ v2 ∧ v2 < 2147483648) (kk : zNx p l e s m args below meth c E Q b0 i ce sl) : zV p l e room_1 s m args below meth c 9 E Q ce sl σ 3235 (lwL b0 i E) [] := by
  refine (?_ : zV p l e room_1 s m args below meth c 9 E Q ce sl σ 3235 [(0, .ref b0), (1, .ref (ob E 0)), (2, .ref (ob E 327)), (3, .ref (ob E 339)), (4, .ref (ob E 340)), (5, .int (zI (i : Int)))] [])
  have C := W.2.1
  have hfl := W.1
  have hroom : room_1.cells = 601024 ∧ room_1.slots = 7293034 := ⟨rfl, rfl⟩
  refine zv_aload_n C 1 dL_law_3235 rfl rfl ?_
  refine zv_aload_n C 0 dL_law_3236 rfl rfl ?_
  refine zv_iload C 5 dL_law_3237 rfl ?_
  refine zv_iconst (v := zI 1) C dL_law_3239 rfl ?_
  refine zv_iaddZ C dL_law_3240 ?_
  refine zv_sld (j := i + 1) (v := (zI v1)) C W.2.2.1 W.2.2.2.1 W.2.2.2.2.1 W.2.2.2.2.2 (zI_ix (by omega)) (by omega) hx1 dL_law_3241 ?_
  refine zv_aload_n C 0 dL_law_3242 rfl rfl ?_
  refine zv_iload C 5 dL_law_3243 rfl ?_
  refine zv_iconst (v := zI 2) C dL_law_3245 rfl ?_
  refine zv_iaddZ C dL_law_3246 ?_
  refine zv_sld (j := i + 2) (v := (zI v2)) C W.2.2.1 W.2.2.2.1 W.2.2.2.2.1 W.2.2.2.2.2 (zI_ix (by omega)) (by omega) hx2 dL_law_3247 ?_
  refine zv_aload C 4 dL_law_3248 rfl ?_
  refine zv_cH (st := []) C (w_x1_X10_goodShare hfl E σ U v1 v2 hR.1.2.2.1 (by first | assumption | omega) (by first | assumption | omega)) mL_goodShare kL_338 rfl ⟨rfl, rfl⟩ (show zfit (zrx 13 324) 5 room_1 = true from rfl) (Nat.le_of_ble_eq_true rfl) dL_law_3250 ⟨by exact hcs.1, by exact hcs.2⟩ (fun r3250 τ3250 hp3250 => ?_)
  obtain ⟨hr0, hP9⟩ := hp3250
  refine zv_eqi (y := zI 1) hr0 ?_
  have hF9 : zFr 318 327 σ τ3250 := by rw [hP9]; exact (by first | exact zFr_refl _ _ _ | exact zFr_rW (zFr_refl _ _ _) (by omega) | exact zFr_rW (zFr_rW (zFr_refl _ _ _) (by omega)) (by omega) | exact qW_f _ _ _ _ | exact qM_f _ _ _ _ _ | exact rW2_f _ _ _ _ _ | exact rW3_f _ _ _ _ _ | exact alW_f _ _ _ _ _ | (split <;> first | exact zFr_refl _ _ _ | exact bW_f _ _ _ _) | assumption)
  have hR1 : zRel τ3250 (zDv.mk ni tx ec eo U S hh kp ou) := zRel_c hR hF9
  refine zv_istore (lv' := [(6, .int (zI 1)), (0, .ref b0), (1, .ref (ob E 0)), (2, .ref (ob E 327)), (3, .ref (ob E 339)), (4, .ref (ob E 340)), (5, .int (zI (i : Int)))]) C dL_law_3253  (by decide) rfl ?_
  refine zv_aload_n C 3 dL_law_3255 rfl rfl ?_
  refine zv_aload_n C 1 dL_law_3256 rfl rfl ?_
  refine zv_iload C 6 dL_law_3257 rfl ?_
  refine zv_iconst (v := zI 1) C dL_law_3259 rfl ?_
  refine zv_iaddZ C dL_law_3260 ?_
  refine zv_sld (j := i + 1) (v := (zI v1)) C W.2.2.1 W.2.2.2.1 W.2.2.2.2.1 W.2.2.2.2.2 (zI_ix (by omega)) (by omega) hx1 dL_law_3261 ?_
  refine zv_aload_n C 1 dL_law_3262 rfl rfl ?_
  refine zv_iload C 6 dL_law_3263 rfl ?_
  refine zv_iconst (v := zI 2) C dL_law_3265 rfl ?_
  refine zv_iaddZ C dL_law_3266 ?_
  refine zv_sld (j := i + 2) (v := (zI v2)) C W.2.2.1 W.2.2.2.1 W.2.2.2.2.1 W.2.2.2.2.2 (zI_ix (by omega)) (by omega) hx2 dL_law_3267 ?_
  refine zv_cvf (st := []) C (x1_X11_goodShare hfl E τ3250 σ U v1 v2 hR1.2.2.2.1 hR.1.2.2.1 (by first | assumption | omega) (by first | assumption | omega) (by first | assumption | omega)) mX11_goodShare kL_341 (by decide : kd 327 = 10) rfl rfl rfl ⟨rfl, rfl⟩ (show zfit (zrm 2 46) 5 room_1 = true from rfl) (Nat.le_of_ble_eq_true rfl) dL_law_3268 ⟨by omega, by omega⟩ (fun r3268 τ3268 hp3268 => ?_)
  obtain ⟨hr2, hK2⟩ := hp3268
  refine zv_eqf (y := FP.fconst0) hr2 ?_
  have hR2 : zRel τ3268 (zDv.mk ni tx ec eo U S hh kp ou) := zRel_m hR1 hK2
  have ht2 : gI τ3268 327 10 = zI 1 := hK2.2
  have hJ2 : gJ τ3268 339 0 = gJ τ3250 339 0 := hK2.1.2.1 339 0 (by decide)
  have hD2 : gD τ3268 340 0 = gD τ3250 340 0 := hK2.1.2.2 340 0
  refine zv_fstore (lv' := [(7, .float FP.fconst0), (6, .int (zI 1)), (0, .ref b0), (1, .ref (ob E 0)), (2, .ref (ob E 327)), (3, .ref (ob E 339)), (4, .ref (ob E 340)), (5, .int (zI (i : Int)))]) C dL_law_3271  (by decide) rfl ?_
  refine zv_aload_n C 4 dL_law_3273 rfl rfl ?_
  refine zv_cviD (st := []) C (c_X11_thrown hfl E τ3268) mX11_thrown kL_200 (by decide : kd 327 = 10) rfl rfl rfl ⟨rfl, rfl⟩ (show zfit (zrm 0 0) 1 room_1 = true from rfl) (Nat.le_of_ble_eq_true rfl) dL_law_3274 ⟨by omega, by omega⟩ ?_
  refine zv_eqi (y := (zI 1)) (ht2) ?_
  refine zv_iload C 1 dL_law_3277 rfl ?_
  refine zv_icmp_eqZ (tgt := 3284) C (by omega) (by omega) dL_law_3279 (by decide) (fun h3279 => ?_) (fun h3279 => ?_)
  · skip
    refine zv_iload C 1 dL_law_3284 rfl ?_
    refine zv_if_neZ (tgt := 3322) C (by omega) dL_law_3286 (by decide) (fun h3286 => ?_) (fun h3286 => absurd h3286 (by decide))
    refine zv_goto (tgt := 3624) C dL_law_3322 (by decide) ?_
    refine zv_sub (lv' := [(0, .ref b0), (1, .ref (ob E 0)), (2, .ref (ob E 327)), (3, .ref (ob E 339)), (4, .ref (ob E 340)), (5, .int (zI (i : Int)))]) [2, 3, 4, 5, 6, 7] (zcons rfl (zcons rfl (zcons rfl (zcons rfl (zcons rfl (zcons rfl rfl)))))) ?_
    exact kk _ _ _ _ (by omega) (by omega) hR2
  · exfalso
    omega
set_option maxRecDepth 20000 in
theorem lw_goodShare_x2_x1 {p : Program} {l : Launch} {e : Env} {s : State} {m : MethodId} {args : Array Value} {below : List Frame} {meth : Method} {c : Code} {E : zE} {Q : State → Prop} {b0 L i ce sl : Nat} {xs : Nat → Int32} {σ : zS} (ni : Nat) (tx : Nat → Int) (ec : Nat) (eo : Int) (U : zSU) (S : zST) (hh : List zST) (kp : Option zST) (ou : List Nat) (v1 : Int) (v2 : Int) (W : zLW p l s m args meth c E b0 L xs) (hi : i + 6 ≤ L) (hcs : ce + 1 ≤ room_1.cells ∧ sl + 6 ≤ room_1.slots) (hR : zRel σ (zDv.mk ni tx ec eo U S hh kp ou)) (hx1 : xs (i + 1) = (zI v1)) (hx2 : xs (i + 2) = (zI v2)) (hy0 : U.s0 ≤ v1 ∧ v1 ≤ U.s0 + 999) (hzi1 : -2147483648 ≤ v2 ∧ v2 < 2147483648) (hno2 : ¬ (0 ≤ v2 ∧ v2 ≤ 1000000000)) (hvr : -2147483648 ≤ v1 ∧ v1 < 2147483648) (kk : zNx p l e s m args below meth c E Q b0 i ce sl) : zV p l e room_1 s m args below meth c 9 E Q ce sl σ 3235 (lwL b0 i E) [] := by
  refine (?_ : zV p l e room_1 s m args below meth c 9 E Q ce sl σ 3235 [(0, .ref b0), (1, .ref (ob E 0)), (2, .ref (ob E 327)), (3, .ref (ob E 339)), (4, .ref (ob E 340)), (5, .int (zI (i : Int)))] [])
  have C := W.2.1
  have hfl := W.1
  have hroom : room_1.cells = 601024 ∧ room_1.slots = 7293034 := ⟨rfl, rfl⟩
  refine zv_aload_n C 1 dL_law_3235 rfl rfl ?_
  refine zv_aload_n C 0 dL_law_3236 rfl rfl ?_
  refine zv_iload C 5 dL_law_3237 rfl ?_
  refine zv_iconst (v := zI 1) C dL_law_3239 rfl ?_
  refine zv_iaddZ C dL_law_3240 ?_
  refine zv_sld (j := i + 1) (v := (zI v1)) C W.2.2.1 W.2.2.2.1 W.2.2.2.2.1 W.2.2.2.2.2 (zI_ix (by omega)) (by omega) hx1 dL_law_3241 ?_
  refine zv_aload_n C 0 dL_law_3242 rfl rfl ?_
  refine zv_iload C 5 dL_law_3243 rfl ?_
  refine zv_iconst (v := zI 2) C dL_law_3245 rfl ?_
  refine zv_iaddZ C dL_law_3246 ?_
  refine zv_sld (j := i + 2) (v := (zI v2)) C W.2.2.1 W.2.2.2.1 W.2.2.2.2.1 W.2.2.2.2.2 (zI_ix (by omega)) (by omega) hx2 dL_law_3247 ?_
  refine zv_aload C 4 dL_law_3248 rfl ?_
  refine zv_cH (st := []) C (w_x2_X10_goodShare hfl E σ U v1 v2 hR.1.2.2.1 (by first | assumption | omega) (by first | assumption | omega) (by first | assumption | omega)) mL_goodShare kL_338 rfl ⟨rfl, rfl⟩ (show zfit (zrx 13 324) 5 room_1 = true from rfl) (Nat.le_of_ble_eq_true rfl) dL_law_3250 ⟨by exact hcs.1, by exact hcs.2⟩ (fun r3250 τ3250 hp3250 => ?_)
  obtain ⟨hr0, hP9⟩ := hp3250
  refine zv_eqi (y := zI 1) hr0 ?_
  have hF9 : zFr 318 327 σ τ3250 := by rw [hP9]; exact (by first | exact zFr_refl _ _ _ | exact zFr_rW (zFr_refl _ _ _) (by omega) | exact zFr_rW (zFr_rW (zFr_refl _ _ _) (by omega)) (by omega) | exact qW_f _ _ _ _ | exact qM_f _ _ _ _ _ | exact rW2_f _ _ _ _ _ | exact rW3_f _ _ _ _ _ | exact alW_f _ _ _ _ _ | (split <;> first | exact zFr_refl _ _ _ | exact bW_f _ _ _ _) | assumption)
  have hR1 : zRel τ3250 (zDv.mk ni tx ec eo U S hh kp ou) := zRel_c hR hF9
  refine zv_istore (lv' := [(6, .int (zI 1)), (0, .ref b0), (1, .ref (ob E 0)), (2, .ref (ob E 327)), (3, .ref (ob E 339)), (4, .ref (ob E 340)), (5, .int (zI (i : Int)))]) C dL_law_3253  (by decide) rfl ?_
  refine zv_aload_n C 3 dL_law_3255 rfl rfl ?_
  refine zv_aload_n C 1 dL_law_3256 rfl rfl ?_
  refine zv_iload C 6 dL_law_3257 rfl ?_
  refine zv_iconst (v := zI 1) C dL_law_3259 rfl ?_
  refine zv_iaddZ C dL_law_3260 ?_
  refine zv_sld (j := i + 1) (v := (zI v1)) C W.2.2.1 W.2.2.2.1 W.2.2.2.2.1 W.2.2.2.2.2 (zI_ix (by omega)) (by omega) hx1 dL_law_3261 ?_
  refine zv_aload_n C 1 dL_law_3262 rfl rfl ?_
  refine zv_iload C 6 dL_law_3263 rfl ?_
  refine zv_iconst (v := zI 2) C dL_law_3265 rfl ?_
  refine zv_iaddZ C dL_law_3266 ?_
  refine zv_sld (j := i + 2) (v := (zI v2)) C W.2.2.1 W.2.2.2.1 W.2.2.2.2.1 W.2.2.2.2.2 (zI_ix (by omega)) (by omega) hx2 dL_law_3267 ?_
  refine zv_cvf (st := []) C (x1_X11_goodShare hfl E τ3250 σ U v1 v2 hR1.2.2.2.1 hR.1.2.2.1 (by first | assumption | omega) (by first | assumption | omega) (by first | assumption | omega)) mX11_goodShare kL_341 (by decide : kd 327 = 10) rfl rfl rfl ⟨rfl, rfl⟩ (show zfit (zrm 2 46) 5 room_1 = true from rfl) (Nat.le_of_ble_eq_true rfl) dL_law_3268 ⟨by omega, by omega⟩ (fun r3268 τ3268 hp3268 => ?_)
  obtain ⟨hr2, hK2⟩ := hp3268
  refine zv_eqf (y := FP.fconst0) hr2 ?_
  have hR2 : zRel τ3268 (zDv.mk ni tx ec eo U S hh kp ou) := zRel_m hR1 hK2
  have ht2 : gI τ3268 327 10 = zI 1 := hK2.2
  have hJ2 : gJ τ3268 339 0 = gJ τ3250 339 0 := hK2.1.2.1 339 0 (by decide)
  have hD2 : gD τ3268 340 0 = gD τ3250 340 0 := hK2.1.2.2 340 0
  refine zv_fstore (lv' := [(7, .float FP.fconst0), (6, .int (zI 1)), (0, .ref b0), (1, .ref (ob E 0)), (2, .ref (ob E 327)), (3, .ref (ob E 339)), (4, .ref (ob E 340)), (5, .int (zI (i : Int)))]) C dL_law_3271  (by decide) rfl ?_
  refine zv_aload_n C 4 dL_law_3273 rfl rfl ?_
  refine zv_cviD (st := []) C (c_X11_thrown hfl E τ3268) mX11_thrown kL_200 (by decide : kd 327 = 10) rfl rfl rfl ⟨rfl, rfl⟩ (show zfit (zrm 0 0) 1 room_1 = true from rfl) (Nat.le_of_ble_eq_true rfl) dL_law_3274 ⟨by omega, by omega⟩ ?_
  refine zv_eqi (y := (zI 1)) (ht2) ?_
  refine zv_iload C 1 dL_law_3277 rfl ?_
  refine zv_icmp_eqZ (tgt := 3284) C (by omega) (by omega) dL_law_3279 (by decide) (fun h3279 => ?_) (fun h3279 => ?_)
  · skip
    refine zv_iload C 1 dL_law_3284 rfl ?_
    refine zv_if_neZ (tgt := 3322) C (by omega) dL_law_3286 (by decide) (fun h3286 => ?_) (fun h3286 => absurd h3286 (by decide))
    refine zv_goto (tgt := 3624) C dL_law_3322 (by decide) ?_
    refine zv_sub (lv' := [(0, .ref b0), (1, .ref (ob E 0)), (2, .ref (ob E 327)), (3, .ref (ob E 339)), (4, .ref (ob E 340)), (5, .int (zI (i : Int)))]) [2, 3, 4, 5, 6, 7] (zcons rfl (zcons rfl (zcons rfl (zcons rfl (zcons rfl (zcons rfl rfl)))))) ?_
    exact kk _ _ _ _ (by omega) (by omega) hR2
  · exfalso
    omega
theorem LK_49 {p : Program} {l : Launch} {e : Env} {s : State} {m : MethodId} {args : Array Value} {below : List Frame} {meth : Method} {c : Code} {E : zE} {Q : State → Prop} {b0 L i ce sl : Nat} {xs : Nat → Int32} {σ : zS} (ni : Nat) (tx : Nat → Int) (ec : Nat) (eo : Int) (U : zSU) (S : zST) (hh : List zST) (kp : Option zST) (ou : List Nat) (hFN : zFN) (W : zLW p l s m args meth c E b0 L xs) (hi : i + 6 ≤ L) (hcs : ce + 1 ≤ room_1.cells ∧ sl + 6 ≤ room_1.slots) (hR : zRel σ (zDv.mk ni tx ec eo U S hh kp ou)) (kk : zNx p l e s m args below meth c E Q b0 i ce sl) : zV p l e room_1 s m args below meth c 9 E Q ce sl σ 3235 (lwL b0 i E) [] := by
  obtain ⟨v1, hx1, hv1⟩ := zI_cov (xs (i + 1))
  obtain ⟨v2, hx2, hv2⟩ := zI_cov (xs (i + 2))
  by_cases g1 : U.s0 ≤ v1 ∧ v1 ≤ U.s0 + 999
  case neg =>
    exact lw_goodShare_x1_x1 _ _ _ _ _ _ _ _ _ _ _ W hi hcs hR hx1 hx2 (by first | assumption | omega) (by first | assumption | omega) (by first | assumption | omega) kk
  by_cases g2 : 0 ≤ v2 ∧ v2 ≤ 1000000000
  case neg =>
    exact lw_goodShare_x2_x1 _ _ _ _ _ _ _ _ _ _ _ W hi hcs hR hx1 hx2 (by first | assumption | omega) (by first | assumption | omega) (by first | assumption | omega) (by first | assumption | omega) kk
  exact lw_goodShare_c_c _ _ _ _ _ _ _ _ _ _ _ W hi hcs hR hx1 hx2 (by first | assumption | omega) (by first | assumption | omega) kk
theorem LK_0 {p : Program} {l : Launch} {e : Env} {s : State} {m : MethodId} {args : Array Value} {below : List Frame} {meth : Method} {c : Code} {E : zE} {Q : State → Prop} {b0 L i ce sl : Nat} {xs : Nat → Int32} {σ : zS} (ni : Nat) (tx : Nat → Int) (ec : Nat) (eo : Int) (U : zSU) (S : zST) (hh : List zST) (kp : Option zST) (ou : List Nat) (hFN : zFN) (W : zLW p l s m args meth c E b0 L xs) (hi : i + 6 ≤ L) (hcs : ce + 1 ≤ room_1.cells ∧ sl + 6 ≤ room_1.slots) (hR : zRel σ (zDv.mk ni tx ec eo U S hh kp ou)) (kk : zNx p l e s m args below meth c E Q b0 i ce sl) : zV p l e room_1 s m args below meth c 9 E Q ce sl σ 288 (lwL b0 i E) [] := by
  by_cases g1 : ni + 20 ≤ 900
  case neg =>
    exact lw_appendInput_0 _ _ _ _ _ _ _ _ _ _ _ _ _ _ W hi hcs hR rfl rfl rfl rfl rfl g1 kk
  exact lw_appendInput_1 _ _ _ _ _ _ _ _ _ _ _ _ _ _ W hi hcs hR rfl rfl rfl rfl rfl g1 kk
theorem LK_1 {p : Program} {l : Launch} {e : Env} {s : State} {m : MethodId} {args : Array Value} {below : List Frame} {meth : Method} {c : Code} {E : zE} {Q : State → Prop} {b0 L i ce sl : Nat} {xs : Nat → Int32} {σ : zS} (ni : Nat) (tx : Nat → Int) (ec : Nat) (eo : Int) (U : zSU) (S : zST) (hh : List zST) (kp : Option zST) (ou : List Nat) (hFN : zFN) (W : zLW p l s m args meth c E b0 L xs) (hi : i + 6 ≤ L) (hcs : ce + 1 ≤ room_1.cells ∧ sl + 6 ≤ room_1.slots) (hR : zRel σ (zDv.mk ni tx ec eo U S hh kp ou)) (kk : zNx p l e s m args below meth c E Q b0 i ce sl) : zV p l e room_1 s m args below meth c 9 E Q ce sl σ 361 (lwL b0 i E) [] := by
  obtain ⟨v1, hx1, hv1⟩ := zI_cov (xs (i + 1))
  by_cases g1 : 0 ≤ v1 ∧ v1 ≤ ni
  case neg =>
    exact lw_truncateInput_0 _ _ _ _ _ _ _ _ _ _ W hi hcs hR hx1 (by first | assumption | omega) (by first | assumption | omega) kk
  obtain ⟨n1, rfl⟩ := Int.eq_ofNat_of_zero_le (show 0 ≤ v1 by omega)
  exact lw_truncateInput_1 _ _ _ _ _ _ _ _ _ _ W hi hcs hR hx1 (by first | assumption | omega) (by first | assumption | omega) kk
theorem LK_2 {p : Program} {l : Launch} {e : Env} {s : State} {m : MethodId} {args : Array Value} {below : List Frame} {meth : Method} {c : Code} {E : zE} {Q : State → Prop} {b0 L i ce sl : Nat} {xs : Nat → Int32} {σ : zS} (ni : Nat) (tx : Nat → Int) (ec : Nat) (eo : Int) (U : zSU) (S : zST) (hh : List zST) (kp : Option zST) (ou : List Nat) (hFN : zFN) (W : zLW p l s m args meth c E b0 L xs) (hi : i + 6 ≤ L) (hcs : ce + 1 ≤ room_1.cells ∧ sl + 6 ≤ room_1.slots) (hR : zRel σ (zDv.mk ni tx ec eo U S hh kp ou)) (kk : zNx p l e s m args below meth c E Q b0 i ce sl) : zV p l e room_1 s m args below meth c 9 E Q ce sl σ 386 (lwL b0 i E) [] := by
  by_cases g1 : (pText tx ni).1 = 0
  case neg =>
    exact lw_loadDrive_0 _ _ _ _ _ _ _ _ _ W hi hcs hR  (by first | assumption | omega) kk
  exact lw_loadDrive_1 _ _ _ _ _ _ _ _ _ W hi hcs hR  (by first | assumption | omega) kk
theorem LK_3 {p : Program} {l : Launch} {e : Env} {s : State} {m : MethodId} {args : Array Value} {below : List Frame} {meth : Method} {c : Code} {E : zE} {Q : State → Prop} {b0 L i ce sl : Nat} {xs : Nat → Int32} {σ : zS} (ni : Nat) (tx : Nat → Int) (ec : Nat) (eo : Int) (U : zSU) (S : zST) (hh : List zST) (kp : Option zST) (ou : List Nat) (hFN : zFN) (W : zLW p l s m args meth c E b0 L xs) (hi : i + 6 ≤ L) (hcs : ce + 1 ≤ room_1.cells ∧ sl + 6 ≤ room_1.slots) (hR : zRel σ (zDv.mk ni tx ec eo U S hh kp ou)) (kk : zNx p l e s m args below meth c E Q b0 i ce sl) : zV p l e room_1 s m args below meth c 9 E Q ce sl σ 399 (lwL b0 i E) [] := by
  exact lw_errorCode _ _ _ _ _ _ _ _ _ W hi hcs hR   kk
theorem LK_4 {p : Program} {l : Launch} {e : Env} {s : State} {m : MethodId} {args : Array Value} {below : List Frame} {meth : Method} {c : Code} {E : zE} {Q : State → Prop} {b0 L i ce sl : Nat} {xs : Nat → Int32} {σ : zS} (ni : Nat) (tx : Nat → Int) (ec : Nat) (eo : Int) (U : zSU) (S : zST) (hh : List zST) (kp : Option zST) (ou : List Nat) (hFN : zFN) (W : zLW p l s m args meth c E b0 L xs) (hi : i + 6 ≤ L) (hcs : ce + 1 ≤ room_1.cells ∧ sl + 6 ≤ room_1.slots) (hR : zRel σ (zDv.mk ni tx ec eo U S hh kp ou)) (kk : zNx p l e s m args below meth c E Q b0 i ce sl) : zV p l e room_1 s m args below meth c 9 E Q ce sl σ 412 (lwL b0 i E) [] := by
  exact lw_errorOffset _ _ _ _ _ _ _ _ _ W hi hcs hR   kk
theorem LK_31 {p : Program} {l : Launch} {e : Env} {s : State} {m : MethodId} {args : Array Value} {below : List Frame} {meth : Method} {c : Code} {E : zE} {Q : State → Prop} {b0 L i ce sl : Nat} {xs : Nat → Int32} {σ : zS} (ni : Nat) (tx : Nat → Int) (ec : Nat) (eo : Int) (U : zSU) (S : zST) (hh : List zST) (kp : Option zST) (ou : List Nat) (hFN : zFN) (W : zLW p l s m args meth c E b0 L xs) (hi : i + 6 ≤ L) (hcs : ce + 1 ≤ room_1.cells ∧ sl + 6 ≤ room_1.slots) (hR : zRel σ (zDv.mk ni tx ec eo U S hh kp ou)) (kk : zNx p l e s m args below meth c E Q b0 i ce sl) : zV p l e room_1 s m args below meth c 9 E Q ce sl σ 2114 (lwL b0 i E) [] := by
  obtain ⟨v1, hx1, hv1⟩ := zI_cov (xs (i + 1))
  by_cases g1 : sHas S.f v1 S.n = true
  case neg =>
    exact lw_removeStock_0 _ _ _ _ _ _ _ _ _ _ W hi hcs hR hx1 (by first | assumption | omega) (by first | assumption | omega) kk
  exact lw_removeStock_1 _ _ _ _ _ _ _ _ _ _ W hi hcs hR hx1 (by first | assumption | omega) (by first | assumption | omega) kk
theorem LK_48 {p : Program} {l : Launch} {e : Env} {s : State} {m : MethodId} {args : Array Value} {below : List Frame} {meth : Method} {c : Code} {E : zE} {Q : State → Prop} {b0 L i ce sl : Nat} {xs : Nat → Int32} {σ : zS} (ni : Nat) (tx : Nat → Int) (ec : Nat) (eo : Int) (U : zSU) (S : zST) (hh : List zST) (kp : Option zST) (ou : List Nat) (hFN : zFN) (W : zLW p l s m args meth c E b0 L xs) (hi : i + 6 ≤ L) (hcs : ce + 1 ≤ room_1.cells ∧ sl + 6 ≤ room_1.slots) (hR : zRel σ (zDv.mk ni tx ec eo U S hh kp ou)) (kk : zNx p l e s m args below meth c E Q b0 i ce sl) : zV p l e room_1 s m args below meth c 9 E Q ce sl σ 3210 (lwL b0 i E) [] := by
  obtain ⟨v1, hx1, hv1⟩ := zI_cov (xs (i + 1))
  exact lw_uses _ _ _ _ _ _ _ _ _ _ W hi hcs hR hx1 (by first | assumption | omega) kk
theorem LK_53 {p : Program} {l : Launch} {e : Env} {s : State} {m : MethodId} {args : Array Value} {below : List Frame} {meth : Method} {c : Code} {E : zE} {Q : State → Prop} {b0 L i ce sl : Nat} {xs : Nat → Int32} {σ : zS} (ni : Nat) (tx : Nat → Int) (ec : Nat) (eo : Int) (U : zSU) (S : zST) (hh : List zST) (kp : Option zST) (ou : List Nat) (hFN : zFN) (W : zLW p l s m args meth c E b0 L xs) (hi : i + 6 ≤ L) (hcs : ce + 1 ≤ room_1.cells ∧ sl + 6 ≤ room_1.slots) (hR : zRel σ (zDv.mk ni tx ec eo U S hh kp ou)) (kk : zNx p l e s m args below meth c E Q b0 i ce sl) : zV p l e room_1 s m args below meth c 9 E Q ce sl σ 3529 (lwL b0 i E) [] := by
  obtain ⟨v1, hx1, hv1⟩ := zI_cov (xs (i + 1))
  by_cases g1 : 0 ≤ v1 ∧ v1 < ou.length
  case neg =>
    exact lw_outputByte_0 _ _ _ _ _ _ _ _ _ _ W hi hcs hR hx1 (by first | assumption | omega) (by first | assumption | omega) kk
  obtain ⟨n1, rfl⟩ := Int.eq_ofNat_of_zero_le (show 0 ≤ v1 by omega)
  exact lw_outputByte_1 _ _ _ _ _ _ _ _ _ _ W hi hcs hR hx1 (by first | assumption | omega) (by first | assumption | omega) kk
theorem LK_54 {p : Program} {l : Launch} {e : Env} {s : State} {m : MethodId} {args : Array Value} {below : List Frame} {meth : Method} {c : Code} {E : zE} {Q : State → Prop} {b0 L i ce sl : Nat} {xs : Nat → Int32} {σ : zS} (ni : Nat) (tx : Nat → Int) (ec : Nat) (eo : Int) (U : zSU) (S : zST) (hh : List zST) (kp : Option zST) (ou : List Nat) (hFN : zFN) (W : zLW p l s m args meth c E b0 L xs) (hi : i + 6 ≤ L) (hcs : ce + 1 ≤ room_1.cells ∧ sl + 6 ≤ room_1.slots) (hR : zRel σ (zDv.mk ni tx ec eo U S hh kp ou)) (kk : zNx p l e s m args below meth c E Q b0 i ce sl) : zV p l e room_1 s m args below meth c 9 E Q ce sl σ 3554 (lwL b0 i E) [] := by
  cases hh with
  | nil =>
    exact lw_undo_0 _ _ _ _ _ _ _ _ W hi hcs hR   kk
  | cons S1 h1 =>
    exact lw_undo_1 _ _ _ _ _ _ _ _ _ _ W hi hcs hR   kk
theorem LK_55 {p : Program} {l : Launch} {e : Env} {s : State} {m : MethodId} {args : Array Value} {below : List Frame} {meth : Method} {c : Code} {E : zE} {Q : State → Prop} {b0 L i ce sl : Nat} {xs : Nat → Int32} {σ : zS} (ni : Nat) (tx : Nat → Int) (ec : Nat) (eo : Int) (U : zSU) (S : zST) (hh : List zST) (kp : Option zST) (ou : List Nat) (hFN : zFN) (W : zLW p l s m args meth c E b0 L xs) (hi : i + 6 ≤ L) (hcs : ce + 1 ≤ room_1.cells ∧ sl + 6 ≤ room_1.slots) (hR : zRel σ (zDv.mk ni tx ec eo U S hh kp ou)) (kk : zNx p l e s m args below meth c E Q b0 i ce sl) : zV p l e room_1 s m args below meth c 9 E Q ce sl σ 3567 (lwL b0 i E) [] := by
  exact lw_saveState _ _ _ _ _ _ _ _ _ W hi hcs hR   kk
theorem LK_56 {p : Program} {l : Launch} {e : Env} {s : State} {m : MethodId} {args : Array Value} {below : List Frame} {meth : Method} {c : Code} {E : zE} {Q : State → Prop} {b0 L i ce sl : Nat} {xs : Nat → Int32} {σ : zS} (ni : Nat) (tx : Nat → Int) (ec : Nat) (eo : Int) (U : zSU) (S : zST) (hh : List zST) (kp : Option zST) (ou : List Nat) (hFN : zFN) (W : zLW p l s m args meth c E b0 L xs) (hi : i + 6 ≤ L) (hcs : ce + 1 ≤ room_1.cells ∧ sl + 6 ≤ room_1.slots) (hR : zRel σ (zDv.mk ni tx ec eo U S hh kp ou)) (kk : zNx p l e s m args below meth c E Q b0 i ce sl) : zV p l e room_1 s m args below meth c 9 E Q ce sl σ 3580 (lwL b0 i E) [] := by
  cases kp with
  | none =>
    exact lw_restoreState_x1_x1 _ _ _ _ _ _ _ _ W hi hcs hR   kk
  | some S1 =>
    exact lw_restoreState_c_c _ _ _ _ _ _ _ _ _ W hi hcs hR   kk
