/-! the law's cases -/
theorem dL_law_3325 : decode cL_law 3325 = .ok (.aload_n 1, 1) := by decide +kernel
theorem dL_law_3326 : decode cL_law 3326 = .ok (.aload_n 0, 1) := by decide +kernel
theorem dL_law_3327 : decode cL_law 3327 = .ok (.iload 5, 2) := by decide +kernel
theorem dL_law_3329 : decode cL_law 3329 = .ok (.iconst 1, 1) := by decide +kernel
theorem dL_law_3330 : decode cL_law 3330 = .ok (.iadd, 1) := by decide +kernel
theorem dL_law_3331 : decode cL_law 3331 = .ok (.iaload, 1) := by decide +kernel
theorem dL_law_3332 : decode cL_law 3332 = .ok (.aload_n 0, 1) := by decide +kernel
theorem dL_law_3333 : decode cL_law 3333 = .ok (.iload 5, 2) := by decide +kernel
theorem dL_law_3335 : decode cL_law 3335 = .ok (.iconst 2, 1) := by decide +kernel
theorem dL_law_3336 : decode cL_law 3336 = .ok (.iadd, 1) := by decide +kernel
theorem dL_law_3337 : decode cL_law 3337 = .ok (.iaload, 1) := by decide +kernel
theorem dL_law_3338 : decode cL_law 3338 = .ok (.aload_n 0, 1) := by decide +kernel
theorem dL_law_3339 : decode cL_law 3339 = .ok (.iload 5, 2) := by decide +kernel
theorem dL_law_3341 : decode cL_law 3341 = .ok (.iconst 3, 1) := by decide +kernel
theorem dL_law_3342 : decode cL_law 3342 = .ok (.iadd, 1) := by decide +kernel
theorem dL_law_3343 : decode cL_law 3343 = .ok (.iaload, 1) := by decide +kernel
theorem dL_law_3344 : decode cL_law 3344 = .ok (.aload_n 0, 1) := by decide +kernel
theorem dL_law_3345 : decode cL_law 3345 = .ok (.iload 5, 2) := by decide +kernel
theorem dL_law_3347 : decode cL_law 3347 = .ok (.iconst 4, 1) := by decide +kernel
theorem dL_law_3348 : decode cL_law 3348 = .ok (.iadd, 1) := by decide +kernel
theorem dL_law_3349 : decode cL_law 3349 = .ok (.iaload, 1) := by decide +kernel
theorem dL_law_3350 : decode cL_law 3350 = .ok (.aload_n 3, 1) := by decide +kernel
theorem dL_law_3351 : decode cL_law 3351 = .ok (.invokestatic 342, 3) := by decide +kernel
theorem dL_law_3354 : decode cL_law 3354 = .ok (.istore 6, 2) := by decide +kernel
theorem dL_law_3356 : decode cL_law 3356 = .ok (.aload_n 2, 1) := by decide +kernel
theorem dL_law_3357 : decode cL_law 3357 = .ok (.aload_n 0, 1) := by decide +kernel
theorem dL_law_3358 : decode cL_law 3358 = .ok (.iload 5, 2) := by decide +kernel
theorem dL_law_3360 : decode cL_law 3360 = .ok (.iconst 1, 1) := by decide +kernel
theorem dL_law_3361 : decode cL_law 3361 = .ok (.iadd, 1) := by decide +kernel
theorem dL_law_3362 : decode cL_law 3362 = .ok (.iaload, 1) := by decide +kernel
theorem dL_law_3363 : decode cL_law 3363 = .ok (.aload_n 0, 1) := by decide +kernel
theorem dL_law_3364 : decode cL_law 3364 = .ok (.iload 5, 2) := by decide +kernel
theorem dL_law_3366 : decode cL_law 3366 = .ok (.iconst 2, 1) := by decide +kernel
theorem dL_law_3367 : decode cL_law 3367 = .ok (.iadd, 1) := by decide +kernel
theorem dL_law_3368 : decode cL_law 3368 = .ok (.iaload, 1) := by decide +kernel
theorem dL_law_3369 : decode cL_law 3369 = .ok (.aload_n 0, 1) := by decide +kernel
theorem dL_law_3370 : decode cL_law 3370 = .ok (.iload 5, 2) := by decide +kernel
theorem dL_law_3372 : decode cL_law 3372 = .ok (.iconst 3, 1) := by decide +kernel
theorem dL_law_3373 : decode cL_law 3373 = .ok (.iadd, 1) := by decide +kernel
theorem dL_law_3374 : decode cL_law 3374 = .ok (.iaload, 1) := by decide +kernel
theorem dL_law_3375 : decode cL_law 3375 = .ok (.aload_n 0, 1) := by decide +kernel
theorem dL_law_3376 : decode cL_law 3376 = .ok (.iload 5, 2) := by decide +kernel
theorem dL_law_3378 : decode cL_law 3378 = .ok (.iconst 4, 1) := by decide +kernel
theorem dL_law_3379 : decode cL_law 3379 = .ok (.iadd, 1) := by decide +kernel
theorem dL_law_3380 : decode cL_law 3380 = .ok (.iaload, 1) := by decide +kernel
theorem dL_law_3381 : decode cL_law 3381 = .ok (.invokevirtual 344, 3) := by decide +kernel
theorem dL_law_3384 : decode cL_law 3384 = .ok (.istore 7, 2) := by decide +kernel
theorem dL_law_3386 : decode cL_law 3386 = .ok (.aload_n 2, 1) := by decide +kernel
theorem dL_law_3387 : decode cL_law 3387 = .ok (.invokevirtual 200, 3) := by decide +kernel
theorem dL_law_3390 : decode cL_law 3390 = .ok (.iload 6, 2) := by decide +kernel
theorem dL_law_3392 : decode cL_law 3392 = .ok (.if_icmp .eq 5, 3) := by decide +kernel
theorem dL_law_3395 : decode cL_law 3395 = .ok (.iconst 0, 1) := by decide +kernel
theorem dL_law_3396 : decode cL_law 3396 = .ok (.ireturn, 1) := by decide +kernel
theorem dL_law_3397 : decode cL_law 3397 = .ok (.iload 6, 2) := by decide +kernel
theorem dL_law_3399 : decode cL_law 3399 = .ok (.ifCond .ne 15, 3) := by decide +kernel
theorem dL_law_3402 : decode cL_law 3402 = .ok (.aload_n 3, 1) := by decide +kernel
theorem dL_law_3403 : decode cL_law 3403 = .ok (.iconst 0, 1) := by decide +kernel
theorem dL_law_3404 : decode cL_law 3404 = .ok (.laload, 1) := by decide +kernel
theorem dL_law_3405 : decode cL_law 3405 = .ok (.iload 7, 2) := by decide +kernel
theorem dL_law_3407 : decode cL_law 3407 = .ok (.i2l, 1) := by decide +kernel
theorem dL_law_3408 : decode cL_law 3408 = .ok (.lcmp, 1) := by decide +kernel
theorem dL_law_3409 : decode cL_law 3409 = .ok (.ifCond .eq 5, 3) := by decide +kernel
theorem dL_law_3412 : decode cL_law 3412 = .ok (.iconst 0, 1) := by decide +kernel
theorem dL_law_3413 : decode cL_law 3413 = .ok (.ireturn, 1) := by decide +kernel
theorem dL_law_3414 : decode cL_law 3414 = .ok (.goto 210, 3) := by decide +kernel
set_option maxRecDepth 20000 in
theorem lw_printErrors_c_c {p : Program} {l : Launch} {e : Env} {s : State} {m : MethodId} {args : Array Value} {below : List Frame} {meth : Method} {c : Code} {E : zE} {Q : State → Prop} {b0 L i ce sl : Nat} {xs : Nat → Int32} {σ : zS} (ni : Nat) (tx : Nat → Int) (ec : Nat) (eo : Int) (U : zSU) (S : zST) (hh : List zST) (kp : Option zST) (ou : List Nat) (n1 : Nat) (v2 : Int) (v3 : Int) (v4 : Int) (W : zLW p l s m args meth c E b0 L xs) (hi : i + 6 ≤ L) (hcs : ce + 1 ≤ room_1.cells ∧ sl + 6 ≤ room_1.slots) (hR : zRel σ (zDv.mk ni tx ec eo U S hh kp ou)) (hx1 : xs (i + 1) = (zI (n1 : Int))) (hx2 : xs (i + 2) = (zI v2)) (hx3 : xs (i + 3) = (zI v3)) (hx4 : xs (i + 4) = (zI v4)) (hi0 : n1 < U.nb) (ha1 : U.s0 ≤ v2 ∧ v2 ≤ U.s0 + 999) (hb2 : U.s0 ≤ v3 ∧ v3 ≤ U.s0 + 999) (hle3 : v2 ≤ v3) (hst4 : 1 ≤ v4 ∧ v4 ≤ 999)  (kk : zNx p l e s m args below meth c E Q b0 i ce sl) : zV p l e room_1 s m args below meth c 9 E Q ce sl σ 3325 (lwL b0 i E) [] := by
  refine (?_ : zV p l e room_1 s m args below meth c 9 E Q ce sl σ 3325 [(0, .ref b0), (1, .ref (ob E 0)), (2, .ref (ob E 327)), (3, .ref (ob E 339)), (4, .ref (ob E 340)), (5, .int (zI (i : Int)))] [])
  have C := W.2.1
  have hfl := W.1
  have hroom : room_1.cells = 601024 ∧ room_1.slots = 7293034 := ⟨rfl, rfl⟩
  refine zv_aload_n C 1 dL_law_3325 rfl rfl ?_
  refine zv_aload_n C 0 dL_law_3326 rfl rfl ?_
  refine zv_iload C 5 dL_law_3327 rfl ?_
  refine zv_iconst (v := zI 1) C dL_law_3329 rfl ?_
  refine zv_iaddZ C dL_law_3330 ?_
  refine zv_sld (j := i + 1) (v := (zI (n1 : Int))) C W.2.2.1 W.2.2.2.1 W.2.2.2.2.1 W.2.2.2.2.2 (zI_ix (by omega)) (by omega) hx1 dL_law_3331 ?_
  refine zv_aload_n C 0 dL_law_3332 rfl rfl ?_
  refine zv_iload C 5 dL_law_3333 rfl ?_
  refine zv_iconst (v := zI 2) C dL_law_3335 rfl ?_
  refine zv_iaddZ C dL_law_3336 ?_
  refine zv_sld (j := i + 2) (v := (zI v2)) C W.2.2.1 W.2.2.2.1 W.2.2.2.2.1 W.2.2.2.2.2 (zI_ix (by omega)) (by omega) hx2 dL_law_3337 ?_
  refine zv_aload_n C 0 dL_law_3338 rfl rfl ?_
  refine zv_iload C 5 dL_law_3339 rfl ?_
  refine zv_iconst (v := zI 3) C dL_law_3341 rfl ?_
  refine zv_iaddZ C dL_law_3342 ?_
  refine zv_sld (j := i + 3) (v := (zI v3)) C W.2.2.1 W.2.2.2.1 W.2.2.2.2.1 W.2.2.2.2.2 (zI_ix (by omega)) (by omega) hx3 dL_law_3343 ?_
  refine zv_aload_n C 0 dL_law_3344 rfl rfl ?_
  refine zv_iload C 5 dL_law_3345 rfl ?_
  refine zv_iconst (v := zI 4) C dL_law_3347 rfl ?_
  refine zv_iaddZ C dL_law_3348 ?_
  refine zv_sld (j := i + 4) (v := (zI v4)) C W.2.2.1 W.2.2.2.1 W.2.2.2.2.1 W.2.2.2.2.2 (zI_ix (by omega)) (by omega) hx4 dL_law_3349 ?_
  refine zv_aload_n C 3 dL_law_3350 rfl rfl ?_
  refine zv_cH (st := []) C (w_c_X10_printErrors hfl E σ ni tx ec eo U S hh kp ou n1 v2 v3 v4 hR.1 (by first | assumption | omega) (by first | assumption | omega) (by first | assumption | omega) (by first | assumption | omega) (by first | assumption | omega)) mL_printErrors kL_342 rfl ⟨rfl, rfl⟩ (show zfit (zrm 6 153) 7 room_1 = true from rfl) (Nat.le_of_ble_eq_true rfl) dL_law_3351 ⟨by omega, by omega⟩ (fun r3351 τ3351 hp3351 => ?_)
  obtain ⟨hr0, v9, υ9, hP9, hτ9⟩ := hp3351
  refine zv_eqi (y := zI 0) hr0 ?_
  obtain ⟨hv9, hC9, hF9⟩ := hP9
  have hC1 := zCP_w (τ := τ3351) hC9 (fun x y hx => by rw [hτ9]; exact ⟨rfl, by first | rfl | rw [gJ_sJ, if_neg (by omega)]⟩)
  have hM1 : zMP τ3351 (zDv.mk ni tx ec eo U S hh kp ou) := by rw [hτ9]; exact (zMP_fr hR.2 hF9 : zMP υ9 (zDv.mk ni tx ec eo U S hh kp ou))
  have ho9 : gJ τ3351 339 0 = v9.toInt64 := by rw [hτ9, gJ_sJ, if_pos ⟨rfl, rfl⟩]
  rw [hv9] at ho9
  refine zv_istore (lv' := [(6, .int (zI 0)), (0, .ref b0), (1, .ref (ob E 0)), (2, .ref (ob E 327)), (3, .ref (ob E 339)), (4, .ref (ob E 340)), (5, .int (zI (i : Int)))]) C dL_law_3354  (by decide) rfl ?_
  refine zv_aload_n C 3 dL_law_3356 rfl rfl ?_
  refine zv_aload_n C 1 dL_law_3357 rfl rfl ?_
  refine zv_iload C 6 dL_law_3358 rfl ?_
  refine zv_iconst (v := zI 1) C dL_law_3360 rfl ?_
  refine zv_iaddZ C dL_law_3361 ?_
  refine zv_sld (j := i + 1) (v := (zI (n1 : Int))) C W.2.2.1 W.2.2.2.1 W.2.2.2.2.1 W.2.2.2.2.2 (zI_ix (by omega)) (by omega) hx1 dL_law_3362 ?_
  refine zv_aload_n C 1 dL_law_3363 rfl rfl ?_
  refine zv_iload C 6 dL_law_3364 rfl ?_
  refine zv_iconst (v := zI 2) C dL_law_3366 rfl ?_
  refine zv_iaddZ C dL_law_3367 ?_
  refine zv_sld (j := i + 2) (v := (zI v2)) C W.2.2.1 W.2.2.2.1 W.2.2.2.2.1 W.2.2.2.2.2 (zI_ix (by omega)) (by omega) hx2 dL_law_3368 ?_
  refine zv_aload_n C 1 dL_law_3369 rfl rfl ?_
  refine zv_iload C 6 dL_law_3370 rfl ?_
  refine zv_iconst (v := zI 3) C dL_law_3372 rfl ?_
  refine zv_iaddZ C dL_law_3373 ?_
  refine zv_sld (j := i + 3) (v := (zI v3)) C W.2.2.1 W.2.2.2.1 W.2.2.2.2.1 W.2.2.2.2.2 (zI_ix (by omega)) (by omega) hx3 dL_law_3374 ?_
  refine zv_aload_n C 1 dL_law_3375 rfl rfl ?_
  refine zv_iload C 6 dL_law_3376 rfl ?_
  refine zv_iconst (v := zI 4) C dL_law_3378 rfl ?_
  refine zv_iaddZ C dL_law_3379 ?_
  refine zv_sld (j := i + 4) (v := (zI v4)) C W.2.2.1 W.2.2.2.1 W.2.2.2.2.1 W.2.2.2.2.2 (zI_ix (by omega)) (by omega) hx4 dL_law_3380 ?_
  refine zv_cvi (st := []) C (c_X11_printErrors hfl E τ3351 σ ni tx ec eo U S hh kp ou n1 v2 v3 v4 hM1 hR.1.2.2.1 hR.1.2.2.2.1.1 (by first | assumption | omega) (by first | assumption | omega) (by first | assumption | omega) (by first | assumption | omega) (by first | assumption | omega)) mX11_printErrors kL_344 (by decide : kd 327 = 10) rfl rfl rfl ⟨rfl, rfl⟩ (show zfit (zrm 2 46) 7 room_1 = true from rfl) (Nat.le_of_ble_eq_true rfl) dL_law_3381 ⟨by omega, by omega⟩ (fun r3381 τ3381 hp3381 => ?_)
  obtain ⟨hr2, hK2⟩ := hp3381
  refine zv_eqi (y := zI (((peL U S n1 v2 v3 v4 40).length : Nat) : Int)) hr2 ?_
  have hR2 : zRel τ3381 _ := ⟨zCP_fr hC1 hK2.2.2, hK2.1⟩
  have ht2 : gI τ3381 327 10 = zI 0 := hK2.2.1
  have hJ2 : gJ τ3381 339 0 = gJ τ3351 339 0 := hK2.2.2.2.1 339 0 (by decide)
  refine zv_istore (lv' := [(7, .int (zI (((peL U S n1 v2 v3 v4 40).length : Nat) : Int))), (6, .int (zI 0)), (0, .ref b0), (1, .ref (ob E 0)), (2, .ref (ob E 327)), (3, .ref (ob E 339)), (4, .ref (ob E 340)), (5, .int (zI (i : Int)))]) C dL_law_3384  (by decide) rfl ?_
  refine zv_aload_n C 4 dL_law_3386 rfl rfl ?_
  refine zv_cviD (st := []) C (c_X11_thrown hfl E τ3381) mX11_thrown kL_200 (by decide : kd 327 = 10) rfl rfl rfl ⟨rfl, rfl⟩ (show zfit (zrm 0 0) 1 room_1 = true from rfl) (Nat.le_of_ble_eq_true rfl) dL_law_3387 ⟨by omega, by omega⟩ ?_
  refine zv_eqi (y := (zI 0)) (ht2) ?_
  refine zv_iload C 1 dL_law_3390 rfl ?_
  refine zv_icmp_eqZ (tgt := 3397) C (by omega) (by omega) dL_law_3392 (by decide) (fun h3392 => ?_) (fun h3392 => ?_)
  · skip
    refine zv_iload C 1 dL_law_3397 rfl ?_
    refine zv_if_neZ (tgt := 3414) C (by omega) dL_law_3399 (by decide) (fun h3399 => absurd h3399 (by decide)) (fun h3399 => ?_)
    refine zv_aload_n C 5 dL_law_3402 rfl rfl ?_
    refine zv_iconst (v := zI 0) C dL_law_3403 rfl ?_
    refine zv_lald (j := 0) C (by decide : kd 339 = _) (zI_ix (by omega)) (by decide) dL_law_3404 ?_
    refine zv_eql (y := ((zI (((peL U S n1 v2 v3 v4 40).length : Nat) : Int)).toInt64)) (hJ2.trans ho9) ?_
    refine zv_iload C 0 dL_law_3405 rfl ?_
    refine zv_i2l C dL_law_3407 ?_
    refine zv_lc_eq (tgt := 3414) C dL_law_3408 dL_law_3409 (by decide) (fun h3408 => ?_) (fun h3408 => ?_)
    · skip
      refine zv_goto (tgt := 3624) C dL_law_3414 (by decide) ?_
      refine zv_sub (lv' := [(0, .ref b0), (1, .ref (ob E 0)), (2, .ref (ob E 327)), (3, .ref (ob E 339)), (4, .ref (ob E 340)), (5, .int (zI (i : Int)))]) [2, 3, 4, 5, 6, 7] (zcons rfl (zcons rfl (zcons rfl (zcons rfl (zcons rfl (zcons rfl rfl)))))) ?_
      exact kk _ _ _ _ (by omega) (by omega) hR2
    · exfalso
      exact h3408 rfl
  · exfalso
    omega
set_option maxRecDepth 20000 in
theorem lw_printErrors_x1_x1 {p : Program} {l : Launch} {e : Env} {s : State} {m : MethodId} {args : Array Value} {below : List Frame} {meth : Method} {c : Code} {E : zE} {Q : State → Prop} {b0 L i ce sl : Nat} {xs : Nat → Int32} {σ : zS} (ni : Nat) (tx : Nat → Int) (ec : Nat) (eo : Int) (U : zSU) (S : zST) (hh : List zST) (kp : Option zST) (ou : List Nat) (v1 : Int) (v2 : Int) (v3 : Int) (v4 : Int) (W : zLW p l s m args meth c E b0 L xs) (hi : i + 6 ≤ L) (hcs : ce + 1 ≤ room_1.cells ∧ sl + 6 ≤ room_1.slots) (hR : zRel σ (zDv.mk ni tx ec eo U S hh kp ou)) (hx1 : xs (i + 1) = (zI v1)) (hx2 : xs (i + 2) = (zI v2)) (hx3 : xs (i + 3) = (zI v3)) (hx4 : xs (i + 4) = (zI v4)) (hbi0 : -2147483648 ≤ v1 ∧ v1 < 2147483648) (hno1 : ¬ (0 ≤ v1 ∧ v1 < U.nb))  (kk : zNx p l e s m args below meth c E Q b0 i ce sl) : zV p l e room_1 s m args below meth c 9 E Q ce sl σ 3325 (lwL b0 i E) [] := by
  refine (?_ : zV p l e room_1 s m args below meth c 9 E Q ce sl σ 3325 [(0, .ref b0), (1, .ref (ob E 0)), (2, .ref (ob E 327)), (3, .ref (ob E 339)), (4, .ref (ob E 340)), (5, .int (zI (i : Int)))] [])
  have C := W.2.1
  have hfl := W.1
  have hroom : room_1.cells = 601024 ∧ room_1.slots = 7293034 := ⟨rfl, rfl⟩
  refine zv_aload_n C 1 dL_law_3325 rfl rfl ?_
  refine zv_aload_n C 0 dL_law_3326 rfl rfl ?_
  refine zv_iload C 5 dL_law_3327 rfl ?_
  refine zv_iconst (v := zI 1) C dL_law_3329 rfl ?_
  refine zv_iaddZ C dL_law_3330 ?_
  refine zv_sld (j := i + 1) (v := (zI v1)) C W.2.2.1 W.2.2.2.1 W.2.2.2.2.1 W.2.2.2.2.2 (zI_ix (by omega)) (by omega) hx1 dL_law_3331 ?_
  refine zv_aload_n C 0 dL_law_3332 rfl rfl ?_
  refine zv_iload C 5 dL_law_3333 rfl ?_
  refine zv_iconst (v := zI 2) C dL_law_3335 rfl ?_
  refine zv_iaddZ C dL_law_3336 ?_
  refine zv_sld (j := i + 2) (v := (zI v2)) C W.2.2.1 W.2.2.2.1 W.2.2.2.2.1 W.2.2.2.2.2 (zI_ix (by omega)) (by omega) hx2 dL_law_3337 ?_
  refine zv_aload_n C 0 dL_law_3338 rfl rfl ?_
  refine zv_iload C 5 dL_law_3339 rfl ?_
  refine zv_iconst (v := zI 3) C dL_law_3341 rfl ?_
  refine zv_iaddZ C dL_law_3342 ?_
  refine zv_sld (j := i + 3) (v := (zI v3)) C W.2.2.1 W.2.2.2.1 W.2.2.2.2.1 W.2.2.2.2.2 (zI_ix (by omega)) (by omega) hx3 dL_law_3343 ?_
  refine zv_aload_n C 0 dL_law_3344 rfl rfl ?_
  refine zv_iload C 5 dL_law_3345 rfl ?_
  refine zv_iconst (v := zI 4) C dL_law_3347 rfl ?_
  refine zv_iaddZ C dL_law_3348 ?_
  refine zv_sld (j := i + 4) (v := (zI v4)) C W.2.2.1 W.2.2.2.1 W.2.2.2.2.1 W.2.2.2.2.2 (zI_ix (by omega)) (by omega) hx4 dL_law_3349 ?_
  refine zv_aload_n C 3 dL_law_3350 rfl rfl ?_
  refine zv_cH (st := []) C (w_x1_X10_printErrors hfl E σ U v1 v2 v3 v4 hR.1.2.2.1 (by first | assumption | omega) (by first | assumption | omega)) mL_printErrors kL_342 rfl ⟨rfl, rfl⟩ (show zfit (zrx 13 327) 7 room_1 = true from rfl) (Nat.le_of_ble_eq_true rfl) dL_law_3351 ⟨by exact hcs.1, by exact hcs.2⟩ (fun r3351 τ3351 hp3351 => ?_)
  obtain ⟨hr0, hP9⟩ := hp3351
  refine zv_eqi (y := zI 1) hr0 ?_
  have hF9 : zFr 318 327 σ τ3351 := by rw [hP9]; exact (by first | exact zFr_refl _ _ _ | exact zFr_rW (zFr_refl _ _ _) (by omega) | exact zFr_rW (zFr_rW (zFr_refl _ _ _) (by omega)) (by omega) | exact qW_f _ _ _ _ | exact qM_f _ _ _ _ _ | exact rW2_f _ _ _ _ _ | exact rW3_f _ _ _ _ _ | exact alW_f _ _ _ _ _ | (split <;> first | exact zFr_refl _ _ _ | exact bW_f _ _ _ _) | assumption)
  have hR1 : zRel τ3351 (zDv.mk ni tx ec eo U S hh kp ou) := zRel_c hR hF9
  refine zv_istore (lv' := [(6, .int (zI 1)), (0, .ref b0), (1, .ref (ob E 0)), (2, .ref (ob E 327)), (3, .ref (ob E 339)), (4, .ref (ob E 340)), (5, .int (zI (i : Int)))]) C dL_law_3354  (by decide) rfl ?_
  refine zv_aload_n C 3 dL_law_3356 rfl rfl ?_
  refine zv_aload_n C 1 dL_law_3357 rfl rfl ?_
  refine zv_iload C 6 dL_law_3358 rfl ?_
  refine zv_iconst (v := zI 1) C dL_law_3360 rfl ?_
  refine zv_iaddZ C dL_law_3361 ?_
  refine zv_sld (j := i + 1) (v := (zI v1)) C W.2.2.1 W.2.2.2.1 W.2.2.2.2.1 W.2.2.2.2.2 (zI_ix (by omega)) (by omega) hx1 dL_law_3362 ?_
  refine zv_aload_n C 1 dL_law_3363 rfl rfl ?_
  refine zv_iload C 6 dL_law_3364 rfl ?_
  refine zv_iconst (v := zI 2) C dL_law_3366 rfl ?_
  refine zv_iaddZ C dL_law_3367 ?_
  refine zv_sld (j := i + 2) (v := (zI v2)) C W.2.2.1 W.2.2.2.1 W.2.2.2.2.1 W.2.2.2.2.2 (zI_ix (by omega)) (by omega) hx2 dL_law_3368 ?_
  refine zv_aload_n C 1 dL_law_3369 rfl rfl ?_
  refine zv_iload C 6 dL_law_3370 rfl ?_
  refine zv_iconst (v := zI 3) C dL_law_3372 rfl ?_
  refine zv_iaddZ C dL_law_3373 ?_
  refine zv_sld (j := i + 3) (v := (zI v3)) C W.2.2.1 W.2.2.2.1 W.2.2.2.2.1 W.2.2.2.2.2 (zI_ix (by omega)) (by omega) hx3 dL_law_3374 ?_
  refine zv_aload_n C 1 dL_law_3375 rfl rfl ?_
  refine zv_iload C 6 dL_law_3376 rfl ?_
  refine zv_iconst (v := zI 4) C dL_law_3378 rfl ?_
  refine zv_iaddZ C dL_law_3379 ?_
  refine zv_sld (j := i + 4) (v := (zI v4)) C W.2.2.1 W.2.2.2.1 W.2.2.2.2.1 W.2.2.2.2.2 (zI_ix (by omega)) (by omega) hx4 dL_law_3380 ?_
  refine zv_cvi (st := []) C (x1_X11_printErrors hfl E τ3351 σ U v1 v2 v3 v4 hR1.2.2.2.1 hR.1.2.2.1 (by first | assumption | omega) (by first | assumption | omega)) mX11_printErrors kL_344 (by decide : kd 327 = 10) rfl rfl rfl ⟨rfl, rfl⟩ (show zfit (zrm 2 46) 7 room_1 = true from rfl) (Nat.le_of_ble_eq_true rfl) dL_law_3381 ⟨by omega, by omega⟩ (fun r3381 τ3381 hp3381 => ?_)
  obtain ⟨hr2, hK2⟩ := hp3381
  refine zv_eqi (y := zI 0) hr2 ?_
  have hR2 : zRel τ3381 (zDv.mk ni tx ec eo U S hh kp ou) := zRel_m hR1 hK2
  have ht2 : gI τ3381 327 10 = zI 1 := hK2.2
  have hJ2 : gJ τ3381 339 0 = gJ τ3351 339 0 := hK2.1.2.1 339 0 (by decide)
  have hD2 : gD τ3381 340 0 = gD τ3351 340 0 := hK2.1.2.2 340 0
  refine zv_istore (lv' := [(7, .int (zI 0)), (6, .int (zI 1)), (0, .ref b0), (1, .ref (ob E 0)), (2, .ref (ob E 327)), (3, .ref (ob E 339)), (4, .ref (ob E 340)), (5, .int (zI (i : Int)))]) C dL_law_3384  (by decide) rfl ?_
  refine zv_aload_n C 4 dL_law_3386 rfl rfl ?_
  refine zv_cviD (st := []) C (c_X11_thrown hfl E τ3381) mX11_thrown kL_200 (by decide : kd 327 = 10) rfl rfl rfl ⟨rfl, rfl⟩ (show zfit (zrm 0 0) 1 room_1 = true from rfl) (Nat.le_of_ble_eq_true rfl) dL_law_3387 ⟨by omega, by omega⟩ ?_
  refine zv_eqi (y := (zI 1)) (ht2) ?_
  refine zv_iload C 1 dL_law_3390 rfl ?_
  refine zv_icmp_eqZ (tgt := 3397) C (by omega) (by omega) dL_law_3392 (by decide) (fun h3392 => ?_) (fun h3392 => ?_)
  · skip
    refine zv_iload C 1 dL_law_3397 rfl ?_
    refine zv_if_neZ (tgt := 3414) C (by omega) dL_law_3399 (by decide) (fun h3399 => ?_) (fun h3399 => absurd h3399 (by decide))
    refine zv_goto (tgt := 3624) C dL_law_3414 (by decide) ?_
    refine zv_sub (lv' := [(0, .ref b0), (1, .ref (ob E 0)), (2, .ref (ob E 327)), (3, .ref (ob E 339)), (4, .ref (ob E 340)), (5, .int (zI (i : Int)))]) [2, 3, 4, 5, 6, 7] (zcons rfl (zcons rfl (zcons rfl (zcons rfl (zcons rfl (zcons rfl rfl)))))) ?_
    exact kk _ _ _ _ (by omega) (by omega) hR2
  · exfalso
    omega
set_option maxRecDepth 20000 in
theorem lw_printErrors_x2_x2 {p : Program} {l : Launch} {e : Env} {s : State} {m : MethodId} {args : Array Value} {below : List Frame} {meth : Method} {c : Code} {E : zE} {Q : State → Prop} {b0 L i ce sl : Nat} {xs : Nat → Int32} {σ : zS} (ni : Nat) (tx : Nat → Int) (ec : Nat) (eo : Int) (U : zSU) (S : zST) (hh : List zST) (kp : Option zST) (ou : List Nat) (n1 : Nat) (v2 : Int) (v3 : Int) (v4 : Int) (W : zLW p l s m args meth c E b0 L xs) (hi : i + 6 ≤ L) (hcs : ce + 1 ≤ room_1.cells ∧ sl + 6 ≤ room_1.slots) (hR : zRel σ (zDv.mk ni tx ec eo U S hh kp ou)) (hx1 : xs (i + 1) = (zI (n1 : Int))) (hx2 : xs (i + 2) = (zI v2)) (hx3 : xs (i + 3) = (zI v3)) (hx4 : xs (i + 4) = (zI v4)) (hi0 : n1 < U.nb) (hyi1 : -2147483648 ≤ v2 ∧ v2 < 2147483648) (hzi2 : -2147483648 ≤ v3 ∧ v3 < 2147483648) (hno3 : ¬ (U.s0 ≤ v2 ∧ v2 ≤ U.s0 + 999)) (hvr : -2147483648 ≤ v4 ∧ v4 < 2147483648) (kk : zNx p l e s m args below meth c E Q b0 i ce sl) : zV p l e room_1 s m args below meth c 9 E Q ce sl σ 3325 (lwL b0 i E) [] := by
  refine (?_ : zV p l e room_1 s m args below meth c 9 E Q ce sl σ 3325 [(0, .ref b0), (1, .ref (ob E 0)), (2, .ref (ob E 327)), (3, .ref (ob E 339)), (4, .ref (ob E 340)), (5, .int (zI (i : Int)))] [])
  have C := W.2.1
  have hfl := W.1
  have hroom : room_1.cells = 601024 ∧ room_1.slots = 7293034 := ⟨rfl, rfl⟩
  refine zv_aload_n C 1 dL_law_3325 rfl rfl ?_
  refine zv_aload_n C 0 dL_law_3326 rfl rfl ?_
  refine zv_iload C 5 dL_law_3327 rfl ?_
  refine zv_iconst (v := zI 1) C dL_law_3329 rfl ?_
  refine zv_iaddZ C dL_law_3330 ?_
  refine zv_sld (j := i + 1) (v := (zI (n1 : Int))) C W.2.2.1 W.2.2.2.1 W.2.2.2.2.1 W.2.2.2.2.2 (zI_ix (by omega)) (by omega) hx1 dL_law_3331 ?_
  refine zv_aload_n C 0 dL_law_3332 rfl rfl ?_
  refine zv_iload C 5 dL_law_3333 rfl ?_
  refine zv_iconst (v := zI 2) C dL_law_3335 rfl ?_
  refine zv_iaddZ C dL_law_3336 ?_
  refine zv_sld (j := i + 2) (v := (zI v2)) C W.2.2.1 W.2.2.2.1 W.2.2.2.2.1 W.2.2.2.2.2 (zI_ix (by omega)) (by omega) hx2 dL_law_3337 ?_
  refine zv_aload_n C 0 dL_law_3338 rfl rfl ?_
  refine zv_iload C 5 dL_law_3339 rfl ?_
  refine zv_iconst (v := zI 3) C dL_law_3341 rfl ?_
  refine zv_iaddZ C dL_law_3342 ?_
  refine zv_sld (j := i + 3) (v := (zI v3)) C W.2.2.1 W.2.2.2.1 W.2.2.2.2.1 W.2.2.2.2.2 (zI_ix (by omega)) (by omega) hx3 dL_law_3343 ?_
  refine zv_aload_n C 0 dL_law_3344 rfl rfl ?_
  refine zv_iload C 5 dL_law_3345 rfl ?_
  refine zv_iconst (v := zI 4) C dL_law_3347 rfl ?_
  refine zv_iaddZ C dL_law_3348 ?_
  refine zv_sld (j := i + 4) (v := (zI v4)) C W.2.2.1 W.2.2.2.1 W.2.2.2.2.1 W.2.2.2.2.2 (zI_ix (by omega)) (by omega) hx4 dL_law_3349 ?_
  refine zv_aload_n C 3 dL_law_3350 rfl rfl ?_
  refine zv_cH (st := []) C (w_x2_X10_printErrors hfl E σ U n1 v2 v3 v4 hR.1.2.2.1 (by first | assumption | omega) (by first | assumption | omega) (by first | assumption | omega) (by first | assumption | omega)) mL_printErrors kL_342 rfl ⟨rfl, rfl⟩ (show zfit (zrx 13 327) 7 room_1 = true from rfl) (Nat.le_of_ble_eq_true rfl) dL_law_3351 ⟨by exact hcs.1, by exact hcs.2⟩ (fun r3351 τ3351 hp3351 => ?_)
  obtain ⟨hr0, hP9⟩ := hp3351
  refine zv_eqi (y := zI 2) hr0 ?_
  have hF9 : zFr 318 327 σ τ3351 := by rw [hP9]; exact (by first | exact zFr_refl _ _ _ | exact zFr_rW (zFr_refl _ _ _) (by omega) | exact zFr_rW (zFr_rW (zFr_refl _ _ _) (by omega)) (by omega) | exact qW_f _ _ _ _ | exact qM_f _ _ _ _ _ | exact rW2_f _ _ _ _ _ | exact rW3_f _ _ _ _ _ | exact alW_f _ _ _ _ _ | (split <;> first | exact zFr_refl _ _ _ | exact bW_f _ _ _ _) | assumption)
  have hR1 : zRel τ3351 (zDv.mk ni tx ec eo U S hh kp ou) := zRel_c hR hF9
  refine zv_istore (lv' := [(6, .int (zI 2)), (0, .ref b0), (1, .ref (ob E 0)), (2, .ref (ob E 327)), (3, .ref (ob E 339)), (4, .ref (ob E 340)), (5, .int (zI (i : Int)))]) C dL_law_3354  (by decide) rfl ?_
  refine zv_aload_n C 3 dL_law_3356 rfl rfl ?_
  refine zv_aload_n C 1 dL_law_3357 rfl rfl ?_
  refine zv_iload C 6 dL_law_3358 rfl ?_
  refine zv_iconst (v := zI 1) C dL_law_3360 rfl ?_
  refine zv_iaddZ C dL_law_3361 ?_
  refine zv_sld (j := i + 1) (v := (zI (n1 : Int))) C W.2.2.1 W.2.2.2.1 W.2.2.2.2.1 W.2.2.2.2.2 (zI_ix (by omega)) (by omega) hx1 dL_law_3362 ?_
  refine zv_aload_n C 1 dL_law_3363 rfl rfl ?_
  refine zv_iload C 6 dL_law_3364 rfl ?_
  refine zv_iconst (v := zI 2) C dL_law_3366 rfl ?_
  refine zv_iaddZ C dL_law_3367 ?_
  refine zv_sld (j := i + 2) (v := (zI v2)) C W.2.2.1 W.2.2.2.1 W.2.2.2.2.1 W.2.2.2.2.2 (zI_ix (by omega)) (by omega) hx2 dL_law_3368 ?_
  refine zv_aload_n C 1 dL_law_3369 rfl rfl ?_
  refine zv_iload C 6 dL_law_3370 rfl ?_
  refine zv_iconst (v := zI 3) C dL_law_3372 rfl ?_
  refine zv_iaddZ C dL_law_3373 ?_
  refine zv_sld (j := i + 3) (v := (zI v3)) C W.2.2.1 W.2.2.2.1 W.2.2.2.2.1 W.2.2.2.2.2 (zI_ix (by omega)) (by omega) hx3 dL_law_3374 ?_
  refine zv_aload_n C 1 dL_law_3375 rfl rfl ?_
  refine zv_iload C 6 dL_law_3376 rfl ?_
  refine zv_iconst (v := zI 4) C dL_law_3378 rfl ?_
  refine zv_iaddZ C dL_law_3379 ?_
  refine zv_sld (j := i + 4) (v := (zI v4)) C W.2.2.1 W.2.2.2.1 W.2.2.2.2.1 W.2.2.2.2.2 (zI_ix (by omega)) (by omega) hx4 dL_law_3380 ?_
  refine zv_cvi (st := []) C (x2_X11_printErrors hfl E τ3351 σ U n1 v2 v3 v4 hR1.2.2.2.1 hR.1.2.2.1 (by first | assumption | omega) (by first | assumption | omega) (by first | assumption | omega) (by first | assumption | omega) (by first | assumption | omega)) mX11_printErrors kL_344 (by decide : kd 327 = 10) rfl rfl rfl ⟨rfl, rfl⟩ (show zfit (zrm 2 46) 7 room_1 = true from rfl) (Nat.le_of_ble_eq_true rfl) dL_law_3381 ⟨by omega, by omega⟩ (fun r3381 τ3381 hp3381 => ?_)
  obtain ⟨hr2, hK2⟩ := hp3381
  refine zv_eqi (y := zI 0) hr2 ?_
  have hR2 : zRel τ3381 (zDv.mk ni tx ec eo U S hh kp ou) := zRel_m hR1 hK2
  have ht2 : gI τ3381 327 10 = zI 2 := hK2.2
  have hJ2 : gJ τ3381 339 0 = gJ τ3351 339 0 := hK2.1.2.1 339 0 (by decide)
  have hD2 : gD τ3381 340 0 = gD τ3351 340 0 := hK2.1.2.2 340 0
  refine zv_istore (lv' := [(7, .int (zI 0)), (6, .int (zI 2)), (0, .ref b0), (1, .ref (ob E 0)), (2, .ref (ob E 327)), (3, .ref (ob E 339)), (4, .ref (ob E 340)), (5, .int (zI (i : Int)))]) C dL_law_3384  (by decide) rfl ?_
  refine zv_aload_n C 4 dL_law_3386 rfl rfl ?_
  refine zv_cviD (st := []) C (c_X11_thrown hfl E τ3381) mX11_thrown kL_200 (by decide : kd 327 = 10) rfl rfl rfl ⟨rfl, rfl⟩ (show zfit (zrm 0 0) 1 room_1 = true from rfl) (Nat.le_of_ble_eq_true rfl) dL_law_3387 ⟨by omega, by omega⟩ ?_
  refine zv_eqi (y := (zI 2)) (ht2) ?_
  refine zv_iload C 1 dL_law_3390 rfl ?_
  refine zv_icmp_eqZ (tgt := 3397) C (by omega) (by omega) dL_law_3392 (by decide) (fun h3392 => ?_) (fun h3392 => ?_)
  · skip
    refine zv_iload C 1 dL_law_3397 rfl ?_
    refine zv_if_neZ (tgt := 3414) C (by omega) dL_law_3399 (by decide) (fun h3399 => ?_) (fun h3399 => absurd h3399 (by decide))
    refine zv_goto (tgt := 3624) C dL_law_3414 (by decide) ?_
    refine zv_sub (lv' := [(0, .ref b0), (1, .ref (ob E 0)), (2, .ref (ob E 327)), (3, .ref (ob E 339)), (4, .ref (ob E 340)), (5, .int (zI (i : Int)))]) [2, 3, 4, 5, 6, 7] (zcons rfl (zcons rfl (zcons rfl (zcons rfl (zcons rfl (zcons rfl rfl)))))) ?_
    exact kk _ _ _ _ (by omega) (by omega) hR2
  · exfalso
    omega
set_option maxRecDepth 20000 in
theorem lw_printErrors_x3_x2 {p : Program} {l : Launch} {e : Env} {s : State} {m : MethodId} {args : Array Value} {below : List Frame} {meth : Method} {c : Code} {E : zE} {Q : State → Prop} {b0 L i ce sl : Nat} {xs : Nat → Int32} {σ : zS} (ni : Nat) (tx : Nat → Int) (ec : Nat) (eo : Int) (U : zSU) (S : zST) (hh : List zST) (kp : Option zST) (ou : List Nat) (n1 : Nat) (v2 : Int) (v3 : Int) (v4 : Int) (W : zLW p l s m args meth c E b0 L xs) (hi : i + 6 ≤ L) (hcs : ce + 1 ≤ room_1.cells ∧ sl + 6 ≤ room_1.slots) (hR : zRel σ (zDv.mk ni tx ec eo U S hh kp ou)) (hx1 : xs (i + 1) = (zI (n1 : Int))) (hx2 : xs (i + 2) = (zI v2)) (hx3 : xs (i + 3) = (zI v3)) (hx4 : xs (i + 4) = (zI v4)) (hi0 : n1 < U.nb) (hyi1 : -2147483648 ≤ v2 ∧ v2 < 2147483648) (hzi2 : -2147483648 ≤ v3 ∧ v3 < 2147483648) (hy3 : U.s0 ≤ v2 ∧ v2 ≤ U.s0 + 999) (hno4 : ¬ (U.s0 ≤ v3 ∧ v3 ≤ U.s0 + 999)) (hvr : -2147483648 ≤ v4 ∧ v4 < 2147483648) (kk : zNx p l e s m args below meth c E Q b0 i ce sl) : zV p l e room_1 s m args below meth c 9 E Q ce sl σ 3325 (lwL b0 i E) [] := by
  refine (?_ : zV p l e room_1 s m args below meth c 9 E Q ce sl σ 3325 [(0, .ref b0), (1, .ref (ob E 0)), (2, .ref (ob E 327)), (3, .ref (ob E 339)), (4, .ref (ob E 340)), (5, .int (zI (i : Int)))] [])
  have C := W.2.1
  have hfl := W.1
  have hroom : room_1.cells = 601024 ∧ room_1.slots = 7293034 := ⟨rfl, rfl⟩
  refine zv_aload_n C 1 dL_law_3325 rfl rfl ?_
  refine zv_aload_n C 0 dL_law_3326 rfl rfl ?_
  refine zv_iload C 5 dL_law_3327 rfl ?_
  refine zv_iconst (v := zI 1) C dL_law_3329 rfl ?_
  refine zv_iaddZ C dL_law_3330 ?_
  refine zv_sld (j := i + 1) (v := (zI (n1 : Int))) C W.2.2.1 W.2.2.2.1 W.2.2.2.2.1 W.2.2.2.2.2 (zI_ix (by omega)) (by omega) hx1 dL_law_3331 ?_
  refine zv_aload_n C 0 dL_law_3332 rfl rfl ?_
  refine zv_iload C 5 dL_law_3333 rfl ?_
  refine zv_iconst (v := zI 2) C dL_law_3335 rfl ?_
  refine zv_iaddZ C dL_law_3336 ?_
  refine zv_sld (j := i + 2) (v := (zI v2)) C W.2.2.1 W.2.2.2.1 W.2.2.2.2.1 W.2.2.2.2.2 (zI_ix (by omega)) (by omega) hx2 dL_law_3337 ?_
  refine zv_aload_n C 0 dL_law_3338 rfl rfl ?_
  refine zv_iload C 5 dL_law_3339 rfl ?_
  refine zv_iconst (v := zI 3) C dL_law_3341 rfl ?_
  refine zv_iaddZ C dL_law_3342 ?_
  refine zv_sld (j := i + 3) (v := (zI v3)) C W.2.2.1 W.2.2.2.1 W.2.2.2.2.1 W.2.2.2.2.2 (zI_ix (by omega)) (by omega) hx3 dL_law_3343 ?_
  refine zv_aload_n C 0 dL_law_3344 rfl rfl ?_
  refine zv_iload C 5 dL_law_3345 rfl ?_
  refine zv_iconst (v := zI 4) C dL_law_3347 rfl ?_
  refine zv_iaddZ C dL_law_3348 ?_
  refine zv_sld (j := i + 4) (v := (zI v4)) C W.2.2.1 W.2.2.2.1 W.2.2.2.2.1 W.2.2.2.2.2 (zI_ix (by omega)) (by omega) hx4 dL_law_3349 ?_
  refine zv_aload_n C 3 dL_law_3350 rfl rfl ?_
  refine zv_cH (st := []) C (w_x3_X10_printErrors hfl E σ U n1 v2 v3 v4 hR.1.2.2.1 (by first | assumption | omega) (by first | assumption | omega) (by first | assumption | omega) (by first | assumption | omega) (by first | assumption | omega)) mL_printErrors kL_342 rfl ⟨rfl, rfl⟩ (show zfit (zrx 13 327) 7 room_1 = true from rfl) (Nat.le_of_ble_eq_true rfl) dL_law_3351 ⟨by exact hcs.1, by exact hcs.2⟩ (fun r3351 τ3351 hp3351 => ?_)
  obtain ⟨hr0, hP9⟩ := hp3351
  refine zv_eqi (y := zI 2) hr0 ?_
  have hF9 : zFr 318 327 σ τ3351 := by rw [hP9]; exact (by first | exact zFr_refl _ _ _ | exact zFr_rW (zFr_refl _ _ _) (by omega) | exact zFr_rW (zFr_rW (zFr_refl _ _ _) (by omega)) (by omega) | exact qW_f _ _ _ _ | exact qM_f _ _ _ _ _ | exact rW2_f _ _ _ _ _ | exact rW3_f _ _ _ _ _ | exact alW_f _ _ _ _ _ | (split <;> first | exact zFr_refl _ _ _ | exact bW_f _ _ _ _) | assumption)
  have hR1 : zRel τ3351 (zDv.mk ni tx ec eo U S hh kp ou) := zRel_c hR hF9
  refine zv_istore (lv' := [(6, .int (zI 2)), (0, .ref b0), (1, .ref (ob E 0)), (2, .ref (ob E 327)), (3, .ref (ob E 339)), (4, .ref (ob E 340)), (5, .int (zI (i : Int)))]) C dL_law_3354  (by decide) rfl ?_
  refine zv_aload_n C 3 dL_law_3356 rfl rfl ?_
  refine zv_aload_n C 1 dL_law_3357 rfl rfl ?_
  refine zv_iload C 6 dL_law_3358 rfl ?_
  refine zv_iconst (v := zI 1) C dL_law_3360 rfl ?_
  refine zv_iaddZ C dL_law_3361 ?_
  refine zv_sld (j := i + 1) (v := (zI (n1 : Int))) C W.2.2.1 W.2.2.2.1 W.2.2.2.2.1 W.2.2.2.2.2 (zI_ix (by omega)) (by omega) hx1 dL_law_3362 ?_
  refine zv_aload_n C 1 dL_law_3363 rfl rfl ?_
  refine zv_iload C 6 dL_law_3364 rfl ?_
  refine zv_iconst (v := zI 2) C dL_law_3366 rfl ?_
  refine zv_iaddZ C dL_law_3367 ?_
  refine zv_sld (j := i + 2) (v := (zI v2)) C W.2.2.1 W.2.2.2.1 W.2.2.2.2.1 W.2.2.2.2.2 (zI_ix (by omega)) (by omega) hx2 dL_law_3368 ?_
  refine zv_aload_n C 1 dL_law_3369 rfl rfl ?_
  refine zv_iload C 6 dL_law_3370 rfl ?_
  refine zv_iconst (v := zI 3) C dL_law_3372 rfl ?_
  refine zv_iaddZ C dL_law_3373 ?_
  refine zv_sld (j := i + 3) (v := (zI v3)) C W.2.2.1 W.2.2.2.1 W.2.2.2.2.1 W.2.2.2.2.2 (zI_ix (by omega)) (by omega) hx3 dL_law_3374 ?_
  refine zv_aload_n C 1 dL_law_3375 rfl rfl ?_
  refine zv_iload C 6 dL_law_3376 rfl ?_
  refine zv_iconst (v := zI 4) C dL_law_3378 rfl ?_
  refine zv_iaddZ C dL_law_3379 ?_
  refine zv_sld (j := i + 4) (v := (zI v4)) C W.2.2.1 W.2.2.2.1 W.2.2.2.2.1 W.2.2.2.2.2 (zI_ix (by omega)) (by omega) hx4 dL_law_3380 ?_
  refine zv_cvi (st := []) C (x2_X11_printErrors hfl E τ3351 σ U n1 v2 v3 v4 hR1.2.2.2.1 hR.1.2.2.1 (by first | assumption | omega) (by first | assumption | omega) (by first | assumption | omega) (by first | assumption | omega) (by first | assumption | omega)) mX11_printErrors kL_344 (by decide : kd 327 = 10) rfl rfl rfl ⟨rfl, rfl⟩ (show zfit (zrm 2 46) 7 room_1 = true from rfl) (Nat.le_of_ble_eq_true rfl) dL_law_3381 ⟨by omega, by omega⟩ (fun r3381 τ3381 hp3381 => ?_)
  obtain ⟨hr2, hK2⟩ := hp3381
  refine zv_eqi (y := zI 0) hr2 ?_
  have hR2 : zRel τ3381 (zDv.mk ni tx ec eo U S hh kp ou) := zRel_m hR1 hK2
  have ht2 : gI τ3381 327 10 = zI 2 := hK2.2
  have hJ2 : gJ τ3381 339 0 = gJ τ3351 339 0 := hK2.1.2.1 339 0 (by decide)
  have hD2 : gD τ3381 340 0 = gD τ3351 340 0 := hK2.1.2.2 340 0
  refine zv_istore (lv' := [(7, .int (zI 0)), (6, .int (zI 2)), (0, .ref b0), (1, .ref (ob E 0)), (2, .ref (ob E 327)), (3, .ref (ob E 339)), (4, .ref (ob E 340)), (5, .int (zI (i : Int)))]) C dL_law_3384  (by decide) rfl ?_
  refine zv_aload_n C 4 dL_law_3386 rfl rfl ?_
  refine zv_cviD (st := []) C (c_X11_thrown hfl E τ3381) mX11_thrown kL_200 (by decide : kd 327 = 10) rfl rfl rfl ⟨rfl, rfl⟩ (show zfit (zrm 0 0) 1 room_1 = true from rfl) (Nat.le_of_ble_eq_true rfl) dL_law_3387 ⟨by omega, by omega⟩ ?_
  refine zv_eqi (y := (zI 2)) (ht2) ?_
  refine zv_iload C 1 dL_law_3390 rfl ?_
  refine zv_icmp_eqZ (tgt := 3397) C (by omega) (by omega) dL_law_3392 (by decide) (fun h3392 => ?_) (fun h3392 => ?_)
  · skip
    refine zv_iload C 1 dL_law_3397 rfl ?_
    refine zv_if_neZ (tgt := 3414) C (by omega) dL_law_3399 (by decide) (fun h3399 => ?_) (fun h3399 => absurd h3399 (by decide))
    refine zv_goto (tgt := 3624) C dL_law_3414 (by decide) ?_
    refine zv_sub (lv' := [(0, .ref b0), (1, .ref (ob E 0)), (2, .ref (ob E 327)), (3, .ref (ob E 339)), (4, .ref (ob E 340)), (5, .int (zI (i : Int)))]) [2, 3, 4, 5, 6, 7] (zcons rfl (zcons rfl (zcons rfl (zcons rfl (zcons rfl (zcons rfl rfl)))))) ?_
    exact kk _ _ _ _ (by omega) (by omega) hR2
  · exfalso
    omega
set_option maxRecDepth 20000 in
theorem lw_printErrors_x4_x2 {p : Program} {l : Launch} {e : Env} {s : State} {m : MethodId} {args : Array Value} {below : List Frame} {meth : Method} {c : Code} {E : zE} {Q : State → Prop} {b0 L i ce sl : Nat} {xs : Nat → Int32} {σ : zS} (ni : Nat) (tx : Nat → Int) (ec : Nat) (eo : Int) (U : zSU) (S : zST) (hh : List zST) (kp : Option zST) (ou : List Nat) (n1 : Nat) (v2 : Int) (v3 : Int) (v4 : Int) (W : zLW p l s m args meth c E b0 L xs) (hi : i + 6 ≤ L) (hcs : ce + 1 ≤ room_1.cells ∧ sl + 6 ≤ room_1.slots) (hR : zRel σ (zDv.mk ni tx ec eo U S hh kp ou)) (hx1 : xs (i + 1) = (zI (n1 : Int))) (hx2 : xs (i + 2) = (zI v2)) (hx3 : xs (i + 3) = (zI v3)) (hx4 : xs (i + 4) = (zI v4)) (hi0 : n1 < U.nb) (hyi1 : -2147483648 ≤ v2 ∧ v2 < 2147483648) (hzi2 : -2147483648 ≤ v3 ∧ v3 < 2147483648) (hy3 : U.s0 ≤ v2 ∧ v2 ≤ U.s0 + 999) (hz4 : U.s0 ≤ v3 ∧ v3 ≤ U.s0 + 999) (hno5 : v3 < v2) (hvr : -2147483648 ≤ v4 ∧ v4 < 2147483648) (kk : zNx p l e s m args below meth c E Q b0 i ce sl) : zV p l e room_1 s m args below meth c 9 E Q ce sl σ 3325 (lwL b0 i E) [] := by
  refine (?_ : zV p l e room_1 s m args below meth c 9 E Q ce sl σ 3325 [(0, .ref b0), (1, .ref (ob E 0)), (2, .ref (ob E 327)), (3, .ref (ob E 339)), (4, .ref (ob E 340)), (5, .int (zI (i : Int)))] [])
  have C := W.2.1
  have hfl := W.1
  have hroom : room_1.cells = 601024 ∧ room_1.slots = 7293034 := ⟨rfl, rfl⟩
  refine zv_aload_n C 1 dL_law_3325 rfl rfl ?_
  refine zv_aload_n C 0 dL_law_3326 rfl rfl ?_
  refine zv_iload C 5 dL_law_3327 rfl ?_
  refine zv_iconst (v := zI 1) C dL_law_3329 rfl ?_
  refine zv_iaddZ C dL_law_3330 ?_
  refine zv_sld (j := i + 1) (v := (zI (n1 : Int))) C W.2.2.1 W.2.2.2.1 W.2.2.2.2.1 W.2.2.2.2.2 (zI_ix (by omega)) (by omega) hx1 dL_law_3331 ?_
  refine zv_aload_n C 0 dL_law_3332 rfl rfl ?_
  refine zv_iload C 5 dL_law_3333 rfl ?_
  refine zv_iconst (v := zI 2) C dL_law_3335 rfl ?_
  refine zv_iaddZ C dL_law_3336 ?_
  refine zv_sld (j := i + 2) (v := (zI v2)) C W.2.2.1 W.2.2.2.1 W.2.2.2.2.1 W.2.2.2.2.2 (zI_ix (by omega)) (by omega) hx2 dL_law_3337 ?_
  refine zv_aload_n C 0 dL_law_3338 rfl rfl ?_
  refine zv_iload C 5 dL_law_3339 rfl ?_
  refine zv_iconst (v := zI 3) C dL_law_3341 rfl ?_
  refine zv_iaddZ C dL_law_3342 ?_
  refine zv_sld (j := i + 3) (v := (zI v3)) C W.2.2.1 W.2.2.2.1 W.2.2.2.2.1 W.2.2.2.2.2 (zI_ix (by omega)) (by omega) hx3 dL_law_3343 ?_
  refine zv_aload_n C 0 dL_law_3344 rfl rfl ?_
  refine zv_iload C 5 dL_law_3345 rfl ?_
  refine zv_iconst (v := zI 4) C dL_law_3347 rfl ?_
  refine zv_iaddZ C dL_law_3348 ?_
  refine zv_sld (j := i + 4) (v := (zI v4)) C W.2.2.1 W.2.2.2.1 W.2.2.2.2.1 W.2.2.2.2.2 (zI_ix (by omega)) (by omega) hx4 dL_law_3349 ?_
  refine zv_aload_n C 3 dL_law_3350 rfl rfl ?_
  refine zv_cH (st := []) C (w_x4_X10_printErrors hfl E σ U n1 v2 v3 v4 hR.1.2.2.1 (by first | assumption | omega) (by first | assumption | omega) (by first | assumption | omega) (by first | assumption | omega) (by first | assumption | omega) (by first | assumption | omega)) mL_printErrors kL_342 rfl ⟨rfl, rfl⟩ (show zfit (zrx 13 327) 7 room_1 = true from rfl) (Nat.le_of_ble_eq_true rfl) dL_law_3351 ⟨by exact hcs.1, by exact hcs.2⟩ (fun r3351 τ3351 hp3351 => ?_)
  obtain ⟨hr0, hP9⟩ := hp3351
  refine zv_eqi (y := zI 2) hr0 ?_
  have hF9 : zFr 318 327 σ τ3351 := by rw [hP9]; exact (by first | exact zFr_refl _ _ _ | exact zFr_rW (zFr_refl _ _ _) (by omega) | exact zFr_rW (zFr_rW (zFr_refl _ _ _) (by omega)) (by omega) | exact qW_f _ _ _ _ | exact qM_f _ _ _ _ _ | exact rW2_f _ _ _ _ _ | exact rW3_f _ _ _ _ _ | exact alW_f _ _ _ _ _ | (split <;> first | exact zFr_refl _ _ _ | exact bW_f _ _ _ _) | assumption)
  have hR1 : zRel τ3351 (zDv.mk ni tx ec eo U S hh kp ou) := zRel_c hR hF9
  refine zv_istore (lv' := [(6, .int (zI 2)), (0, .ref b0), (1, .ref (ob E 0)), (2, .ref (ob E 327)), (3, .ref (ob E 339)), (4, .ref (ob E 340)), (5, .int (zI (i : Int)))]) C dL_law_3354  (by decide) rfl ?_
  refine zv_aload_n C 3 dL_law_3356 rfl rfl ?_
  refine zv_aload_n C 1 dL_law_3357 rfl rfl ?_
  refine zv_iload C 6 dL_law_3358 rfl ?_
  refine zv_iconst (v := zI 1) C dL_law_3360 rfl ?_
  refine zv_iaddZ C dL_law_3361 ?_
  refine zv_sld (j := i + 1) (v := (zI (n1 : Int))) C W.2.2.1 W.2.2.2.1 W.2.2.2.2.1 W.2.2.2.2.2 (zI_ix (by omega)) (by omega) hx1 dL_law_3362 ?_
  refine zv_aload_n C 1 dL_law_3363 rfl rfl ?_
  refine zv_iload C 6 dL_law_3364 rfl ?_
  refine zv_iconst (v := zI 2) C dL_law_3366 rfl ?_
  refine zv_iaddZ C dL_law_3367 ?_
  refine zv_sld (j := i + 2) (v := (zI v2)) C W.2.2.1 W.2.2.2.1 W.2.2.2.2.1 W.2.2.2.2.2 (zI_ix (by omega)) (by omega) hx2 dL_law_3368 ?_
  refine zv_aload_n C 1 dL_law_3369 rfl rfl ?_
  refine zv_iload C 6 dL_law_3370 rfl ?_
  refine zv_iconst (v := zI 3) C dL_law_3372 rfl ?_
  refine zv_iaddZ C dL_law_3373 ?_
  refine zv_sld (j := i + 3) (v := (zI v3)) C W.2.2.1 W.2.2.2.1 W.2.2.2.2.1 W.2.2.2.2.2 (zI_ix (by omega)) (by omega) hx3 dL_law_3374 ?_
  refine zv_aload_n C 1 dL_law_3375 rfl rfl ?_
  refine zv_iload C 6 dL_law_3376 rfl ?_
  refine zv_iconst (v := zI 4) C dL_law_3378 rfl ?_
  refine zv_iaddZ C dL_law_3379 ?_
  refine zv_sld (j := i + 4) (v := (zI v4)) C W.2.2.1 W.2.2.2.1 W.2.2.2.2.1 W.2.2.2.2.2 (zI_ix (by omega)) (by omega) hx4 dL_law_3380 ?_
  refine zv_cvi (st := []) C (x2_X11_printErrors hfl E τ3351 σ U n1 v2 v3 v4 hR1.2.2.2.1 hR.1.2.2.1 (by first | assumption | omega) (by first | assumption | omega) (by first | assumption | omega) (by first | assumption | omega) (by first | assumption | omega)) mX11_printErrors kL_344 (by decide : kd 327 = 10) rfl rfl rfl ⟨rfl, rfl⟩ (show zfit (zrm 2 46) 7 room_1 = true from rfl) (Nat.le_of_ble_eq_true rfl) dL_law_3381 ⟨by omega, by omega⟩ (fun r3381 τ3381 hp3381 => ?_)
  obtain ⟨hr2, hK2⟩ := hp3381
  refine zv_eqi (y := zI 0) hr2 ?_
  have hR2 : zRel τ3381 (zDv.mk ni tx ec eo U S hh kp ou) := zRel_m hR1 hK2
  have ht2 : gI τ3381 327 10 = zI 2 := hK2.2
  have hJ2 : gJ τ3381 339 0 = gJ τ3351 339 0 := hK2.1.2.1 339 0 (by decide)
  have hD2 : gD τ3381 340 0 = gD τ3351 340 0 := hK2.1.2.2 340 0
  refine zv_istore (lv' := [(7, .int (zI 0)), (6, .int (zI 2)), (0, .ref b0), (1, .ref (ob E 0)), (2, .ref (ob E 327)), (3, .ref (ob E 339)), (4, .ref (ob E 340)), (5, .int (zI (i : Int)))]) C dL_law_3384  (by decide) rfl ?_
  refine zv_aload_n C 4 dL_law_3386 rfl rfl ?_
  refine zv_cviD (st := []) C (c_X11_thrown hfl E τ3381) mX11_thrown kL_200 (by decide : kd 327 = 10) rfl rfl rfl ⟨rfl, rfl⟩ (show zfit (zrm 0 0) 1 room_1 = true from rfl) (Nat.le_of_ble_eq_true rfl) dL_law_3387 ⟨by omega, by omega⟩ ?_
  refine zv_eqi (y := (zI 2)) (ht2) ?_
  refine zv_iload C 1 dL_law_3390 rfl ?_
  refine zv_icmp_eqZ (tgt := 3397) C (by omega) (by omega) dL_law_3392 (by decide) (fun h3392 => ?_) (fun h3392 => ?_)
  · skip
    refine zv_iload C 1 dL_law_3397 rfl ?_
    refine zv_if_neZ (tgt := 3414) C (by omega) dL_law_3399 (by decide) (fun h3399 => ?_) (fun h3399 => absurd h3399 (by decide))
    refine zv_goto (tgt := 3624) C dL_law_3414 (by decide) ?_
    refine zv_sub (lv' := [(0, .ref b0), (1, .ref (ob E 0)), (2, .ref (ob E 327)), (3, .ref (ob E 339)), (4, .ref (ob E 340)), (5, .int (zI (i : Int)))]) [2, 3, 4, 5, 6, 7] (zcons rfl (zcons rfl (zcons rfl (zcons rfl (zcons rfl (zcons rfl rfl)))))) ?_
    exact kk _ _ _ _ (by omega) (by omega) hR2
  · exfalso
    omega
set_option maxRecDepth 20000 in
theorem lw_printErrors_x5_x2 {p : Program} {l : Launch} {e : Env} {s : State} {m : MethodId} {args : Array Value} {below : List Frame} {meth : Method} {c : Code} {E : zE} {Q : State → Prop} {b0 L i ce sl : Nat} {xs : Nat → Int32} {σ : zS} (ni : Nat) (tx : Nat → Int) (ec : Nat) (eo : Int) (U : zSU) (S : zST) (hh : List zST) (kp : Option zST) (ou : List Nat) (n1 : Nat) (v2 : Int) (v3 : Int) (v4 : Int) (W : zLW p l s m args meth c E b0 L xs) (hi : i + 6 ≤ L) (hcs : ce + 1 ≤ room_1.cells ∧ sl + 6 ≤ room_1.slots) (hR : zRel σ (zDv.mk ni tx ec eo U S hh kp ou)) (hx1 : xs (i + 1) = (zI (n1 : Int))) (hx2 : xs (i + 2) = (zI v2)) (hx3 : xs (i + 3) = (zI v3)) (hx4 : xs (i + 4) = (zI v4)) (hi0 : n1 < U.nb) (ha1 : U.s0 ≤ v2 ∧ v2 ≤ U.s0 + 999) (hb2 : U.s0 ≤ v3 ∧ v3 ≤ U.s0 + 999) (hle3 : v2 ≤ v3) (hwi4 : -2147483648 ≤ v4 ∧ v4 < 2147483648) (hno5 : ¬ (1 ≤ v4 ∧ v4 ≤ 999)) (hvr : (-2147483648 ≤ v2 ∧ v2 < 2147483648) ∧ -2147483648 ≤ v3 ∧ v3 < 2147483648) (kk : zNx p l e s m args below meth c E Q b0 i ce sl) : zV p l e room_1 s m args below meth c 9 E Q ce sl σ 3325 (lwL b0 i E) [] := by
  refine (?_ : zV p l e room_1 s m args below meth c 9 E Q ce sl σ 3325 [(0, .ref b0), (1, .ref (ob E 0)), (2, .ref (ob E 327)), (3, .ref (ob E 339)), (4, .ref (ob E 340)), (5, .int (zI (i : Int)))] [])
  have C := W.2.1
  have hfl := W.1
  have hroom : room_1.cells = 601024 ∧ room_1.slots = 7293034 := ⟨rfl, rfl⟩
  refine zv_aload_n C 1 dL_law_3325 rfl rfl ?_
  refine zv_aload_n C 0 dL_law_3326 rfl rfl ?_
  refine zv_iload C 5 dL_law_3327 rfl ?_
  refine zv_iconst (v := zI 1) C dL_law_3329 rfl ?_
  refine zv_iaddZ C dL_law_3330 ?_
  refine zv_sld (j := i + 1) (v := (zI (n1 : Int))) C W.2.2.1 W.2.2.2.1 W.2.2.2.2.1 W.2.2.2.2.2 (zI_ix (by omega)) (by omega) hx1 dL_law_3331 ?_
  refine zv_aload_n C 0 dL_law_3332 rfl rfl ?_
  refine zv_iload C 5 dL_law_3333 rfl ?_
  refine zv_iconst (v := zI 2) C dL_law_3335 rfl ?_
  refine zv_iaddZ C dL_law_3336 ?_
  refine zv_sld (j := i + 2) (v := (zI v2)) C W.2.2.1 W.2.2.2.1 W.2.2.2.2.1 W.2.2.2.2.2 (zI_ix (by omega)) (by omega) hx2 dL_law_3337 ?_
  refine zv_aload_n C 0 dL_law_3338 rfl rfl ?_
  refine zv_iload C 5 dL_law_3339 rfl ?_
  refine zv_iconst (v := zI 3) C dL_law_3341 rfl ?_
  refine zv_iaddZ C dL_law_3342 ?_
  refine zv_sld (j := i + 3) (v := (zI v3)) C W.2.2.1 W.2.2.2.1 W.2.2.2.2.1 W.2.2.2.2.2 (zI_ix (by omega)) (by omega) hx3 dL_law_3343 ?_
  refine zv_aload_n C 0 dL_law_3344 rfl rfl ?_
  refine zv_iload C 5 dL_law_3345 rfl ?_
  refine zv_iconst (v := zI 4) C dL_law_3347 rfl ?_
  refine zv_iaddZ C dL_law_3348 ?_
  refine zv_sld (j := i + 4) (v := (zI v4)) C W.2.2.1 W.2.2.2.1 W.2.2.2.2.1 W.2.2.2.2.2 (zI_ix (by omega)) (by omega) hx4 dL_law_3349 ?_
  refine zv_aload_n C 3 dL_law_3350 rfl rfl ?_
  refine zv_cH (st := []) C (w_x5_X10_printErrors hfl E σ U n1 v2 v3 v4 hR.1.2.2.1 (by first | assumption | omega) (by first | assumption | omega) (by first | assumption | omega) (by first | assumption | omega) (by first | assumption | omega) (by first | assumption | omega)) mL_printErrors kL_342 rfl ⟨rfl, rfl⟩ (show zfit (zrx 13 327) 7 room_1 = true from rfl) (Nat.le_of_ble_eq_true rfl) dL_law_3351 ⟨by exact hcs.1, by exact hcs.2⟩ (fun r3351 τ3351 hp3351 => ?_)
  obtain ⟨hr0, hP9⟩ := hp3351
  refine zv_eqi (y := zI 2) hr0 ?_
  have hF9 : zFr 318 327 σ τ3351 := by rw [hP9]; exact (by first | exact zFr_refl _ _ _ | exact zFr_rW (zFr_refl _ _ _) (by omega) | exact zFr_rW (zFr_rW (zFr_refl _ _ _) (by omega)) (by omega) | exact qW_f _ _ _ _ | exact qM_f _ _ _ _ _ | exact rW2_f _ _ _ _ _ | exact rW3_f _ _ _ _ _ | exact alW_f _ _ _ _ _ | (split <;> first | exact zFr_refl _ _ _ | exact bW_f _ _ _ _) | assumption)
  have hR1 : zRel τ3351 (zDv.mk ni tx ec eo U S hh kp ou) := zRel_c hR hF9
  refine zv_istore (lv' := [(6, .int (zI 2)), (0, .ref b0), (1, .ref (ob E 0)), (2, .ref (ob E 327)), (3, .ref (ob E 339)), (4, .ref (ob E 340)), (5, .int (zI (i : Int)))]) C dL_law_3354  (by decide) rfl ?_
  refine zv_aload_n C 3 dL_law_3356 rfl rfl ?_
  refine zv_aload_n C 1 dL_law_3357 rfl rfl ?_
  refine zv_iload C 6 dL_law_3358 rfl ?_
  refine zv_iconst (v := zI 1) C dL_law_3360 rfl ?_
  refine zv_iaddZ C dL_law_3361 ?_
  refine zv_sld (j := i + 1) (v := (zI (n1 : Int))) C W.2.2.1 W.2.2.2.1 W.2.2.2.2.1 W.2.2.2.2.2 (zI_ix (by omega)) (by omega) hx1 dL_law_3362 ?_
  refine zv_aload_n C 1 dL_law_3363 rfl rfl ?_
  refine zv_iload C 6 dL_law_3364 rfl ?_
  refine zv_iconst (v := zI 2) C dL_law_3366 rfl ?_
  refine zv_iaddZ C dL_law_3367 ?_
  refine zv_sld (j := i + 2) (v := (zI v2)) C W.2.2.1 W.2.2.2.1 W.2.2.2.2.1 W.2.2.2.2.2 (zI_ix (by omega)) (by omega) hx2 dL_law_3368 ?_
  refine zv_aload_n C 1 dL_law_3369 rfl rfl ?_
  refine zv_iload C 6 dL_law_3370 rfl ?_
  refine zv_iconst (v := zI 3) C dL_law_3372 rfl ?_
  refine zv_iaddZ C dL_law_3373 ?_
  refine zv_sld (j := i + 3) (v := (zI v3)) C W.2.2.1 W.2.2.2.1 W.2.2.2.2.1 W.2.2.2.2.2 (zI_ix (by omega)) (by omega) hx3 dL_law_3374 ?_
  refine zv_aload_n C 1 dL_law_3375 rfl rfl ?_
  refine zv_iload C 6 dL_law_3376 rfl ?_
  refine zv_iconst (v := zI 4) C dL_law_3378 rfl ?_
  refine zv_iaddZ C dL_law_3379 ?_
  refine zv_sld (j := i + 4) (v := (zI v4)) C W.2.2.1 W.2.2.2.1 W.2.2.2.2.1 W.2.2.2.2.2 (zI_ix (by omega)) (by omega) hx4 dL_law_3380 ?_
  refine zv_cvi (st := []) C (x2_X11_printErrors hfl E τ3351 σ U n1 v2 v3 v4 hR1.2.2.2.1 hR.1.2.2.1 (by first | assumption | omega) (by first | assumption | omega) (by first | assumption | omega) (by first | assumption | omega) (by first | assumption | omega)) mX11_printErrors kL_344 (by decide : kd 327 = 10) rfl rfl rfl ⟨rfl, rfl⟩ (show zfit (zrm 2 46) 7 room_1 = true from rfl) (Nat.le_of_ble_eq_true rfl) dL_law_3381 ⟨by omega, by omega⟩ (fun r3381 τ3381 hp3381 => ?_)
  obtain ⟨hr2, hK2⟩ := hp3381
  refine zv_eqi (y := zI 0) hr2 ?_
  have hR2 : zRel τ3381 (zDv.mk ni tx ec eo U S hh kp ou) := zRel_m hR1 hK2
  have ht2 : gI τ3381 327 10 = zI 2 := hK2.2
  have hJ2 : gJ τ3381 339 0 = gJ τ3351 339 0 := hK2.1.2.1 339 0 (by decide)
  have hD2 : gD τ3381 340 0 = gD τ3351 340 0 := hK2.1.2.2 340 0
  refine zv_istore (lv' := [(7, .int (zI 0)), (6, .int (zI 2)), (0, .ref b0), (1, .ref (ob E 0)), (2, .ref (ob E 327)), (3, .ref (ob E 339)), (4, .ref (ob E 340)), (5, .int (zI (i : Int)))]) C dL_law_3384  (by decide) rfl ?_
  refine zv_aload_n C 4 dL_law_3386 rfl rfl ?_
  refine zv_cviD (st := []) C (c_X11_thrown hfl E τ3381) mX11_thrown kL_200 (by decide : kd 327 = 10) rfl rfl rfl ⟨rfl, rfl⟩ (show zfit (zrm 0 0) 1 room_1 = true from rfl) (Nat.le_of_ble_eq_true rfl) dL_law_3387 ⟨by omega, by omega⟩ ?_
  refine zv_eqi (y := (zI 2)) (ht2) ?_
  refine zv_iload C 1 dL_law_3390 rfl ?_
  refine zv_icmp_eqZ (tgt := 3397) C (by omega) (by omega) dL_law_3392 (by decide) (fun h3392 => ?_) (fun h3392 => ?_)
  · skip
    refine zv_iload C 1 dL_law_3397 rfl ?_
    refine zv_if_neZ (tgt := 3414) C (by omega) dL_law_3399 (by decide) (fun h3399 => ?_) (fun h3399 => absurd h3399 (by decide))
    refine zv_goto (tgt := 3624) C dL_law_3414 (by decide) ?_
    refine zv_sub (lv' := [(0, .ref b0), (1, .ref (ob E 0)), (2, .ref (ob E 327)), (3, .ref (ob E 339)), (4, .ref (ob E 340)), (5, .int (zI (i : Int)))]) [2, 3, 4, 5, 6, 7] (zcons rfl (zcons rfl (zcons rfl (zcons rfl (zcons rfl (zcons rfl rfl)))))) ?_
    exact kk _ _ _ _ (by omega) (by omega) hR2
  · exfalso
    omega
theorem LK_50 {p : Program} {l : Launch} {e : Env} {s : State} {m : MethodId} {args : Array Value} {below : List Frame} {meth : Method} {c : Code} {E : zE} {Q : State → Prop} {b0 L i ce sl : Nat} {xs : Nat → Int32} {σ : zS} (ni : Nat) (tx : Nat → Int) (ec : Nat) (eo : Int) (U : zSU) (S : zST) (hh : List zST) (kp : Option zST) (ou : List Nat) (hFN : zFN) (W : zLW p l s m args meth c E b0 L xs) (hi : i + 6 ≤ L) (hcs : ce + 1 ≤ room_1.cells ∧ sl + 6 ≤ room_1.slots) (hR : zRel σ (zDv.mk ni tx ec eo U S hh kp ou)) (kk : zNx p l e s m args below meth c E Q b0 i ce sl) : zV p l e room_1 s m args below meth c 9 E Q ce sl σ 3325 (lwL b0 i E) [] := by
  obtain ⟨v1, hx1, hv1⟩ := zI_cov (xs (i + 1))
  obtain ⟨v2, hx2, hv2⟩ := zI_cov (xs (i + 2))
  obtain ⟨v3, hx3, hv3⟩ := zI_cov (xs (i + 3))
  obtain ⟨v4, hx4, hv4⟩ := zI_cov (xs (i + 4))
  by_cases g1 : 0 ≤ v1 ∧ v1 < U.nb
  case neg =>
    exact lw_printErrors_x1_x1 _ _ _ _ _ _ _ _ _ _ _ _ _ W hi hcs hR hx1 hx2 hx3 hx4 (by first | assumption | omega) (by first | assumption | omega) kk
  obtain ⟨n1, rfl⟩ := Int.eq_ofNat_of_zero_le (show 0 ≤ v1 by omega)
  by_cases g2 : U.s0 ≤ v2 ∧ v2 ≤ U.s0 + 999
  case neg =>
    exact lw_printErrors_x2_x2 _ _ _ _ _ _ _ _ _ _ _ _ _ W hi hcs hR hx1 hx2 hx3 hx4 (by first | assumption | omega) (by first | assumption | omega) (by first | assumption | omega) (by first | assumption | omega) (by first | assumption | omega) kk
  by_cases g3 : U.s0 ≤ v3 ∧ v3 ≤ U.s0 + 999
  case neg =>
    exact lw_printErrors_x3_x2 _ _ _ _ _ _ _ _ _ _ _ _ _ W hi hcs hR hx1 hx2 hx3 hx4 (by first | assumption | omega) (by first | assumption | omega) (by first | assumption | omega) (by first | assumption | omega) (by first | assumption | omega) (by first | assumption | omega) kk
  by_cases g4 : v2 ≤ v3
  case neg =>
    exact lw_printErrors_x4_x2 _ _ _ _ _ _ _ _ _ _ _ _ _ W hi hcs hR hx1 hx2 hx3 hx4 (by first | assumption | omega) (by first | assumption | omega) (by first | assumption | omega) (by first | assumption | omega) (by first | assumption | omega) (by first | assumption | omega) (by first | assumption | omega) kk
  by_cases g5 : 1 ≤ v4 ∧ v4 ≤ 999
  case neg =>
    exact lw_printErrors_x5_x2 _ _ _ _ _ _ _ _ _ _ _ _ _ W hi hcs hR hx1 hx2 hx3 hx4 (by first | assumption | omega) (by first | assumption | omega) (by first | assumption | omega) (by first | assumption | omega) (by first | assumption | omega) (by first | assumption | omega) (by first | assumption | omega) kk
  exact lw_printErrors_c_c _ _ _ _ _ _ _ _ _ _ _ _ _ W hi hcs hR hx1 hx2 hx3 hx4 (by first | assumption | omega) (by first | assumption | omega) (by first | assumption | omega) (by first | assumption | omega) (by first | assumption | omega) kk
theorem dL_law_3417 : decode cL_law 3417 = .ok (.aload_n 1, 1) := by decide +kernel
theorem dL_law_3418 : decode cL_law 3418 = .ok (.aload_n 0, 1) := by decide +kernel
theorem dL_law_3419 : decode cL_law 3419 = .ok (.iload 5, 2) := by decide +kernel
theorem dL_law_3421 : decode cL_law 3421 = .ok (.iconst 1, 1) := by decide +kernel
theorem dL_law_3422 : decode cL_law 3422 = .ok (.iadd, 1) := by decide +kernel
theorem dL_law_3423 : decode cL_law 3423 = .ok (.iaload, 1) := by decide +kernel
theorem dL_law_3424 : decode cL_law 3424 = .ok (.aload_n 3, 1) := by decide +kernel
theorem dL_law_3425 : decode cL_law 3425 = .ok (.invokestatic 345, 3) := by decide +kernel
theorem dL_law_3428 : decode cL_law 3428 = .ok (.istore 6, 2) := by decide +kernel
theorem dL_law_3430 : decode cL_law 3430 = .ok (.aload_n 2, 1) := by decide +kernel
theorem dL_law_3431 : decode cL_law 3431 = .ok (.aload_n 0, 1) := by decide +kernel
theorem dL_law_3432 : decode cL_law 3432 = .ok (.iload 5, 2) := by decide +kernel
theorem dL_law_3434 : decode cL_law 3434 = .ok (.iconst 1, 1) := by decide +kernel
theorem dL_law_3435 : decode cL_law 3435 = .ok (.iadd, 1) := by decide +kernel
theorem dL_law_3436 : decode cL_law 3436 = .ok (.iaload, 1) := by decide +kernel
theorem dL_law_3437 : decode cL_law 3437 = .ok (.invokevirtual 347, 3) := by decide +kernel
theorem dL_law_3440 : decode cL_law 3440 = .ok (.istore 7, 2) := by decide +kernel
theorem dL_law_3442 : decode cL_law 3442 = .ok (.aload_n 2, 1) := by decide +kernel
theorem dL_law_3443 : decode cL_law 3443 = .ok (.invokevirtual 200, 3) := by decide +kernel
theorem dL_law_3446 : decode cL_law 3446 = .ok (.iload 6, 2) := by decide +kernel
theorem dL_law_3448 : decode cL_law 3448 = .ok (.if_icmp .eq 5, 3) := by decide +kernel
theorem dL_law_3451 : decode cL_law 3451 = .ok (.iconst 0, 1) := by decide +kernel
theorem dL_law_3452 : decode cL_law 3452 = .ok (.ireturn, 1) := by decide +kernel
theorem dL_law_3453 : decode cL_law 3453 = .ok (.iload 6, 2) := by decide +kernel
theorem dL_law_3455 : decode cL_law 3455 = .ok (.ifCond .ne 15, 3) := by decide +kernel
theorem dL_law_3458 : decode cL_law 3458 = .ok (.aload_n 3, 1) := by decide +kernel
theorem dL_law_3459 : decode cL_law 3459 = .ok (.iconst 0, 1) := by decide +kernel
theorem dL_law_3460 : decode cL_law 3460 = .ok (.laload, 1) := by decide +kernel
theorem dL_law_3461 : decode cL_law 3461 = .ok (.iload 7, 2) := by decide +kernel
theorem dL_law_3463 : decode cL_law 3463 = .ok (.i2l, 1) := by decide +kernel
theorem dL_law_3464 : decode cL_law 3464 = .ok (.lcmp, 1) := by decide +kernel
theorem dL_law_3465 : decode cL_law 3465 = .ok (.ifCond .eq 5, 3) := by decide +kernel
theorem dL_law_3468 : decode cL_law 3468 = .ok (.iconst 0, 1) := by decide +kernel
theorem dL_law_3469 : decode cL_law 3469 = .ok (.ireturn, 1) := by decide +kernel
theorem dL_law_3470 : decode cL_law 3470 = .ok (.goto 154, 3) := by decide +kernel
set_option maxRecDepth 20000 in
theorem lw_report_c_c {p : Program} {l : Launch} {e : Env} {s : State} {m : MethodId} {args : Array Value} {below : List Frame} {meth : Method} {c : Code} {E : zE} {Q : State → Prop} {b0 L i ce sl : Nat} {xs : Nat → Int32} {σ : zS} (ni : Nat) (tx : Nat → Int) (ec : Nat) (eo : Int) (U : zSU) (S : zST) (hh : List zST) (kp : Option zST) (ou : List Nat) (v1 : Int) (W : zLW p l s m args meth c E b0 L xs) (hi : i + 6 ≤ L) (hcs : ce + 1 ≤ room_1.cells ∧ sl + 6 ≤ room_1.slots) (hR : zRel σ (zDv.mk ni tx ec eo U S hh kp ou)) (hx1 : xs (i + 1) = (zI v1)) (hy0 : U.s0 ≤ v1 ∧ v1 ≤ U.s0 + 999)  (kk : zNx p l e s m args below meth c E Q b0 i ce sl) : zV p l e room_1 s m args below meth c 9 E Q ce sl σ 3417 (lwL b0 i E) [] := by
  refine (?_ : zV p l e room_1 s m args below meth c 9 E Q ce sl σ 3417 [(0, .ref b0), (1, .ref (ob E 0)), (2, .ref (ob E 327)), (3, .ref (ob E 339)), (4, .ref (ob E 340)), (5, .int (zI (i : Int)))] [])
  have C := W.2.1
  have hfl := W.1
  have hroom : room_1.cells = 601024 ∧ room_1.slots = 7293034 := ⟨rfl, rfl⟩
  refine zv_aload_n C 1 dL_law_3417 rfl rfl ?_
  refine zv_aload_n C 0 dL_law_3418 rfl rfl ?_
  refine zv_iload C 5 dL_law_3419 rfl ?_
  refine zv_iconst (v := zI 1) C dL_law_3421 rfl ?_
  refine zv_iaddZ C dL_law_3422 ?_
  refine zv_sld (j := i + 1) (v := (zI v1)) C W.2.2.1 W.2.2.2.1 W.2.2.2.2.1 W.2.2.2.2.2 (zI_ix (by omega)) (by omega) hx1 dL_law_3423 ?_
  refine zv_aload_n C 3 dL_law_3424 rfl rfl ?_
  refine zv_cH (st := []) C (w_c_X10_report hfl E σ ni tx ec eo U S hh kp ou v1 hR.1 (zRel_N hR.2.2.2.2.1) (by first | assumption | omega)) mL_report kL_345 rfl ⟨rfl, rfl⟩ (show zfit (zrm 7 170) 4 room_1 = true from rfl) (Nat.le_of_ble_eq_true rfl) dL_law_3425 ⟨by omega, by omega⟩ (fun r3425 τ3425 hp3425 => ?_)
  obtain ⟨hr0, v9, υ9, hP9, hτ9⟩ := hp3425
  refine zv_eqi (y := zI 0) hr0 ?_
  obtain ⟨hv9, hC9, hF9⟩ := hP9
  have hC1 := zCP_w (τ := τ3425) hC9 (fun x y hx => by rw [hτ9]; exact ⟨rfl, by first | rfl | rw [gJ_sJ, if_neg (by omega)]⟩)
  have hM1 : zMP τ3425 (zDv.mk ni tx ec eo U S hh kp ou) := by rw [hτ9]; exact (zMP_fr hR.2 hF9 : zMP υ9 (zDv.mk ni tx ec eo U S hh kp ou))
  have ho9 : gJ τ3425 339 0 = v9.toInt64 := by rw [hτ9, gJ_sJ, if_pos ⟨rfl, rfl⟩]
  rw [hv9] at ho9
  refine zv_istore (lv' := [(6, .int (zI 0)), (0, .ref b0), (1, .ref (ob E 0)), (2, .ref (ob E 327)), (3, .ref (ob E 339)), (4, .ref (ob E 340)), (5, .int (zI (i : Int)))]) C dL_law_3428  (by decide) rfl ?_
  refine zv_aload_n C 3 dL_law_3430 rfl rfl ?_
  refine zv_aload_n C 1 dL_law_3431 rfl rfl ?_
  refine zv_iload C 6 dL_law_3432 rfl ?_
  refine zv_iconst (v := zI 1) C dL_law_3434 rfl ?_
  refine zv_iaddZ C dL_law_3435 ?_
  refine zv_sld (j := i + 1) (v := (zI v1)) C W.2.2.1 W.2.2.2.1 W.2.2.2.2.1 W.2.2.2.2.2 (zI_ix (by omega)) (by omega) hx1 dL_law_3436 ?_
  refine zv_cvi (st := []) C (c_X11_report hfl E τ3425 σ ni tx ec eo U S hh kp ou v1 hM1 hR.1.2.2.1 hR.1.2.2.2.1.1 (by first | assumption | omega)) mX11_report kL_347 (by decide : kd 327 = 10) rfl rfl rfl ⟨rfl, rfl⟩ (show zfit (zrm 3 68) 4 room_1 = true from rfl) (Nat.le_of_ble_eq_true rfl) dL_law_3437 ⟨by omega, by omega⟩ (fun r3437 τ3437 hp3437 => ?_)
  obtain ⟨hr2, hK2⟩ := hp3437
  refine zv_eqi (y := zI (((rpL U S v1 U.nb).length : Nat) : Int)) hr2 ?_
  have hR2 : zRel τ3437 _ := ⟨zCP_fr hC1 hK2.2.2, hK2.1⟩
  have ht2 : gI τ3437 327 10 = zI 0 := hK2.2.1
  have hJ2 : gJ τ3437 339 0 = gJ τ3425 339 0 := hK2.2.2.2.1 339 0 (by decide)
  refine zv_istore (lv' := [(7, .int (zI (((rpL U S v1 U.nb).length : Nat) : Int))), (6, .int (zI 0)), (0, .ref b0), (1, .ref (ob E 0)), (2, .ref (ob E 327)), (3, .ref (ob E 339)), (4, .ref (ob E 340)), (5, .int (zI (i : Int)))]) C dL_law_3440  (by decide) rfl ?_
  refine zv_aload_n C 4 dL_law_3442 rfl rfl ?_
  refine zv_cviD (st := []) C (c_X11_thrown hfl E τ3437) mX11_thrown kL_200 (by decide : kd 327 = 10) rfl rfl rfl ⟨rfl, rfl⟩ (show zfit (zrm 0 0) 1 room_1 = true from rfl) (Nat.le_of_ble_eq_true rfl) dL_law_3443 ⟨by omega, by omega⟩ ?_
  refine zv_eqi (y := (zI 0)) (ht2) ?_
  refine zv_iload C 1 dL_law_3446 rfl ?_
  refine zv_icmp_eqZ (tgt := 3453) C (by omega) (by omega) dL_law_3448 (by decide) (fun h3448 => ?_) (fun h3448 => ?_)
  · skip
    refine zv_iload C 1 dL_law_3453 rfl ?_
    refine zv_if_neZ (tgt := 3470) C (by omega) dL_law_3455 (by decide) (fun h3455 => absurd h3455 (by decide)) (fun h3455 => ?_)
    refine zv_aload_n C 5 dL_law_3458 rfl rfl ?_
    refine zv_iconst (v := zI 0) C dL_law_3459 rfl ?_
    refine zv_lald (j := 0) C (by decide : kd 339 = _) (zI_ix (by omega)) (by decide) dL_law_3460 ?_
    refine zv_eql (y := ((zI (((rpL U S v1 U.nb).length : Nat) : Int)).toInt64)) (hJ2.trans ho9) ?_
    refine zv_iload C 0 dL_law_3461 rfl ?_
    refine zv_i2l C dL_law_3463 ?_
    refine zv_lc_eq (tgt := 3470) C dL_law_3464 dL_law_3465 (by decide) (fun h3464 => ?_) (fun h3464 => ?_)
    · skip
      refine zv_goto (tgt := 3624) C dL_law_3470 (by decide) ?_
      refine zv_sub (lv' := [(0, .ref b0), (1, .ref (ob E 0)), (2, .ref (ob E 327)), (3, .ref (ob E 339)), (4, .ref (ob E 340)), (5, .int (zI (i : Int)))]) [2, 3, 4, 5, 6, 7] (zcons rfl (zcons rfl (zcons rfl (zcons rfl (zcons rfl (zcons rfl rfl)))))) ?_
      exact kk _ _ _ _ (by omega) (by omega) hR2
    · exfalso
      exact h3464 rfl
  · exfalso
    omega
set_option maxRecDepth 20000 in
theorem lw_report_x1_x1 {p : Program} {l : Launch} {e : Env} {s : State} {m : MethodId} {args : Array Value} {below : List Frame} {meth : Method} {c : Code} {E : zE} {Q : State → Prop} {b0 L i ce sl : Nat} {xs : Nat → Int32} {σ : zS} (ni : Nat) (tx : Nat → Int) (ec : Nat) (eo : Int) (U : zSU) (S : zST) (hh : List zST) (kp : Option zST) (ou : List Nat) (v1 : Int) (W : zLW p l s m args meth c E b0 L xs) (hi : i + 6 ≤ L) (hcs : ce + 1 ≤ room_1.cells ∧ sl + 6 ≤ room_1.slots) (hR : zRel σ (zDv.mk ni tx ec eo U S hh kp ou)) (hx1 : xs (i + 1) = (zI v1)) (hyi0 : -2147483648 ≤ v1 ∧ v1 < 2147483648) (hno1 : ¬ (U.s0 ≤ v1 ∧ v1 ≤ U.s0 + 999))  (kk : zNx p l e s m args below meth c E Q b0 i ce sl) : zV p l e room_1 s m args below meth c 9 E Q ce sl σ 3417 (lwL b0 i E) [] := by
  refine (?_ : zV p l e room_1 s m args below meth c 9 E Q ce sl σ 3417 [(0, .ref b0), (1, .ref (ob E 0)), (2, .ref (ob E 327)), (3, .ref (ob E 339)), (4, .ref (ob E 340)), (5, .int (zI (i : Int)))] [])
  have C := W.2.1
  have hfl := W.1
  have hroom : room_1.cells = 601024 ∧ room_1.slots = 7293034 := ⟨rfl, rfl⟩
  refine zv_aload_n C 1 dL_law_3417 rfl rfl ?_
  refine zv_aload_n C 0 dL_law_3418 rfl rfl ?_
  refine zv_iload C 5 dL_law_3419 rfl ?_
  refine zv_iconst (v := zI 1) C dL_law_3421 rfl ?_
  refine zv_iaddZ C dL_law_3422 ?_
  refine zv_sld (j := i + 1) (v := (zI v1)) C W.2.2.1 W.2.2.2.1 W.2.2.2.2.1 W.2.2.2.2.2 (zI_ix (by omega)) (by omega) hx1 dL_law_3423 ?_
  refine zv_aload_n C 3 dL_law_3424 rfl rfl ?_
  refine zv_cH (st := []) C (w_x1_X10_report hfl E σ U v1 hR.1.2.2.1 (by first | assumption | omega) (by first | assumption | omega)) mL_report kL_345 rfl ⟨rfl, rfl⟩ (show zfit (zrx 10 222) 4 room_1 = true from rfl) (Nat.le_of_ble_eq_true rfl) dL_law_3425 ⟨by exact hcs.1, by exact hcs.2⟩ (fun r3425 τ3425 hp3425 => ?_)
  obtain ⟨hr0, hP9⟩ := hp3425
  refine zv_eqi (y := zI 1) hr0 ?_
  have hF9 : zFr 318 327 σ τ3425 := by rw [hP9]; exact (by first | exact zFr_refl _ _ _ | exact zFr_rW (zFr_refl _ _ _) (by omega) | exact zFr_rW (zFr_rW (zFr_refl _ _ _) (by omega)) (by omega) | exact qW_f _ _ _ _ | exact qM_f _ _ _ _ _ | exact rW2_f _ _ _ _ _ | exact rW3_f _ _ _ _ _ | exact alW_f _ _ _ _ _ | (split <;> first | exact zFr_refl _ _ _ | exact bW_f _ _ _ _) | assumption)
  have hR1 : zRel τ3425 (zDv.mk ni tx ec eo U S hh kp ou) := zRel_c hR hF9
  refine zv_istore (lv' := [(6, .int (zI 1)), (0, .ref b0), (1, .ref (ob E 0)), (2, .ref (ob E 327)), (3, .ref (ob E 339)), (4, .ref (ob E 340)), (5, .int (zI (i : Int)))]) C dL_law_3428  (by decide) rfl ?_
  refine zv_aload_n C 3 dL_law_3430 rfl rfl ?_
  refine zv_aload_n C 1 dL_law_3431 rfl rfl ?_
  refine zv_iload C 6 dL_law_3432 rfl ?_
  refine zv_iconst (v := zI 1) C dL_law_3434 rfl ?_
  refine zv_iaddZ C dL_law_3435 ?_
  refine zv_sld (j := i + 1) (v := (zI v1)) C W.2.2.1 W.2.2.2.1 W.2.2.2.2.1 W.2.2.2.2.2 (zI_ix (by omega)) (by omega) hx1 dL_law_3436 ?_
  refine zv_cvi (st := []) C (x1_X11_report hfl E τ3425 σ U v1 hR1.2.2.2.1 hR.1.2.2.1 (by first | assumption | omega) (by first | assumption | omega)) mX11_report kL_347 (by decide : kd 327 = 10) rfl rfl rfl ⟨rfl, rfl⟩ (show zfit (zrm 3 68) 4 room_1 = true from rfl) (Nat.le_of_ble_eq_true rfl) dL_law_3437 ⟨by omega, by omega⟩ (fun r3437 τ3437 hp3437 => ?_)
  obtain ⟨hr2, hK2⟩ := hp3437
  refine zv_eqi (y := zI 0) hr2 ?_
  have hR2 : zRel τ3437 (zDv.mk ni tx ec eo U S hh kp ou) := zRel_m hR1 hK2
  have ht2 : gI τ3437 327 10 = zI 1 := hK2.2
  have hJ2 : gJ τ3437 339 0 = gJ τ3425 339 0 := hK2.1.2.1 339 0 (by decide)
  have hD2 : gD τ3437 340 0 = gD τ3425 340 0 := hK2.1.2.2 340 0
  refine zv_istore (lv' := [(7, .int (zI 0)), (6, .int (zI 1)), (0, .ref b0), (1, .ref (ob E 0)), (2, .ref (ob E 327)), (3, .ref (ob E 339)), (4, .ref (ob E 340)), (5, .int (zI (i : Int)))]) C dL_law_3440  (by decide) rfl ?_
  refine zv_aload_n C 4 dL_law_3442 rfl rfl ?_
  refine zv_cviD (st := []) C (c_X11_thrown hfl E τ3437) mX11_thrown kL_200 (by decide : kd 327 = 10) rfl rfl rfl ⟨rfl, rfl⟩ (show zfit (zrm 0 0) 1 room_1 = true from rfl) (Nat.le_of_ble_eq_true rfl) dL_law_3443 ⟨by omega, by omega⟩ ?_
  refine zv_eqi (y := (zI 1)) (ht2) ?_
  refine zv_iload C 1 dL_law_3446 rfl ?_
  refine zv_icmp_eqZ (tgt := 3453) C (by omega) (by omega) dL_law_3448 (by decide) (fun h3448 => ?_) (fun h3448 => ?_)
  · skip
    refine zv_iload C 1 dL_law_3453 rfl ?_
    refine zv_if_neZ (tgt := 3470) C (by omega) dL_law_3455 (by decide) (fun h3455 => ?_) (fun h3455 => absurd h3455 (by decide))
    refine zv_goto (tgt := 3624) C dL_law_3470 (by decide) ?_
    refine zv_sub (lv' := [(0, .ref b0), (1, .ref (ob E 0)), (2, .ref (ob E 327)), (3, .ref (ob E 339)), (4, .ref (ob E 340)), (5, .int (zI (i : Int)))]) [2, 3, 4, 5, 6, 7] (zcons rfl (zcons rfl (zcons rfl (zcons rfl (zcons rfl (zcons rfl rfl)))))) ?_
    exact kk _ _ _ _ (by omega) (by omega) hR2
  · exfalso
    omega
theorem LK_51 {p : Program} {l : Launch} {e : Env} {s : State} {m : MethodId} {args : Array Value} {below : List Frame} {meth : Method} {c : Code} {E : zE} {Q : State → Prop} {b0 L i ce sl : Nat} {xs : Nat → Int32} {σ : zS} (ni : Nat) (tx : Nat → Int) (ec : Nat) (eo : Int) (U : zSU) (S : zST) (hh : List zST) (kp : Option zST) (ou : List Nat) (hFN : zFN) (W : zLW p l s m args meth c E b0 L xs) (hi : i + 6 ≤ L) (hcs : ce + 1 ≤ room_1.cells ∧ sl + 6 ≤ room_1.slots) (hR : zRel σ (zDv.mk ni tx ec eo U S hh kp ou)) (kk : zNx p l e s m args below meth c E Q b0 i ce sl) : zV p l e room_1 s m args below meth c 9 E Q ce sl σ 3417 (lwL b0 i E) [] := by
  obtain ⟨v1, hx1, hv1⟩ := zI_cov (xs (i + 1))
  by_cases g1 : U.s0 ≤ v1 ∧ v1 ≤ U.s0 + 999
  case neg =>
    exact lw_report_x1_x1 _ _ _ _ _ _ _ _ _ _ W hi hcs hR hx1 (by first | assumption | omega) (by first | assumption | omega) kk
  exact lw_report_c_c _ _ _ _ _ _ _ _ _ _ W hi hcs hR hx1 (by first | assumption | omega) kk
theorem dL_law_3473 : decode cL_law 3473 = .ok (.aload_n 1, 1) := by decide +kernel
theorem dL_law_3474 : decode cL_law 3474 = .ok (.aload_n 0, 1) := by decide +kernel
theorem dL_law_3475 : decode cL_law 3475 = .ok (.iload 5, 2) := by decide +kernel
theorem dL_law_3477 : decode cL_law 3477 = .ok (.iconst 1, 1) := by decide +kernel
theorem dL_law_3478 : decode cL_law 3478 = .ok (.iadd, 1) := by decide +kernel
theorem dL_law_3479 : decode cL_law 3479 = .ok (.iaload, 1) := by decide +kernel
theorem dL_law_3480 : decode cL_law 3480 = .ok (.aload_n 3, 1) := by decide +kernel
theorem dL_law_3481 : decode cL_law 3481 = .ok (.invokestatic 348, 3) := by decide +kernel
theorem dL_law_3484 : decode cL_law 3484 = .ok (.istore 6, 2) := by decide +kernel
theorem dL_law_3486 : decode cL_law 3486 = .ok (.aload_n 2, 1) := by decide +kernel
theorem dL_law_3487 : decode cL_law 3487 = .ok (.aload_n 0, 1) := by decide +kernel
theorem dL_law_3488 : decode cL_law 3488 = .ok (.iload 5, 2) := by decide +kernel
theorem dL_law_3490 : decode cL_law 3490 = .ok (.iconst 1, 1) := by decide +kernel
theorem dL_law_3491 : decode cL_law 3491 = .ok (.iadd, 1) := by decide +kernel
theorem dL_law_3492 : decode cL_law 3492 = .ok (.iaload, 1) := by decide +kernel
theorem dL_law_3493 : decode cL_law 3493 = .ok (.invokevirtual 350, 3) := by decide +kernel
theorem dL_law_3496 : decode cL_law 3496 = .ok (.istore 7, 2) := by decide +kernel
theorem dL_law_3498 : decode cL_law 3498 = .ok (.aload_n 2, 1) := by decide +kernel
theorem dL_law_3499 : decode cL_law 3499 = .ok (.invokevirtual 200, 3) := by decide +kernel
theorem dL_law_3502 : decode cL_law 3502 = .ok (.iload 6, 2) := by decide +kernel
theorem dL_law_3504 : decode cL_law 3504 = .ok (.if_icmp .eq 5, 3) := by decide +kernel
theorem dL_law_3507 : decode cL_law 3507 = .ok (.iconst 0, 1) := by decide +kernel
theorem dL_law_3508 : decode cL_law 3508 = .ok (.ireturn, 1) := by decide +kernel
theorem dL_law_3509 : decode cL_law 3509 = .ok (.iload 6, 2) := by decide +kernel
theorem dL_law_3511 : decode cL_law 3511 = .ok (.ifCond .ne 15, 3) := by decide +kernel
theorem dL_law_3514 : decode cL_law 3514 = .ok (.aload_n 3, 1) := by decide +kernel
theorem dL_law_3515 : decode cL_law 3515 = .ok (.iconst 0, 1) := by decide +kernel
theorem dL_law_3516 : decode cL_law 3516 = .ok (.laload, 1) := by decide +kernel
theorem dL_law_3517 : decode cL_law 3517 = .ok (.iload 7, 2) := by decide +kernel
theorem dL_law_3519 : decode cL_law 3519 = .ok (.i2l, 1) := by decide +kernel
theorem dL_law_3520 : decode cL_law 3520 = .ok (.lcmp, 1) := by decide +kernel
theorem dL_law_3521 : decode cL_law 3521 = .ok (.ifCond .eq 5, 3) := by decide +kernel
theorem dL_law_3524 : decode cL_law 3524 = .ok (.iconst 0, 1) := by decide +kernel
theorem dL_law_3525 : decode cL_law 3525 = .ok (.ireturn, 1) := by decide +kernel
theorem dL_law_3526 : decode cL_law 3526 = .ok (.goto 98, 3) := by decide +kernel
set_option maxRecDepth 20000 in
theorem lw_printTrain_c_c {p : Program} {l : Launch} {e : Env} {s : State} {m : MethodId} {args : Array Value} {below : List Frame} {meth : Method} {c : Code} {E : zE} {Q : State → Prop} {b0 L i ce sl : Nat} {xs : Nat → Int32} {σ : zS} (ni : Nat) (tx : Nat → Int) (ec : Nat) (eo : Int) (U : zSU) (S : zST) (hh : List zST) (kp : Option zST) (ou : List Nat) (n1 : Nat) (W : zLW p l s m args meth c E b0 L xs) (hi : i + 6 ≤ L) (hcs : ce + 1 ≤ room_1.cells ∧ sl + 6 ≤ room_1.slots) (hR : zRel σ (zDv.mk ni tx ec eo U S hh kp ou)) (hx1 : xs (i + 1) = (zI (n1 : Int))) (hi0 : n1 < U.nb)  (kk : zNx p l e s m args below meth c E Q b0 i ce sl) : zV p l e room_1 s m args below meth c 9 E Q ce sl σ 3473 (lwL b0 i E) [] := by
  refine (?_ : zV p l e room_1 s m args below meth c 9 E Q ce sl σ 3473 [(0, .ref b0), (1, .ref (ob E 0)), (2, .ref (ob E 327)), (3, .ref (ob E 339)), (4, .ref (ob E 340)), (5, .int (zI (i : Int)))] [])
  have C := W.2.1
  have hfl := W.1
  have hroom : room_1.cells = 601024 ∧ room_1.slots = 7293034 := ⟨rfl, rfl⟩
  refine zv_aload_n C 1 dL_law_3473 rfl rfl ?_
  refine zv_aload_n C 0 dL_law_3474 rfl rfl ?_
  refine zv_iload C 5 dL_law_3475 rfl ?_
  refine zv_iconst (v := zI 1) C dL_law_3477 rfl ?_
  refine zv_iaddZ C dL_law_3478 ?_
  refine zv_sld (j := i + 1) (v := (zI (n1 : Int))) C W.2.2.1 W.2.2.2.1 W.2.2.2.2.1 W.2.2.2.2.2 (zI_ix (by omega)) (by omega) hx1 dL_law_3479 ?_
  refine zv_aload_n C 3 dL_law_3480 rfl rfl ?_
  refine zv_cH (st := []) C (w_c_X10_printTrain hfl E σ ni tx ec eo U S hh kp ou n1 hR.1 (by first | assumption | omega)) mL_printTrain kL_348 rfl ⟨rfl, rfl⟩ (show zfit (zrm 5 128) 4 room_1 = true from rfl) (Nat.le_of_ble_eq_true rfl) dL_law_3481 ⟨by omega, by omega⟩ (fun r3481 τ3481 hp3481 => ?_)
  obtain ⟨hr0, v9, υ9, hP9, hτ9⟩ := hp3481
  refine zv_eqi (y := zI 0) hr0 ?_
  obtain ⟨hv9, hC9, hF9⟩ := hP9
  have hC1 := zCP_w (τ := τ3481) hC9 (fun x y hx => by rw [hτ9]; exact ⟨rfl, by first | rfl | rw [gJ_sJ, if_neg (by omega)]⟩)
  have hM1 : zMP τ3481 (zDv.mk ni tx ec eo U S hh kp ou) := by rw [hτ9]; exact (zMP_fr hR.2 hF9 : zMP υ9 (zDv.mk ni tx ec eo U S hh kp ou))
  have ho9 : gJ τ3481 339 0 = v9.toInt64 := by rw [hτ9, gJ_sJ, if_pos ⟨rfl, rfl⟩]
  rw [hv9] at ho9
  refine zv_istore (lv' := [(6, .int (zI 0)), (0, .ref b0), (1, .ref (ob E 0)), (2, .ref (ob E 327)), (3, .ref (ob E 339)), (4, .ref (ob E 340)), (5, .int (zI (i : Int)))]) C dL_law_3484  (by decide) rfl ?_
  refine zv_aload_n C 3 dL_law_3486 rfl rfl ?_
  refine zv_aload_n C 1 dL_law_3487 rfl rfl ?_
  refine zv_iload C 6 dL_law_3488 rfl ?_
  refine zv_iconst (v := zI 1) C dL_law_3490 rfl ?_
  refine zv_iaddZ C dL_law_3491 ?_
  refine zv_sld (j := i + 1) (v := (zI (n1 : Int))) C W.2.2.1 W.2.2.2.1 W.2.2.2.2.1 W.2.2.2.2.2 (zI_ix (by omega)) (by omega) hx1 dL_law_3492 ?_
  refine zv_cvi (st := []) C (c_X11_printTrain hfl E τ3481 σ ni tx ec eo U S hh kp ou n1 hM1 hR.1.2.2.1 hR.1.2.2.2.1.1 (by first | assumption | omega)) mX11_printTrain kL_350 (by decide : kd 327 = 10) rfl rfl rfl ⟨rfl, rfl⟩ (show zfit (zrm 2 46) 4 room_1 = true from rfl) (Nat.le_of_ble_eq_true rfl) dL_law_3493 ⟨by omega, by omega⟩ (fun r3493 τ3493 hp3493 => ?_)
  obtain ⟨hr2, hK2⟩ := hp3493
  refine zv_eqi (y := zI (((ptF U S n1).length : Nat) : Int)) hr2 ?_
  have hR2 : zRel τ3493 _ := ⟨zCP_fr hC1 hK2.2.2, hK2.1⟩
  have ht2 : gI τ3493 327 10 = zI 0 := hK2.2.1
  have hJ2 : gJ τ3493 339 0 = gJ τ3481 339 0 := hK2.2.2.2.1 339 0 (by decide)
  refine zv_istore (lv' := [(7, .int (zI (((ptF U S n1).length : Nat) : Int))), (6, .int (zI 0)), (0, .ref b0), (1, .ref (ob E 0)), (2, .ref (ob E 327)), (3, .ref (ob E 339)), (4, .ref (ob E 340)), (5, .int (zI (i : Int)))]) C dL_law_3496  (by decide) rfl ?_
  refine zv_aload_n C 4 dL_law_3498 rfl rfl ?_
  refine zv_cviD (st := []) C (c_X11_thrown hfl E τ3493) mX11_thrown kL_200 (by decide : kd 327 = 10) rfl rfl rfl ⟨rfl, rfl⟩ (show zfit (zrm 0 0) 1 room_1 = true from rfl) (Nat.le_of_ble_eq_true rfl) dL_law_3499 ⟨by omega, by omega⟩ ?_
  refine zv_eqi (y := (zI 0)) (ht2) ?_
  refine zv_iload C 1 dL_law_3502 rfl ?_
  refine zv_icmp_eqZ (tgt := 3509) C (by omega) (by omega) dL_law_3504 (by decide) (fun h3504 => ?_) (fun h3504 => ?_)
  · skip
    refine zv_iload C 1 dL_law_3509 rfl ?_
    refine zv_if_neZ (tgt := 3526) C (by omega) dL_law_3511 (by decide) (fun h3511 => absurd h3511 (by decide)) (fun h3511 => ?_)
    refine zv_aload_n C 5 dL_law_3514 rfl rfl ?_
    refine zv_iconst (v := zI 0) C dL_law_3515 rfl ?_
    refine zv_lald (j := 0) C (by decide : kd 339 = _) (zI_ix (by omega)) (by decide) dL_law_3516 ?_
    refine zv_eql (y := ((zI (((ptF U S n1).length : Nat) : Int)).toInt64)) (hJ2.trans ho9) ?_
    refine zv_iload C 0 dL_law_3517 rfl ?_
    refine zv_i2l C dL_law_3519 ?_
    refine zv_lc_eq (tgt := 3526) C dL_law_3520 dL_law_3521 (by decide) (fun h3520 => ?_) (fun h3520 => ?_)
    · skip
      refine zv_goto (tgt := 3624) C dL_law_3526 (by decide) ?_
      refine zv_sub (lv' := [(0, .ref b0), (1, .ref (ob E 0)), (2, .ref (ob E 327)), (3, .ref (ob E 339)), (4, .ref (ob E 340)), (5, .int (zI (i : Int)))]) [2, 3, 4, 5, 6, 7] (zcons rfl (zcons rfl (zcons rfl (zcons rfl (zcons rfl (zcons rfl rfl)))))) ?_
      exact kk _ _ _ _ (by omega) (by omega) hR2
    · exfalso
      exact h3520 rfl
  · exfalso
    omega
set_option maxRecDepth 20000 in
theorem lw_printTrain_x1_x1 {p : Program} {l : Launch} {e : Env} {s : State} {m : MethodId} {args : Array Value} {below : List Frame} {meth : Method} {c : Code} {E : zE} {Q : State → Prop} {b0 L i ce sl : Nat} {xs : Nat → Int32} {σ : zS} (ni : Nat) (tx : Nat → Int) (ec : Nat) (eo : Int) (U : zSU) (S : zST) (hh : List zST) (kp : Option zST) (ou : List Nat) (v1 : Int) (W : zLW p l s m args meth c E b0 L xs) (hi : i + 6 ≤ L) (hcs : ce + 1 ≤ room_1.cells ∧ sl + 6 ≤ room_1.slots) (hR : zRel σ (zDv.mk ni tx ec eo U S hh kp ou)) (hx1 : xs (i + 1) = (zI v1)) (hbi0 : -2147483648 ≤ v1 ∧ v1 < 2147483648) (hno1 : ¬ (0 ≤ v1 ∧ v1 < U.nb))  (kk : zNx p l e s m args below meth c E Q b0 i ce sl) : zV p l e room_1 s m args below meth c 9 E Q ce sl σ 3473 (lwL b0 i E) [] := by
  refine (?_ : zV p l e room_1 s m args below meth c 9 E Q ce sl σ 3473 [(0, .ref b0), (1, .ref (ob E 0)), (2, .ref (ob E 327)), (3, .ref (ob E 339)), (4, .ref (ob E 340)), (5, .int (zI (i : Int)))] [])
  have C := W.2.1
  have hfl := W.1
  have hroom : room_1.cells = 601024 ∧ room_1.slots = 7293034 := ⟨rfl, rfl⟩
  refine zv_aload_n C 1 dL_law_3473 rfl rfl ?_
  refine zv_aload_n C 0 dL_law_3474 rfl rfl ?_
  refine zv_iload C 5 dL_law_3475 rfl ?_
  refine zv_iconst (v := zI 1) C dL_law_3477 rfl ?_
  refine zv_iaddZ C dL_law_3478 ?_
  refine zv_sld (j := i + 1) (v := (zI v1)) C W.2.2.1 W.2.2.2.1 W.2.2.2.2.1 W.2.2.2.2.2 (zI_ix (by omega)) (by omega) hx1 dL_law_3479 ?_
  refine zv_aload_n C 3 dL_law_3480 rfl rfl ?_
  refine zv_cH (st := []) C (w_x1_X10_printTrain hfl E σ U v1 hR.1.2.2.1 (by first | assumption | omega) (by first | assumption | omega)) mL_printTrain kL_348 rfl ⟨rfl, rfl⟩ (show zfit (zrx 13 323) 4 room_1 = true from rfl) (Nat.le_of_ble_eq_true rfl) dL_law_3481 ⟨by exact hcs.1, by exact hcs.2⟩ (fun r3481 τ3481 hp3481 => ?_)
  obtain ⟨hr0, hP9⟩ := hp3481
  refine zv_eqi (y := zI 1) hr0 ?_
  have hF9 : zFr 318 327 σ τ3481 := by rw [hP9]; exact (by first | exact zFr_refl _ _ _ | exact zFr_rW (zFr_refl _ _ _) (by omega) | exact zFr_rW (zFr_rW (zFr_refl _ _ _) (by omega)) (by omega) | exact qW_f _ _ _ _ | exact qM_f _ _ _ _ _ | exact rW2_f _ _ _ _ _ | exact rW3_f _ _ _ _ _ | exact alW_f _ _ _ _ _ | (split <;> first | exact zFr_refl _ _ _ | exact bW_f _ _ _ _) | assumption)
  have hR1 : zRel τ3481 (zDv.mk ni tx ec eo U S hh kp ou) := zRel_c hR hF9
  refine zv_istore (lv' := [(6, .int (zI 1)), (0, .ref b0), (1, .ref (ob E 0)), (2, .ref (ob E 327)), (3, .ref (ob E 339)), (4, .ref (ob E 340)), (5, .int (zI (i : Int)))]) C dL_law_3484  (by decide) rfl ?_
  refine zv_aload_n C 3 dL_law_3486 rfl rfl ?_
  refine zv_aload_n C 1 dL_law_3487 rfl rfl ?_
  refine zv_iload C 6 dL_law_3488 rfl ?_
  refine zv_iconst (v := zI 1) C dL_law_3490 rfl ?_
  refine zv_iaddZ C dL_law_3491 ?_
  refine zv_sld (j := i + 1) (v := (zI v1)) C W.2.2.1 W.2.2.2.1 W.2.2.2.2.1 W.2.2.2.2.2 (zI_ix (by omega)) (by omega) hx1 dL_law_3492 ?_
  refine zv_cvi (st := []) C (x1_X11_printTrain hfl E τ3481 σ U v1 hR1.2.2.2.1 hR.1.2.2.1 (by first | assumption | omega) (by first | assumption | omega)) mX11_printTrain kL_350 (by decide : kd 327 = 10) rfl rfl rfl ⟨rfl, rfl⟩ (show zfit (zrm 2 46) 4 room_1 = true from rfl) (Nat.le_of_ble_eq_true rfl) dL_law_3493 ⟨by omega, by omega⟩ (fun r3493 τ3493 hp3493 => ?_)
  obtain ⟨hr2, hK2⟩ := hp3493
  refine zv_eqi (y := zI 0) hr2 ?_
  have hR2 : zRel τ3493 (zDv.mk ni tx ec eo U S hh kp ou) := zRel_m hR1 hK2
  have ht2 : gI τ3493 327 10 = zI 1 := hK2.2
  have hJ2 : gJ τ3493 339 0 = gJ τ3481 339 0 := hK2.1.2.1 339 0 (by decide)
  have hD2 : gD τ3493 340 0 = gD τ3481 340 0 := hK2.1.2.2 340 0
  refine zv_istore (lv' := [(7, .int (zI 0)), (6, .int (zI 1)), (0, .ref b0), (1, .ref (ob E 0)), (2, .ref (ob E 327)), (3, .ref (ob E 339)), (4, .ref (ob E 340)), (5, .int (zI (i : Int)))]) C dL_law_3496  (by decide) rfl ?_
  refine zv_aload_n C 4 dL_law_3498 rfl rfl ?_
  refine zv_cviD (st := []) C (c_X11_thrown hfl E τ3493) mX11_thrown kL_200 (by decide : kd 327 = 10) rfl rfl rfl ⟨rfl, rfl⟩ (show zfit (zrm 0 0) 1 room_1 = true from rfl) (Nat.le_of_ble_eq_true rfl) dL_law_3499 ⟨by omega, by omega⟩ ?_
  refine zv_eqi (y := (zI 1)) (ht2) ?_
  refine zv_iload C 1 dL_law_3502 rfl ?_
  refine zv_icmp_eqZ (tgt := 3509) C (by omega) (by omega) dL_law_3504 (by decide) (fun h3504 => ?_) (fun h3504 => ?_)
  · skip
    refine zv_iload C 1 dL_law_3509 rfl ?_
    refine zv_if_neZ (tgt := 3526) C (by omega) dL_law_3511 (by decide) (fun h3511 => ?_) (fun h3511 => absurd h3511 (by decide))
    refine zv_goto (tgt := 3624) C dL_law_3526 (by decide) ?_
    refine zv_sub (lv' := [(0, .ref b0), (1, .ref (ob E 0)), (2, .ref (ob E 327)), (3, .ref (ob E 339)), (4, .ref (ob E 340)), (5, .int (zI (i : Int)))]) [2, 3, 4, 5, 6, 7] (zcons rfl (zcons rfl (zcons rfl (zcons rfl (zcons rfl (zcons rfl rfl)))))) ?_
    exact kk _ _ _ _ (by omega) (by omega) hR2
  · exfalso
    omega
theorem LK_52 {p : Program} {l : Launch} {e : Env} {s : State} {m : MethodId} {args : Array Value} {below : List Frame} {meth : Method} {c : Code} {E : zE} {Q : State → Prop} {b0 L i ce sl : Nat} {xs : Nat → Int32} {σ : zS} (ni : Nat) (tx : Nat → Int) (ec : Nat) (eo : Int) (U : zSU) (S : zST) (hh : List zST) (kp : Option zST) (ou : List Nat) (hFN : zFN) (W : zLW p l s m args meth c E b0 L xs) (hi : i + 6 ≤ L) (hcs : ce + 1 ≤ room_1.cells ∧ sl + 6 ≤ room_1.slots) (hR : zRel σ (zDv.mk ni tx ec eo U S hh kp ou)) (kk : zNx p l e s m args below meth c E Q b0 i ce sl) : zV p l e room_1 s m args below meth c 9 E Q ce sl σ 3473 (lwL b0 i E) [] := by
  obtain ⟨v1, hx1, hv1⟩ := zI_cov (xs (i + 1))
  by_cases g1 : 0 ≤ v1 ∧ v1 < U.nb
  case neg =>
    exact lw_printTrain_x1_x1 _ _ _ _ _ _ _ _ _ _ W hi hcs hR hx1 (by first | assumption | omega) (by first | assumption | omega) kk
  obtain ⟨n1, rfl⟩ := Int.eq_ofNat_of_zero_le (show 0 ≤ v1 by omega)
  exact lw_printTrain_c_c _ _ _ _ _ _ _ _ _ _ W hi hcs hR hx1 (by first | assumption | omega) kk
