/-! the law's cases -/
theorem dL_law_2475 : decode cL_law 2475 = .ok (.aload_n 1, 1) := by decide +kernel
theorem dL_law_2476 : decode cL_law 2476 = .ok (.aload_n 0, 1) := by decide +kernel
theorem dL_law_2477 : decode cL_law 2477 = .ok (.iload 5, 2) := by decide +kernel
theorem dL_law_2479 : decode cL_law 2479 = .ok (.iconst 1, 1) := by decide +kernel
theorem dL_law_2480 : decode cL_law 2480 = .ok (.iadd, 1) := by decide +kernel
theorem dL_law_2481 : decode cL_law 2481 = .ok (.iaload, 1) := by decide +kernel
theorem dL_law_2482 : decode cL_law 2482 = .ok (.aload_n 0, 1) := by decide +kernel
theorem dL_law_2483 : decode cL_law 2483 = .ok (.iload 5, 2) := by decide +kernel
theorem dL_law_2485 : decode cL_law 2485 = .ok (.iconst 2, 1) := by decide +kernel
theorem dL_law_2486 : decode cL_law 2486 = .ok (.iadd, 1) := by decide +kernel
theorem dL_law_2487 : decode cL_law 2487 = .ok (.iaload, 1) := by decide +kernel
theorem dL_law_2488 : decode cL_law 2488 = .ok (.aload_n 0, 1) := by decide +kernel
theorem dL_law_2489 : decode cL_law 2489 = .ok (.iload 5, 2) := by decide +kernel
theorem dL_law_2491 : decode cL_law 2491 = .ok (.iconst 3, 1) := by decide +kernel
theorem dL_law_2492 : decode cL_law 2492 = .ok (.iadd, 1) := by decide +kernel
theorem dL_law_2493 : decode cL_law 2493 = .ok (.iaload, 1) := by decide +kernel
theorem dL_law_2494 : decode cL_law 2494 = .ok (.aload_n 0, 1) := by decide +kernel
theorem dL_law_2495 : decode cL_law 2495 = .ok (.iload 5, 2) := by decide +kernel
theorem dL_law_2497 : decode cL_law 2497 = .ok (.iconst 4, 1) := by decide +kernel
theorem dL_law_2498 : decode cL_law 2498 = .ok (.iadd, 1) := by decide +kernel
theorem dL_law_2499 : decode cL_law 2499 = .ok (.iaload, 1) := by decide +kernel
theorem dL_law_2500 : decode cL_law 2500 = .ok (.aload_n 3, 1) := by decide +kernel
theorem dL_law_2501 : decode cL_law 2501 = .ok (.invokestatic 303, 3) := by decide +kernel
theorem dL_law_2504 : decode cL_law 2504 = .ok (.istore 6, 2) := by decide +kernel
theorem dL_law_2506 : decode cL_law 2506 = .ok (.aload_n 2, 1) := by decide +kernel
theorem dL_law_2507 : decode cL_law 2507 = .ok (.aload_n 0, 1) := by decide +kernel
theorem dL_law_2508 : decode cL_law 2508 = .ok (.iload 5, 2) := by decide +kernel
theorem dL_law_2510 : decode cL_law 2510 = .ok (.iconst 1, 1) := by decide +kernel
theorem dL_law_2511 : decode cL_law 2511 = .ok (.iadd, 1) := by decide +kernel
theorem dL_law_2512 : decode cL_law 2512 = .ok (.iaload, 1) := by decide +kernel
theorem dL_law_2513 : decode cL_law 2513 = .ok (.aload_n 0, 1) := by decide +kernel
theorem dL_law_2514 : decode cL_law 2514 = .ok (.iload 5, 2) := by decide +kernel
theorem dL_law_2516 : decode cL_law 2516 = .ok (.iconst 2, 1) := by decide +kernel
theorem dL_law_2517 : decode cL_law 2517 = .ok (.iadd, 1) := by decide +kernel
theorem dL_law_2518 : decode cL_law 2518 = .ok (.iaload, 1) := by decide +kernel
theorem dL_law_2519 : decode cL_law 2519 = .ok (.aload_n 0, 1) := by decide +kernel
theorem dL_law_2520 : decode cL_law 2520 = .ok (.iload 5, 2) := by decide +kernel
theorem dL_law_2522 : decode cL_law 2522 = .ok (.iconst 3, 1) := by decide +kernel
theorem dL_law_2523 : decode cL_law 2523 = .ok (.iadd, 1) := by decide +kernel
theorem dL_law_2524 : decode cL_law 2524 = .ok (.iaload, 1) := by decide +kernel
theorem dL_law_2525 : decode cL_law 2525 = .ok (.aload_n 0, 1) := by decide +kernel
theorem dL_law_2526 : decode cL_law 2526 = .ok (.iload 5, 2) := by decide +kernel
theorem dL_law_2528 : decode cL_law 2528 = .ok (.iconst 4, 1) := by decide +kernel
theorem dL_law_2529 : decode cL_law 2529 = .ok (.iadd, 1) := by decide +kernel
theorem dL_law_2530 : decode cL_law 2530 = .ok (.iaload, 1) := by decide +kernel
theorem dL_law_2531 : decode cL_law 2531 = .ok (.invokevirtual 305, 3) := by decide +kernel
theorem dL_law_2534 : decode cL_law 2534 = .ok (.istore 7, 2) := by decide +kernel
theorem dL_law_2536 : decode cL_law 2536 = .ok (.aload_n 2, 1) := by decide +kernel
theorem dL_law_2537 : decode cL_law 2537 = .ok (.invokevirtual 200, 3) := by decide +kernel
theorem dL_law_2540 : decode cL_law 2540 = .ok (.iload 6, 2) := by decide +kernel
theorem dL_law_2542 : decode cL_law 2542 = .ok (.if_icmp .eq 5, 3) := by decide +kernel
theorem dL_law_2545 : decode cL_law 2545 = .ok (.iconst 0, 1) := by decide +kernel
theorem dL_law_2546 : decode cL_law 2546 = .ok (.ireturn, 1) := by decide +kernel
theorem dL_law_2547 : decode cL_law 2547 = .ok (.iload 6, 2) := by decide +kernel
theorem dL_law_2549 : decode cL_law 2549 = .ok (.ifCond .ne 15, 3) := by decide +kernel
theorem dL_law_2552 : decode cL_law 2552 = .ok (.aload_n 3, 1) := by decide +kernel
theorem dL_law_2553 : decode cL_law 2553 = .ok (.iconst 0, 1) := by decide +kernel
theorem dL_law_2554 : decode cL_law 2554 = .ok (.laload, 1) := by decide +kernel
theorem dL_law_2555 : decode cL_law 2555 = .ok (.iload 7, 2) := by decide +kernel
theorem dL_law_2557 : decode cL_law 2557 = .ok (.i2l, 1) := by decide +kernel
theorem dL_law_2558 : decode cL_law 2558 = .ok (.lcmp, 1) := by decide +kernel
theorem dL_law_2559 : decode cL_law 2559 = .ok (.ifCond .eq 5, 3) := by decide +kernel
theorem dL_law_2562 : decode cL_law 2562 = .ok (.iconst 0, 1) := by decide +kernel
theorem dL_law_2563 : decode cL_law 2563 = .ok (.ireturn, 1) := by decide +kernel
theorem dL_law_2564 : decode cL_law 2564 = .ok (.goto 1060, 3) := by decide +kernel
set_option maxRecDepth 20000 in
theorem lw_nextMeeting_c_c {p : Program} {l : Launch} {e : Env} {s : State} {m : MethodId} {args : Array Value} {below : List Frame} {meth : Method} {c : Code} {E : zE} {Q : State → Prop} {b0 L i ce sl : Nat} {xs : Nat → Int32} {σ : zS} (ni : Nat) (tx : Nat → Int) (ec : Nat) (eo : Int) (U : zSU) (S : zST) (hh : List zST) (kp : Option zST) (ou : List Nat) (n1 : Nat) (n2 : Nat) (n3 : Nat) (v4 : Int) (W : zLW p l s m args meth c E b0 L xs) (hi : i + 6 ≤ L) (hcs : ce + 1 ≤ room_1.cells ∧ sl + 6 ≤ room_1.slots) (hR : zRel σ (zDv.mk ni tx ec eo U S hh kp ou)) (hx1 : xs (i + 1) = (zI (n1 : Int))) (hx2 : xs (i + 2) = (zI (n2 : Int))) (hx3 : xs (i + 3) = (zI (n3 : Int))) (hx4 : xs (i + 4) = (zI v4)) (hi0 : n1 < U.nb) (ho1 : n2 < U.nb) (hdd92 : 0 ≤ (n3 : Int) ∧ (n3 : Int) ≤ 390000) (horb3 : 0 ≤ v4 ∧ v4 ≤ 648000)  (kk : zNx p l e s m args below meth c E Q b0 i ce sl) : zV p l e room_1 s m args below meth c 9 E Q ce sl σ 2475 (lwL b0 i E) [] := by
  refine (?_ : zV p l e room_1 s m args below meth c 9 E Q ce sl σ 2475 [(0, .ref b0), (1, .ref (ob E 0)), (2, .ref (ob E 327)), (3, .ref (ob E 339)), (4, .ref (ob E 340)), (5, .int (zI (i : Int)))] [])
  have C := W.2.1
  have hfl := W.1
  have hroom : room_1.cells = 601024 ∧ room_1.slots = 7293034 := ⟨rfl, rfl⟩
  refine zv_aload_n C 1 dL_law_2475 rfl rfl ?_
  refine zv_aload_n C 0 dL_law_2476 rfl rfl ?_
  refine zv_iload C 5 dL_law_2477 rfl ?_
  refine zv_iconst (v := zI 1) C dL_law_2479 rfl ?_
  refine zv_iaddZ C dL_law_2480 ?_
  refine zv_sld (j := i + 1) (v := (zI (n1 : Int))) C W.2.2.1 W.2.2.2.1 W.2.2.2.2.1 W.2.2.2.2.2 (zI_ix (by omega)) (by omega) hx1 dL_law_2481 ?_
  refine zv_aload_n C 0 dL_law_2482 rfl rfl ?_
  refine zv_iload C 5 dL_law_2483 rfl ?_
  refine zv_iconst (v := zI 2) C dL_law_2485 rfl ?_
  refine zv_iaddZ C dL_law_2486 ?_
  refine zv_sld (j := i + 2) (v := (zI (n2 : Int))) C W.2.2.1 W.2.2.2.1 W.2.2.2.2.1 W.2.2.2.2.2 (zI_ix (by omega)) (by omega) hx2 dL_law_2487 ?_
  refine zv_aload_n C 0 dL_law_2488 rfl rfl ?_
  refine zv_iload C 5 dL_law_2489 rfl ?_
  refine zv_iconst (v := zI 3) C dL_law_2491 rfl ?_
  refine zv_iaddZ C dL_law_2492 ?_
  refine zv_sld (j := i + 3) (v := (zI (n3 : Int))) C W.2.2.1 W.2.2.2.1 W.2.2.2.2.1 W.2.2.2.2.2 (zI_ix (by omega)) (by omega) hx3 dL_law_2493 ?_
  refine zv_aload_n C 0 dL_law_2494 rfl rfl ?_
  refine zv_iload C 5 dL_law_2495 rfl ?_
  refine zv_iconst (v := zI 4) C dL_law_2497 rfl ?_
  refine zv_iaddZ C dL_law_2498 ?_
  refine zv_sld (j := i + 4) (v := (zI v4)) C W.2.2.1 W.2.2.2.1 W.2.2.2.2.1 W.2.2.2.2.2 (zI_ix (by omega)) (by omega) hx4 dL_law_2499 ?_
  refine zv_aload_n C 3 dL_law_2500 rfl rfl ?_
  refine zv_cH (st := []) C (w_c_X10_nextMeeting hfl E σ U S n1 n2 (n3 : Int) v4 hR.1.2.2.1 hR.1.2.2.2.1.1 (by first | assumption | omega) (by first | assumption | omega) (by first | assumption | omega) (by first | assumption | omega)) mL_nextMeeting kL_303 rfl ⟨rfl, rfl⟩ (show zfit (zrm 5 132) 7 room_1 = true from rfl) (Nat.le_of_ble_eq_true rfl) dL_law_2501 ⟨by omega, by omega⟩ (fun r2501 τ2501 hp2501 => ?_)
  obtain ⟨hr0, v9, υ9, hP9, hτ9⟩ := hp2501
  refine zv_eqi (y := zI 0) hr0 ?_
  obtain ⟨hv9, hW9⟩ := hP9
  have hF9 : zFr 318 327 σ υ9 := by first | exact hW9 | (rw [hW9]; exact (by first | exact zFr_refl _ _ _ | exact zFr_rW (zFr_refl _ _ _) (by omega) | exact zFr_rW (zFr_rW (zFr_refl _ _ _) (by omega)) (by omega) | exact qW_f _ _ _ _ | exact qM_f _ _ _ _ _ | exact rW2_f _ _ _ _ _ | exact rW3_f _ _ _ _ _ | exact alW_f _ _ _ _ _ | (split <;> first | exact zFr_refl _ _ _ | exact bW_f _ _ _ _) | assumption))
  have hR1 : zRel τ2501 (zDv.mk ni tx ec eo U S hh kp ou) := by rw [hτ9]; exact zRel_J (zRel_c hR hF9) _
  have ho9 : gJ τ2501 339 0 = v9.toInt64 := by rw [hτ9, gJ_sJ, if_pos ⟨rfl, rfl⟩]
  rw [hv9] at ho9
  refine zv_istore (lv' := [(6, .int (zI 0)), (0, .ref b0), (1, .ref (ob E 0)), (2, .ref (ob E 327)), (3, .ref (ob E 339)), (4, .ref (ob E 340)), (5, .int (zI (i : Int)))]) C dL_law_2504  (by decide) rfl ?_
  refine zv_aload_n C 3 dL_law_2506 rfl rfl ?_
  refine zv_aload_n C 1 dL_law_2507 rfl rfl ?_
  refine zv_iload C 6 dL_law_2508 rfl ?_
  refine zv_iconst (v := zI 1) C dL_law_2510 rfl ?_
  refine zv_iaddZ C dL_law_2511 ?_
  refine zv_sld (j := i + 1) (v := (zI (n1 : Int))) C W.2.2.1 W.2.2.2.1 W.2.2.2.2.1 W.2.2.2.2.2 (zI_ix (by omega)) (by omega) hx1 dL_law_2512 ?_
  refine zv_aload_n C 1 dL_law_2513 rfl rfl ?_
  refine zv_iload C 6 dL_law_2514 rfl ?_
  refine zv_iconst (v := zI 2) C dL_law_2516 rfl ?_
  refine zv_iaddZ C dL_law_2517 ?_
  refine zv_sld (j := i + 2) (v := (zI (n2 : Int))) C W.2.2.1 W.2.2.2.1 W.2.2.2.2.1 W.2.2.2.2.2 (zI_ix (by omega)) (by omega) hx2 dL_law_2518 ?_
  refine zv_aload_n C 1 dL_law_2519 rfl rfl ?_
  refine zv_iload C 6 dL_law_2520 rfl ?_
  refine zv_iconst (v := zI 3) C dL_law_2522 rfl ?_
  refine zv_iaddZ C dL_law_2523 ?_
  refine zv_sld (j := i + 3) (v := (zI (n3 : Int))) C W.2.2.1 W.2.2.2.1 W.2.2.2.2.1 W.2.2.2.2.2 (zI_ix (by omega)) (by omega) hx3 dL_law_2524 ?_
  refine zv_aload_n C 1 dL_law_2525 rfl rfl ?_
  refine zv_iload C 6 dL_law_2526 rfl ?_
  refine zv_iconst (v := zI 4) C dL_law_2528 rfl ?_
  refine zv_iaddZ C dL_law_2529 ?_
  refine zv_sld (j := i + 4) (v := (zI v4)) C W.2.2.1 W.2.2.2.1 W.2.2.2.2.1 W.2.2.2.2.2 (zI_ix (by omega)) (by omega) hx4 dL_law_2530 ?_
  refine zv_cvi (st := []) C (c_X11_nextMeeting hfl E τ2501 σ U S n1 n2 n3 v4 hR1.2.2.2.1 hR.1.2.2.1 hR1.2.2.2.2.2.1.1 hR.1.2.2.2.1.1 (by first | assumption | omega) (by first | assumption | omega) (by first | assumption | omega) (by first | assumption | omega)) mX11_nextMeeting kL_305 (by decide : kd 327 = 10) rfl rfl rfl ⟨rfl, rfl⟩ (show zfit (zrm 2 46) 6 room_1 = true from rfl) (Nat.le_of_ble_eq_true rfl) dL_law_2531 ⟨by omega, by omega⟩ (fun r2531 τ2531 hp2531 => ?_)
  obtain ⟨hr2, hK2⟩ := hp2531
  refine zv_eqi (y := zI (dNmR U S n1 n2 (n3 : Int) v4)) hr2 ?_
  have hR2 : zRel τ2531 (zDv.mk ni tx ec eo U S hh kp ou) := zRel_m hR1 hK2
  have ht2 : gI τ2531 327 10 = zI 0 := hK2.2
  have hJ2 : gJ τ2531 339 0 = gJ τ2501 339 0 := hK2.1.2.1 339 0 (by decide)
  have hD2 : gD τ2531 340 0 = gD τ2501 340 0 := hK2.1.2.2 340 0
  refine zv_istore (lv' := [(7, .int (zI (dNmR U S n1 n2 (n3 : Int) v4))), (6, .int (zI 0)), (0, .ref b0), (1, .ref (ob E 0)), (2, .ref (ob E 327)), (3, .ref (ob E 339)), (4, .ref (ob E 340)), (5, .int (zI (i : Int)))]) C dL_law_2534  (by decide) rfl ?_
  refine zv_aload_n C 4 dL_law_2536 rfl rfl ?_
  refine zv_cviD (st := []) C (c_X11_thrown hfl E τ2531) mX11_thrown kL_200 (by decide : kd 327 = 10) rfl rfl rfl ⟨rfl, rfl⟩ (show zfit (zrm 0 0) 1 room_1 = true from rfl) (Nat.le_of_ble_eq_true rfl) dL_law_2537 ⟨by omega, by omega⟩ ?_
  refine zv_eqi (y := (zI 0)) (ht2) ?_
  refine zv_iload C 1 dL_law_2540 rfl ?_
  refine zv_icmp_eqZ (tgt := 2547) C (by omega) (by omega) dL_law_2542 (by decide) (fun h2542 => ?_) (fun h2542 => ?_)
  · skip
    refine zv_iload C 1 dL_law_2547 rfl ?_
    refine zv_if_neZ (tgt := 2564) C (by omega) dL_law_2549 (by decide) (fun h2549 => absurd h2549 (by decide)) (fun h2549 => ?_)
    refine zv_aload_n C 5 dL_law_2552 rfl rfl ?_
    refine zv_iconst (v := zI 0) C dL_law_2553 rfl ?_
    refine zv_lald (j := 0) C (by decide : kd 339 = _) (zI_ix (by omega)) (by decide) dL_law_2554 ?_
    refine zv_eql (y := ((zI (dNmR U S n1 n2 (n3 : Int) v4)).toInt64)) (hJ2.trans ho9) ?_
    refine zv_iload C 0 dL_law_2555 rfl ?_
    refine zv_i2l C dL_law_2557 ?_
    refine zv_lc_eq (tgt := 2564) C dL_law_2558 dL_law_2559 (by decide) (fun h2558 => ?_) (fun h2558 => ?_)
    · skip
      refine zv_goto (tgt := 3624) C dL_law_2564 (by decide) ?_
      refine zv_sub (lv' := [(0, .ref b0), (1, .ref (ob E 0)), (2, .ref (ob E 327)), (3, .ref (ob E 339)), (4, .ref (ob E 340)), (5, .int (zI (i : Int)))]) [2, 3, 4, 5, 6, 7] (zcons rfl (zcons rfl (zcons rfl (zcons rfl (zcons rfl (zcons rfl rfl)))))) ?_
      exact kk _ _ _ _ (by omega) (by omega) hR2
    · exfalso
      exact h2558 rfl
  · exfalso
    omega
set_option maxRecDepth 20000 in
theorem lw_nextMeeting_x1_x1 {p : Program} {l : Launch} {e : Env} {s : State} {m : MethodId} {args : Array Value} {below : List Frame} {meth : Method} {c : Code} {E : zE} {Q : State → Prop} {b0 L i ce sl : Nat} {xs : Nat → Int32} {σ : zS} (ni : Nat) (tx : Nat → Int) (ec : Nat) (eo : Int) (U : zSU) (S : zST) (hh : List zST) (kp : Option zST) (ou : List Nat) (v1 : Int) (v2 : Int) (v3 : Int) (v4 : Int) (W : zLW p l s m args meth c E b0 L xs) (hi : i + 6 ≤ L) (hcs : ce + 1 ≤ room_1.cells ∧ sl + 6 ≤ room_1.slots) (hR : zRel σ (zDv.mk ni tx ec eo U S hh kp ou)) (hx1 : xs (i + 1) = (zI v1)) (hx2 : xs (i + 2) = (zI v2)) (hx3 : xs (i + 3) = (zI v3)) (hx4 : xs (i + 4) = (zI v4)) (hbi0 : -2147483648 ≤ v1 ∧ v1 < 2147483648) (hno1 : ¬ (0 ≤ v1 ∧ v1 < U.nb))  (kk : zNx p l e s m args below meth c E Q b0 i ce sl) : zV p l e room_1 s m args below meth c 9 E Q ce sl σ 2475 (lwL b0 i E) [] := by
  refine (?_ : zV p l e room_1 s m args below meth c 9 E Q ce sl σ 2475 [(0, .ref b0), (1, .ref (ob E 0)), (2, .ref (ob E 327)), (3, .ref (ob E 339)), (4, .ref (ob E 340)), (5, .int (zI (i : Int)))] [])
  have C := W.2.1
  have hfl := W.1
  have hroom : room_1.cells = 601024 ∧ room_1.slots = 7293034 := ⟨rfl, rfl⟩
  refine zv_aload_n C 1 dL_law_2475 rfl rfl ?_
  refine zv_aload_n C 0 dL_law_2476 rfl rfl ?_
  refine zv_iload C 5 dL_law_2477 rfl ?_
  refine zv_iconst (v := zI 1) C dL_law_2479 rfl ?_
  refine zv_iaddZ C dL_law_2480 ?_
  refine zv_sld (j := i + 1) (v := (zI v1)) C W.2.2.1 W.2.2.2.1 W.2.2.2.2.1 W.2.2.2.2.2 (zI_ix (by omega)) (by omega) hx1 dL_law_2481 ?_
  refine zv_aload_n C 0 dL_law_2482 rfl rfl ?_
  refine zv_iload C 5 dL_law_2483 rfl ?_
  refine zv_iconst (v := zI 2) C dL_law_2485 rfl ?_
  refine zv_iaddZ C dL_law_2486 ?_
  refine zv_sld (j := i + 2) (v := (zI v2)) C W.2.2.1 W.2.2.2.1 W.2.2.2.2.1 W.2.2.2.2.2 (zI_ix (by omega)) (by omega) hx2 dL_law_2487 ?_
  refine zv_aload_n C 0 dL_law_2488 rfl rfl ?_
  refine zv_iload C 5 dL_law_2489 rfl ?_
  refine zv_iconst (v := zI 3) C dL_law_2491 rfl ?_
  refine zv_iaddZ C dL_law_2492 ?_
  refine zv_sld (j := i + 3) (v := (zI v3)) C W.2.2.1 W.2.2.2.1 W.2.2.2.2.1 W.2.2.2.2.2 (zI_ix (by omega)) (by omega) hx3 dL_law_2493 ?_
  refine zv_aload_n C 0 dL_law_2494 rfl rfl ?_
  refine zv_iload C 5 dL_law_2495 rfl ?_
  refine zv_iconst (v := zI 4) C dL_law_2497 rfl ?_
  refine zv_iaddZ C dL_law_2498 ?_
  refine zv_sld (j := i + 4) (v := (zI v4)) C W.2.2.1 W.2.2.2.1 W.2.2.2.2.1 W.2.2.2.2.2 (zI_ix (by omega)) (by omega) hx4 dL_law_2499 ?_
  refine zv_aload_n C 3 dL_law_2500 rfl rfl ?_
  refine zv_cH (st := []) C (w_x1_X10_nextMeeting hfl E σ U v1 v2 v3 v4 hR.1.2.2.1 (by first | assumption | omega) (by first | assumption | omega)) mL_nextMeeting kL_303 rfl ⟨rfl, rfl⟩ (show zfit (zrx 10 227) 7 room_1 = true from rfl) (Nat.le_of_ble_eq_true rfl) dL_law_2501 ⟨by exact hcs.1, by exact hcs.2⟩ (fun r2501 τ2501 hp2501 => ?_)
  obtain ⟨hr0, hP9⟩ := hp2501
  refine zv_eqi (y := zI 1) hr0 ?_
  have hF9 : zFr 318 327 σ τ2501 := by rw [hP9]; exact (by first | exact zFr_refl _ _ _ | exact zFr_rW (zFr_refl _ _ _) (by omega) | exact zFr_rW (zFr_rW (zFr_refl _ _ _) (by omega)) (by omega) | exact qW_f _ _ _ _ | exact qM_f _ _ _ _ _ | exact rW2_f _ _ _ _ _ | exact rW3_f _ _ _ _ _ | exact alW_f _ _ _ _ _ | (split <;> first | exact zFr_refl _ _ _ | exact bW_f _ _ _ _) | assumption)
  have hR1 : zRel τ2501 (zDv.mk ni tx ec eo U S hh kp ou) := zRel_c hR hF9
  refine zv_istore (lv' := [(6, .int (zI 1)), (0, .ref b0), (1, .ref (ob E 0)), (2, .ref (ob E 327)), (3, .ref (ob E 339)), (4, .ref (ob E 340)), (5, .int (zI (i : Int)))]) C dL_law_2504  (by decide) rfl ?_
  refine zv_aload_n C 3 dL_law_2506 rfl rfl ?_
  refine zv_aload_n C 1 dL_law_2507 rfl rfl ?_
  refine zv_iload C 6 dL_law_2508 rfl ?_
  refine zv_iconst (v := zI 1) C dL_law_2510 rfl ?_
  refine zv_iaddZ C dL_law_2511 ?_
  refine zv_sld (j := i + 1) (v := (zI v1)) C W.2.2.1 W.2.2.2.1 W.2.2.2.2.1 W.2.2.2.2.2 (zI_ix (by omega)) (by omega) hx1 dL_law_2512 ?_
  refine zv_aload_n C 1 dL_law_2513 rfl rfl ?_
  refine zv_iload C 6 dL_law_2514 rfl ?_
  refine zv_iconst (v := zI 2) C dL_law_2516 rfl ?_
  refine zv_iaddZ C dL_law_2517 ?_
  refine zv_sld (j := i + 2) (v := (zI v2)) C W.2.2.1 W.2.2.2.1 W.2.2.2.2.1 W.2.2.2.2.2 (zI_ix (by omega)) (by omega) hx2 dL_law_2518 ?_
  refine zv_aload_n C 1 dL_law_2519 rfl rfl ?_
  refine zv_iload C 6 dL_law_2520 rfl ?_
  refine zv_iconst (v := zI 3) C dL_law_2522 rfl ?_
  refine zv_iaddZ C dL_law_2523 ?_
  refine zv_sld (j := i + 3) (v := (zI v3)) C W.2.2.1 W.2.2.2.1 W.2.2.2.2.1 W.2.2.2.2.2 (zI_ix (by omega)) (by omega) hx3 dL_law_2524 ?_
  refine zv_aload_n C 1 dL_law_2525 rfl rfl ?_
  refine zv_iload C 6 dL_law_2526 rfl ?_
  refine zv_iconst (v := zI 4) C dL_law_2528 rfl ?_
  refine zv_iaddZ C dL_law_2529 ?_
  refine zv_sld (j := i + 4) (v := (zI v4)) C W.2.2.1 W.2.2.2.1 W.2.2.2.2.1 W.2.2.2.2.2 (zI_ix (by omega)) (by omega) hx4 dL_law_2530 ?_
  refine zv_cvi (st := []) C (x1_X11_nextMeeting hfl E τ2501 σ U v1 v2 v3 v4 hR1.2.2.2.1 hR.1.2.2.1 (by first | assumption | omega) (by first | assumption | omega)) mX11_nextMeeting kL_305 (by decide : kd 327 = 10) rfl rfl rfl ⟨rfl, rfl⟩ (show zfit (zrm 2 46) 6 room_1 = true from rfl) (Nat.le_of_ble_eq_true rfl) dL_law_2531 ⟨by omega, by omega⟩ (fun r2531 τ2531 hp2531 => ?_)
  obtain ⟨hr2, hK2⟩ := hp2531
  refine zv_eqi (y := zI 0) hr2 ?_
  have hR2 : zRel τ2531 (zDv.mk ni tx ec eo U S hh kp ou) := zRel_m hR1 hK2
  have ht2 : gI τ2531 327 10 = zI 1 := hK2.2
  have hJ2 : gJ τ2531 339 0 = gJ τ2501 339 0 := hK2.1.2.1 339 0 (by decide)
  have hD2 : gD τ2531 340 0 = gD τ2501 340 0 := hK2.1.2.2 340 0
  refine zv_istore (lv' := [(7, .int (zI 0)), (6, .int (zI 1)), (0, .ref b0), (1, .ref (ob E 0)), (2, .ref (ob E 327)), (3, .ref (ob E 339)), (4, .ref (ob E 340)), (5, .int (zI (i : Int)))]) C dL_law_2534  (by decide) rfl ?_
  refine zv_aload_n C 4 dL_law_2536 rfl rfl ?_
  refine zv_cviD (st := []) C (c_X11_thrown hfl E τ2531) mX11_thrown kL_200 (by decide : kd 327 = 10) rfl rfl rfl ⟨rfl, rfl⟩ (show zfit (zrm 0 0) 1 room_1 = true from rfl) (Nat.le_of_ble_eq_true rfl) dL_law_2537 ⟨by omega, by omega⟩ ?_
  refine zv_eqi (y := (zI 1)) (ht2) ?_
  refine zv_iload C 1 dL_law_2540 rfl ?_
  refine zv_icmp_eqZ (tgt := 2547) C (by omega) (by omega) dL_law_2542 (by decide) (fun h2542 => ?_) (fun h2542 => ?_)
  · skip
    refine zv_iload C 1 dL_law_2547 rfl ?_
    refine zv_if_neZ (tgt := 2564) C (by omega) dL_law_2549 (by decide) (fun h2549 => ?_) (fun h2549 => absurd h2549 (by decide))
    refine zv_goto (tgt := 3624) C dL_law_2564 (by decide) ?_
    refine zv_sub (lv' := [(0, .ref b0), (1, .ref (ob E 0)), (2, .ref (ob E 327)), (3, .ref (ob E 339)), (4, .ref (ob E 340)), (5, .int (zI (i : Int)))]) [2, 3, 4, 5, 6, 7] (zcons rfl (zcons rfl (zcons rfl (zcons rfl (zcons rfl (zcons rfl rfl)))))) ?_
    exact kk _ _ _ _ (by omega) (by omega) hR2
  · exfalso
    omega
set_option maxRecDepth 20000 in
theorem lw_nextMeeting_x2_x2 {p : Program} {l : Launch} {e : Env} {s : State} {m : MethodId} {args : Array Value} {below : List Frame} {meth : Method} {c : Code} {E : zE} {Q : State → Prop} {b0 L i ce sl : Nat} {xs : Nat → Int32} {σ : zS} (ni : Nat) (tx : Nat → Int) (ec : Nat) (eo : Int) (U : zSU) (S : zST) (hh : List zST) (kp : Option zST) (ou : List Nat) (n1 : Nat) (v2 : Int) (v3 : Int) (v4 : Int) (W : zLW p l s m args meth c E b0 L xs) (hi : i + 6 ≤ L) (hcs : ce + 1 ≤ room_1.cells ∧ sl + 6 ≤ room_1.slots) (hR : zRel σ (zDv.mk ni tx ec eo U S hh kp ou)) (hx1 : xs (i + 1) = (zI (n1 : Int))) (hx2 : xs (i + 2) = (zI v2)) (hx3 : xs (i + 3) = (zI v3)) (hx4 : xs (i + 4) = (zI v4)) (hi0 : n1 < U.nb) (hyi1 : -2147483648 ≤ v2 ∧ v2 < 2147483648) (hno2 : ¬ (0 ≤ v2 ∧ v2 < U.nb))  (kk : zNx p l e s m args below meth c E Q b0 i ce sl) : zV p l e room_1 s m args below meth c 9 E Q ce sl σ 2475 (lwL b0 i E) [] := by
  refine (?_ : zV p l e room_1 s m args below meth c 9 E Q ce sl σ 2475 [(0, .ref b0), (1, .ref (ob E 0)), (2, .ref (ob E 327)), (3, .ref (ob E 339)), (4, .ref (ob E 340)), (5, .int (zI (i : Int)))] [])
  have C := W.2.1
  have hfl := W.1
  have hroom : room_1.cells = 601024 ∧ room_1.slots = 7293034 := ⟨rfl, rfl⟩
  refine zv_aload_n C 1 dL_law_2475 rfl rfl ?_
  refine zv_aload_n C 0 dL_law_2476 rfl rfl ?_
  refine zv_iload C 5 dL_law_2477 rfl ?_
  refine zv_iconst (v := zI 1) C dL_law_2479 rfl ?_
  refine zv_iaddZ C dL_law_2480 ?_
  refine zv_sld (j := i + 1) (v := (zI (n1 : Int))) C W.2.2.1 W.2.2.2.1 W.2.2.2.2.1 W.2.2.2.2.2 (zI_ix (by omega)) (by omega) hx1 dL_law_2481 ?_
  refine zv_aload_n C 0 dL_law_2482 rfl rfl ?_
  refine zv_iload C 5 dL_law_2483 rfl ?_
  refine zv_iconst (v := zI 2) C dL_law_2485 rfl ?_
  refine zv_iaddZ C dL_law_2486 ?_
  refine zv_sld (j := i + 2) (v := (zI v2)) C W.2.2.1 W.2.2.2.1 W.2.2.2.2.1 W.2.2.2.2.2 (zI_ix (by omega)) (by omega) hx2 dL_law_2487 ?_
  refine zv_aload_n C 0 dL_law_2488 rfl rfl ?_
  refine zv_iload C 5 dL_law_2489 rfl ?_
  refine zv_iconst (v := zI 3) C dL_law_2491 rfl ?_
  refine zv_iaddZ C dL_law_2492 ?_
  refine zv_sld (j := i + 3) (v := (zI v3)) C W.2.2.1 W.2.2.2.1 W.2.2.2.2.1 W.2.2.2.2.2 (zI_ix (by omega)) (by omega) hx3 dL_law_2493 ?_
  refine zv_aload_n C 0 dL_law_2494 rfl rfl ?_
  refine zv_iload C 5 dL_law_2495 rfl ?_
  refine zv_iconst (v := zI 4) C dL_law_2497 rfl ?_
  refine zv_iaddZ C dL_law_2498 ?_
  refine zv_sld (j := i + 4) (v := (zI v4)) C W.2.2.1 W.2.2.2.1 W.2.2.2.2.1 W.2.2.2.2.2 (zI_ix (by omega)) (by omega) hx4 dL_law_2499 ?_
  refine zv_aload_n C 3 dL_law_2500 rfl rfl ?_
  refine zv_cH (st := []) C (w_x2_X10_nextMeeting hfl E σ U n1 v2 v3 v4 hR.1.2.2.1 (by first | assumption | omega) (by first | assumption | omega) (by first | assumption | omega)) mL_nextMeeting kL_303 rfl ⟨rfl, rfl⟩ (show zfit (zrx 10 227) 7 room_1 = true from rfl) (Nat.le_of_ble_eq_true rfl) dL_law_2501 ⟨by exact hcs.1, by exact hcs.2⟩ (fun r2501 τ2501 hp2501 => ?_)
  obtain ⟨hr0, hP9⟩ := hp2501
  refine zv_eqi (y := zI 1) hr0 ?_
  have hF9 : zFr 318 327 σ τ2501 := by rw [hP9]; exact (by first | exact zFr_refl _ _ _ | exact zFr_rW (zFr_refl _ _ _) (by omega) | exact zFr_rW (zFr_rW (zFr_refl _ _ _) (by omega)) (by omega) | exact qW_f _ _ _ _ | exact qM_f _ _ _ _ _ | exact rW2_f _ _ _ _ _ | exact rW3_f _ _ _ _ _ | exact alW_f _ _ _ _ _ | (split <;> first | exact zFr_refl _ _ _ | exact bW_f _ _ _ _) | assumption)
  have hR1 : zRel τ2501 (zDv.mk ni tx ec eo U S hh kp ou) := zRel_c hR hF9
  refine zv_istore (lv' := [(6, .int (zI 1)), (0, .ref b0), (1, .ref (ob E 0)), (2, .ref (ob E 327)), (3, .ref (ob E 339)), (4, .ref (ob E 340)), (5, .int (zI (i : Int)))]) C dL_law_2504  (by decide) rfl ?_
  refine zv_aload_n C 3 dL_law_2506 rfl rfl ?_
  refine zv_aload_n C 1 dL_law_2507 rfl rfl ?_
  refine zv_iload C 6 dL_law_2508 rfl ?_
  refine zv_iconst (v := zI 1) C dL_law_2510 rfl ?_
  refine zv_iaddZ C dL_law_2511 ?_
  refine zv_sld (j := i + 1) (v := (zI (n1 : Int))) C W.2.2.1 W.2.2.2.1 W.2.2.2.2.1 W.2.2.2.2.2 (zI_ix (by omega)) (by omega) hx1 dL_law_2512 ?_
  refine zv_aload_n C 1 dL_law_2513 rfl rfl ?_
  refine zv_iload C 6 dL_law_2514 rfl ?_
  refine zv_iconst (v := zI 2) C dL_law_2516 rfl ?_
  refine zv_iaddZ C dL_law_2517 ?_
  refine zv_sld (j := i + 2) (v := (zI v2)) C W.2.2.1 W.2.2.2.1 W.2.2.2.2.1 W.2.2.2.2.2 (zI_ix (by omega)) (by omega) hx2 dL_law_2518 ?_
  refine zv_aload_n C 1 dL_law_2519 rfl rfl ?_
  refine zv_iload C 6 dL_law_2520 rfl ?_
  refine zv_iconst (v := zI 3) C dL_law_2522 rfl ?_
  refine zv_iaddZ C dL_law_2523 ?_
  refine zv_sld (j := i + 3) (v := (zI v3)) C W.2.2.1 W.2.2.2.1 W.2.2.2.2.1 W.2.2.2.2.2 (zI_ix (by omega)) (by omega) hx3 dL_law_2524 ?_
  refine zv_aload_n C 1 dL_law_2525 rfl rfl ?_
  refine zv_iload C 6 dL_law_2526 rfl ?_
  refine zv_iconst (v := zI 4) C dL_law_2528 rfl ?_
  refine zv_iaddZ C dL_law_2529 ?_
  refine zv_sld (j := i + 4) (v := (zI v4)) C W.2.2.1 W.2.2.2.1 W.2.2.2.2.1 W.2.2.2.2.2 (zI_ix (by omega)) (by omega) hx4 dL_law_2530 ?_
  refine zv_cvi (st := []) C (x2_X11_nextMeeting hfl E τ2501 σ U (n1 : Int) v2 v3 v4 hR1.2.2.2.1 hR.1.2.2.1 (by first | assumption | omega) (by first | assumption | omega) (by first | assumption | omega)) mX11_nextMeeting kL_305 (by decide : kd 327 = 10) rfl rfl rfl ⟨rfl, rfl⟩ (show zfit (zrm 2 46) 6 room_1 = true from rfl) (Nat.le_of_ble_eq_true rfl) dL_law_2531 ⟨by omega, by omega⟩ (fun r2531 τ2531 hp2531 => ?_)
  obtain ⟨hr2, hK2⟩ := hp2531
  refine zv_eqi (y := zI 0) hr2 ?_
  have hR2 : zRel τ2531 (zDv.mk ni tx ec eo U S hh kp ou) := zRel_m hR1 hK2
  have ht2 : gI τ2531 327 10 = zI 1 := hK2.2
  have hJ2 : gJ τ2531 339 0 = gJ τ2501 339 0 := hK2.1.2.1 339 0 (by decide)
  have hD2 : gD τ2531 340 0 = gD τ2501 340 0 := hK2.1.2.2 340 0
  refine zv_istore (lv' := [(7, .int (zI 0)), (6, .int (zI 1)), (0, .ref b0), (1, .ref (ob E 0)), (2, .ref (ob E 327)), (3, .ref (ob E 339)), (4, .ref (ob E 340)), (5, .int (zI (i : Int)))]) C dL_law_2534  (by decide) rfl ?_
  refine zv_aload_n C 4 dL_law_2536 rfl rfl ?_
  refine zv_cviD (st := []) C (c_X11_thrown hfl E τ2531) mX11_thrown kL_200 (by decide : kd 327 = 10) rfl rfl rfl ⟨rfl, rfl⟩ (show zfit (zrm 0 0) 1 room_1 = true from rfl) (Nat.le_of_ble_eq_true rfl) dL_law_2537 ⟨by omega, by omega⟩ ?_
  refine zv_eqi (y := (zI 1)) (ht2) ?_
  refine zv_iload C 1 dL_law_2540 rfl ?_
  refine zv_icmp_eqZ (tgt := 2547) C (by omega) (by omega) dL_law_2542 (by decide) (fun h2542 => ?_) (fun h2542 => ?_)
  · skip
    refine zv_iload C 1 dL_law_2547 rfl ?_
    refine zv_if_neZ (tgt := 2564) C (by omega) dL_law_2549 (by decide) (fun h2549 => ?_) (fun h2549 => absurd h2549 (by decide))
    refine zv_goto (tgt := 3624) C dL_law_2564 (by decide) ?_
    refine zv_sub (lv' := [(0, .ref b0), (1, .ref (ob E 0)), (2, .ref (ob E 327)), (3, .ref (ob E 339)), (4, .ref (ob E 340)), (5, .int (zI (i : Int)))]) [2, 3, 4, 5, 6, 7] (zcons rfl (zcons rfl (zcons rfl (zcons rfl (zcons rfl (zcons rfl rfl)))))) ?_
    exact kk _ _ _ _ (by omega) (by omega) hR2
  · exfalso
    omega
set_option maxRecDepth 20000 in
theorem lw_nextMeeting_x3_x3 {p : Program} {l : Launch} {e : Env} {s : State} {m : MethodId} {args : Array Value} {below : List Frame} {meth : Method} {c : Code} {E : zE} {Q : State → Prop} {b0 L i ce sl : Nat} {xs : Nat → Int32} {σ : zS} (ni : Nat) (tx : Nat → Int) (ec : Nat) (eo : Int) (U : zSU) (S : zST) (hh : List zST) (kp : Option zST) (ou : List Nat) (n1 : Nat) (n2 : Nat) (v3 : Int) (v4 : Int) (W : zLW p l s m args meth c E b0 L xs) (hi : i + 6 ≤ L) (hcs : ce + 1 ≤ room_1.cells ∧ sl + 6 ≤ room_1.slots) (hR : zRel σ (zDv.mk ni tx ec eo U S hh kp ou)) (hx1 : xs (i + 1) = (zI (n1 : Int))) (hx2 : xs (i + 2) = (zI (n2 : Int))) (hx3 : xs (i + 3) = (zI v3)) (hx4 : xs (i + 4) = (zI v4)) (hi0 : n1 < U.nb) (ho1 : n2 < U.nb) (hyi2 : -2147483648 ≤ v3 ∧ v3 < 2147483648) (hno3 : ¬ (0 ≤ v3 ∧ v3 ≤ 390000)) (hvr : -2147483648 ≤ v4 ∧ v4 < 2147483648) (kk : zNx p l e s m args below meth c E Q b0 i ce sl) : zV p l e room_1 s m args below meth c 9 E Q ce sl σ 2475 (lwL b0 i E) [] := by
  refine (?_ : zV p l e room_1 s m args below meth c 9 E Q ce sl σ 2475 [(0, .ref b0), (1, .ref (ob E 0)), (2, .ref (ob E 327)), (3, .ref (ob E 339)), (4, .ref (ob E 340)), (5, .int (zI (i : Int)))] [])
  have C := W.2.1
  have hfl := W.1
  have hroom : room_1.cells = 601024 ∧ room_1.slots = 7293034 := ⟨rfl, rfl⟩
  refine zv_aload_n C 1 dL_law_2475 rfl rfl ?_
  refine zv_aload_n C 0 dL_law_2476 rfl rfl ?_
  refine zv_iload C 5 dL_law_2477 rfl ?_
  refine zv_iconst (v := zI 1) C dL_law_2479 rfl ?_
  refine zv_iaddZ C dL_law_2480 ?_
  refine zv_sld (j := i + 1) (v := (zI (n1 : Int))) C W.2.2.1 W.2.2.2.1 W.2.2.2.2.1 W.2.2.2.2.2 (zI_ix (by omega)) (by omega) hx1 dL_law_2481 ?_
  refine zv_aload_n C 0 dL_law_2482 rfl rfl ?_
  refine zv_iload C 5 dL_law_2483 rfl ?_
  refine zv_iconst (v := zI 2) C dL_law_2485 rfl ?_
  refine zv_iaddZ C dL_law_2486 ?_
  refine zv_sld (j := i + 2) (v := (zI (n2 : Int))) C W.2.2.1 W.2.2.2.1 W.2.2.2.2.1 W.2.2.2.2.2 (zI_ix (by omega)) (by omega) hx2 dL_law_2487 ?_
  refine zv_aload_n C 0 dL_law_2488 rfl rfl ?_
  refine zv_iload C 5 dL_law_2489 rfl ?_
  refine zv_iconst (v := zI 3) C dL_law_2491 rfl ?_
  refine zv_iaddZ C dL_law_2492 ?_
  refine zv_sld (j := i + 3) (v := (zI v3)) C W.2.2.1 W.2.2.2.1 W.2.2.2.2.1 W.2.2.2.2.2 (zI_ix (by omega)) (by omega) hx3 dL_law_2493 ?_
  refine zv_aload_n C 0 dL_law_2494 rfl rfl ?_
  refine zv_iload C 5 dL_law_2495 rfl ?_
  refine zv_iconst (v := zI 4) C dL_law_2497 rfl ?_
  refine zv_iaddZ C dL_law_2498 ?_
  refine zv_sld (j := i + 4) (v := (zI v4)) C W.2.2.1 W.2.2.2.1 W.2.2.2.2.1 W.2.2.2.2.2 (zI_ix (by omega)) (by omega) hx4 dL_law_2499 ?_
  refine zv_aload_n C 3 dL_law_2500 rfl rfl ?_
  refine zv_cH (st := []) C (w_x3_X10_nextMeeting hfl E σ U n1 n2 v3 v4 hR.1.2.2.1 (by first | assumption | omega) (by first | assumption | omega) (by first | assumption | omega) (by first | assumption | omega)) mL_nextMeeting kL_303 rfl ⟨rfl, rfl⟩ (show zfit (zrx 10 227) 7 room_1 = true from rfl) (Nat.le_of_ble_eq_true rfl) dL_law_2501 ⟨by exact hcs.1, by exact hcs.2⟩ (fun r2501 τ2501 hp2501 => ?_)
  obtain ⟨hr0, hP9⟩ := hp2501
  refine zv_eqi (y := zI 2) hr0 ?_
  have hF9 : zFr 318 327 σ τ2501 := by rw [hP9]; exact (by first | exact zFr_refl _ _ _ | exact zFr_rW (zFr_refl _ _ _) (by omega) | exact zFr_rW (zFr_rW (zFr_refl _ _ _) (by omega)) (by omega) | exact qW_f _ _ _ _ | exact qM_f _ _ _ _ _ | exact rW2_f _ _ _ _ _ | exact rW3_f _ _ _ _ _ | exact alW_f _ _ _ _ _ | (split <;> first | exact zFr_refl _ _ _ | exact bW_f _ _ _ _) | assumption)
  have hR1 : zRel τ2501 (zDv.mk ni tx ec eo U S hh kp ou) := zRel_c hR hF9
  refine zv_istore (lv' := [(6, .int (zI 2)), (0, .ref b0), (1, .ref (ob E 0)), (2, .ref (ob E 327)), (3, .ref (ob E 339)), (4, .ref (ob E 340)), (5, .int (zI (i : Int)))]) C dL_law_2504  (by decide) rfl ?_
  refine zv_aload_n C 3 dL_law_2506 rfl rfl ?_
  refine zv_aload_n C 1 dL_law_2507 rfl rfl ?_
  refine zv_iload C 6 dL_law_2508 rfl ?_
  refine zv_iconst (v := zI 1) C dL_law_2510 rfl ?_
  refine zv_iaddZ C dL_law_2511 ?_
  refine zv_sld (j := i + 1) (v := (zI (n1 : Int))) C W.2.2.1 W.2.2.2.1 W.2.2.2.2.1 W.2.2.2.2.2 (zI_ix (by omega)) (by omega) hx1 dL_law_2512 ?_
  refine zv_aload_n C 1 dL_law_2513 rfl rfl ?_
  refine zv_iload C 6 dL_law_2514 rfl ?_
  refine zv_iconst (v := zI 2) C dL_law_2516 rfl ?_
  refine zv_iaddZ C dL_law_2517 ?_
  refine zv_sld (j := i + 2) (v := (zI (n2 : Int))) C W.2.2.1 W.2.2.2.1 W.2.2.2.2.1 W.2.2.2.2.2 (zI_ix (by omega)) (by omega) hx2 dL_law_2518 ?_
  refine zv_aload_n C 1 dL_law_2519 rfl rfl ?_
  refine zv_iload C 6 dL_law_2520 rfl ?_
  refine zv_iconst (v := zI 3) C dL_law_2522 rfl ?_
  refine zv_iaddZ C dL_law_2523 ?_
  refine zv_sld (j := i + 3) (v := (zI v3)) C W.2.2.1 W.2.2.2.1 W.2.2.2.2.1 W.2.2.2.2.2 (zI_ix (by omega)) (by omega) hx3 dL_law_2524 ?_
  refine zv_aload_n C 1 dL_law_2525 rfl rfl ?_
  refine zv_iload C 6 dL_law_2526 rfl ?_
  refine zv_iconst (v := zI 4) C dL_law_2528 rfl ?_
  refine zv_iaddZ C dL_law_2529 ?_
  refine zv_sld (j := i + 4) (v := (zI v4)) C W.2.2.1 W.2.2.2.1 W.2.2.2.2.1 W.2.2.2.2.2 (zI_ix (by omega)) (by omega) hx4 dL_law_2530 ?_
  refine zv_cvi (st := []) C (x3_X11_nextMeeting hfl E τ2501 σ U n1 n2 v3 v4 hR1.2.2.2.1 hR.1.2.2.1 (by first | assumption | omega) (by first | assumption | omega) (by first | assumption | omega) (by first | assumption | omega) (by first | assumption | omega)) mX11_nextMeeting kL_305 (by decide : kd 327 = 10) rfl rfl rfl ⟨rfl, rfl⟩ (show zfit (zrm 2 46) 6 room_1 = true from rfl) (Nat.le_of_ble_eq_true rfl) dL_law_2531 ⟨by omega, by omega⟩ (fun r2531 τ2531 hp2531 => ?_)
  obtain ⟨hr2, hK2⟩ := hp2531
  refine zv_eqi (y := zI 0) hr2 ?_
  have hR2 : zRel τ2531 (zDv.mk ni tx ec eo U S hh kp ou) := zRel_m hR1 hK2
  have ht2 : gI τ2531 327 10 = zI 2 := hK2.2
  have hJ2 : gJ τ2531 339 0 = gJ τ2501 339 0 := hK2.1.2.1 339 0 (by decide)
  have hD2 : gD τ2531 340 0 = gD τ2501 340 0 := hK2.1.2.2 340 0
  refine zv_istore (lv' := [(7, .int (zI 0)), (6, .int (zI 2)), (0, .ref b0), (1, .ref (ob E 0)), (2, .ref (ob E 327)), (3, .ref (ob E 339)), (4, .ref (ob E 340)), (5, .int (zI (i : Int)))]) C dL_law_2534  (by decide) rfl ?_
  refine zv_aload_n C 4 dL_law_2536 rfl rfl ?_
  refine zv_cviD (st := []) C (c_X11_thrown hfl E τ2531) mX11_thrown kL_200 (by decide : kd 327 = 10) rfl rfl rfl ⟨rfl, rfl⟩ (show zfit (zrm 0 0) 1 room_1 = true from rfl) (Nat.le_of_ble_eq_true rfl) dL_law_2537 ⟨by omega, by omega⟩ ?_
  refine zv_eqi (y := (zI 2)) (ht2) ?_
  refine zv_iload C 1 dL_law_2540 rfl ?_
  refine zv_icmp_eqZ (tgt := 2547) C (by omega) (by omega) dL_law_2542 (by decide) (fun h2542 => ?_) (fun h2542 => ?_)
  · skip
    refine zv_iload C 1 dL_law_2547 rfl ?_
    refine zv_if_neZ (tgt := 2564) C (by omega) dL_law_2549 (by decide) (fun h2549 => ?_) (fun h2549 => absurd h2549 (by decide))
    refine zv_goto (tgt := 3624) C dL_law_2564 (by decide) ?_
    refine zv_sub (lv' := [(0, .ref b0), (1, .ref (ob E 0)), (2, .ref (ob E 327)), (3, .ref (ob E 339)), (4, .ref (ob E 340)), (5, .int (zI (i : Int)))]) [2, 3, 4, 5, 6, 7] (zcons rfl (zcons rfl (zcons rfl (zcons rfl (zcons rfl (zcons rfl rfl)))))) ?_
    exact kk _ _ _ _ (by omega) (by omega) hR2
  · exfalso
    omega
set_option maxRecDepth 20000 in
theorem lw_nextMeeting_x4_x3 {p : Program} {l : Launch} {e : Env} {s : State} {m : MethodId} {args : Array Value} {below : List Frame} {meth : Method} {c : Code} {E : zE} {Q : State → Prop} {b0 L i ce sl : Nat} {xs : Nat → Int32} {σ : zS} (ni : Nat) (tx : Nat → Int) (ec : Nat) (eo : Int) (U : zSU) (S : zST) (hh : List zST) (kp : Option zST) (ou : List Nat) (n1 : Nat) (n2 : Nat) (v3 : Int) (v4 : Int) (W : zLW p l s m args meth c E b0 L xs) (hi : i + 6 ≤ L) (hcs : ce + 1 ≤ room_1.cells ∧ sl + 6 ≤ room_1.slots) (hR : zRel σ (zDv.mk ni tx ec eo U S hh kp ou)) (hx1 : xs (i + 1) = (zI (n1 : Int))) (hx2 : xs (i + 2) = (zI (n2 : Int))) (hx3 : xs (i + 3) = (zI v3)) (hx4 : xs (i + 4) = (zI v4)) (hi0 : n1 < U.nb) (ho1 : n2 < U.nb) (hy2 : 0 ≤ v3 ∧ v3 ≤ 390000) (hzi3 : -2147483648 ≤ v4 ∧ v4 < 2147483648) (hno4 : ¬ (0 ≤ v4 ∧ v4 ≤ 648000))  (kk : zNx p l e s m args below meth c E Q b0 i ce sl) : zV p l e room_1 s m args below meth c 9 E Q ce sl σ 2475 (lwL b0 i E) [] := by
  refine (?_ : zV p l e room_1 s m args below meth c 9 E Q ce sl σ 2475 [(0, .ref b0), (1, .ref (ob E 0)), (2, .ref (ob E 327)), (3, .ref (ob E 339)), (4, .ref (ob E 340)), (5, .int (zI (i : Int)))] [])
  have C := W.2.1
  have hfl := W.1
  have hroom : room_1.cells = 601024 ∧ room_1.slots = 7293034 := ⟨rfl, rfl⟩
  refine zv_aload_n C 1 dL_law_2475 rfl rfl ?_
  refine zv_aload_n C 0 dL_law_2476 rfl rfl ?_
  refine zv_iload C 5 dL_law_2477 rfl ?_
  refine zv_iconst (v := zI 1) C dL_law_2479 rfl ?_
  refine zv_iaddZ C dL_law_2480 ?_
  refine zv_sld (j := i + 1) (v := (zI (n1 : Int))) C W.2.2.1 W.2.2.2.1 W.2.2.2.2.1 W.2.2.2.2.2 (zI_ix (by omega)) (by omega) hx1 dL_law_2481 ?_
  refine zv_aload_n C 0 dL_law_2482 rfl rfl ?_
  refine zv_iload C 5 dL_law_2483 rfl ?_
  refine zv_iconst (v := zI 2) C dL_law_2485 rfl ?_
  refine zv_iaddZ C dL_law_2486 ?_
  refine zv_sld (j := i + 2) (v := (zI (n2 : Int))) C W.2.2.1 W.2.2.2.1 W.2.2.2.2.1 W.2.2.2.2.2 (zI_ix (by omega)) (by omega) hx2 dL_law_2487 ?_
  refine zv_aload_n C 0 dL_law_2488 rfl rfl ?_
  refine zv_iload C 5 dL_law_2489 rfl ?_
  refine zv_iconst (v := zI 3) C dL_law_2491 rfl ?_
  refine zv_iaddZ C dL_law_2492 ?_
  refine zv_sld (j := i + 3) (v := (zI v3)) C W.2.2.1 W.2.2.2.1 W.2.2.2.2.1 W.2.2.2.2.2 (zI_ix (by omega)) (by omega) hx3 dL_law_2493 ?_
  refine zv_aload_n C 0 dL_law_2494 rfl rfl ?_
  refine zv_iload C 5 dL_law_2495 rfl ?_
  refine zv_iconst (v := zI 4) C dL_law_2497 rfl ?_
  refine zv_iaddZ C dL_law_2498 ?_
  refine zv_sld (j := i + 4) (v := (zI v4)) C W.2.2.1 W.2.2.2.1 W.2.2.2.2.1 W.2.2.2.2.2 (zI_ix (by omega)) (by omega) hx4 dL_law_2499 ?_
  refine zv_aload_n C 3 dL_law_2500 rfl rfl ?_
  refine zv_cH (st := []) C (w_x4_X10_nextMeeting hfl E σ U n1 n2 v3 v4 hR.1.2.2.1 (by first | assumption | omega) (by first | assumption | omega) (by first | assumption | omega) (by first | assumption | omega) (by first | assumption | omega)) mL_nextMeeting kL_303 rfl ⟨rfl, rfl⟩ (show zfit (zrx 10 227) 7 room_1 = true from rfl) (Nat.le_of_ble_eq_true rfl) dL_law_2501 ⟨by exact hcs.1, by exact hcs.2⟩ (fun r2501 τ2501 hp2501 => ?_)
  obtain ⟨hr0, hP9⟩ := hp2501
  refine zv_eqi (y := zI 2) hr0 ?_
  have hF9 : zFr 318 327 σ τ2501 := by rw [hP9]; exact (by first | exact zFr_refl _ _ _ | exact zFr_rW (zFr_refl _ _ _) (by omega) | exact zFr_rW (zFr_rW (zFr_refl _ _ _) (by omega)) (by omega) | exact qW_f _ _ _ _ | exact qM_f _ _ _ _ _ | exact rW2_f _ _ _ _ _ | exact rW3_f _ _ _ _ _ | exact alW_f _ _ _ _ _ | (split <;> first | exact zFr_refl _ _ _ | exact bW_f _ _ _ _) | assumption)
  have hR1 : zRel τ2501 (zDv.mk ni tx ec eo U S hh kp ou) := zRel_c hR hF9
  refine zv_istore (lv' := [(6, .int (zI 2)), (0, .ref b0), (1, .ref (ob E 0)), (2, .ref (ob E 327)), (3, .ref (ob E 339)), (4, .ref (ob E 340)), (5, .int (zI (i : Int)))]) C dL_law_2504  (by decide) rfl ?_
  refine zv_aload_n C 3 dL_law_2506 rfl rfl ?_
  refine zv_aload_n C 1 dL_law_2507 rfl rfl ?_
  refine zv_iload C 6 dL_law_2508 rfl ?_
  refine zv_iconst (v := zI 1) C dL_law_2510 rfl ?_
  refine zv_iaddZ C dL_law_2511 ?_
  refine zv_sld (j := i + 1) (v := (zI (n1 : Int))) C W.2.2.1 W.2.2.2.1 W.2.2.2.2.1 W.2.2.2.2.2 (zI_ix (by omega)) (by omega) hx1 dL_law_2512 ?_
  refine zv_aload_n C 1 dL_law_2513 rfl rfl ?_
  refine zv_iload C 6 dL_law_2514 rfl ?_
  refine zv_iconst (v := zI 2) C dL_law_2516 rfl ?_
  refine zv_iaddZ C dL_law_2517 ?_
  refine zv_sld (j := i + 2) (v := (zI (n2 : Int))) C W.2.2.1 W.2.2.2.1 W.2.2.2.2.1 W.2.2.2.2.2 (zI_ix (by omega)) (by omega) hx2 dL_law_2518 ?_
  refine zv_aload_n C 1 dL_law_2519 rfl rfl ?_
  refine zv_iload C 6 dL_law_2520 rfl ?_
  refine zv_iconst (v := zI 3) C dL_law_2522 rfl ?_
  refine zv_iaddZ C dL_law_2523 ?_
  refine zv_sld (j := i + 3) (v := (zI v3)) C W.2.2.1 W.2.2.2.1 W.2.2.2.2.1 W.2.2.2.2.2 (zI_ix (by omega)) (by omega) hx3 dL_law_2524 ?_
  refine zv_aload_n C 1 dL_law_2525 rfl rfl ?_
  refine zv_iload C 6 dL_law_2526 rfl ?_
  refine zv_iconst (v := zI 4) C dL_law_2528 rfl ?_
  refine zv_iaddZ C dL_law_2529 ?_
  refine zv_sld (j := i + 4) (v := (zI v4)) C W.2.2.1 W.2.2.2.1 W.2.2.2.2.1 W.2.2.2.2.2 (zI_ix (by omega)) (by omega) hx4 dL_law_2530 ?_
  refine zv_cvi (st := []) C (x3_X11_nextMeeting hfl E τ2501 σ U n1 n2 v3 v4 hR1.2.2.2.1 hR.1.2.2.1 (by first | assumption | omega) (by first | assumption | omega) (by first | assumption | omega) (by first | assumption | omega) (by first | assumption | omega)) mX11_nextMeeting kL_305 (by decide : kd 327 = 10) rfl rfl rfl ⟨rfl, rfl⟩ (show zfit (zrm 2 46) 6 room_1 = true from rfl) (Nat.le_of_ble_eq_true rfl) dL_law_2531 ⟨by omega, by omega⟩ (fun r2531 τ2531 hp2531 => ?_)
  obtain ⟨hr2, hK2⟩ := hp2531
  refine zv_eqi (y := zI 0) hr2 ?_
  have hR2 : zRel τ2531 (zDv.mk ni tx ec eo U S hh kp ou) := zRel_m hR1 hK2
  have ht2 : gI τ2531 327 10 = zI 2 := hK2.2
  have hJ2 : gJ τ2531 339 0 = gJ τ2501 339 0 := hK2.1.2.1 339 0 (by decide)
  have hD2 : gD τ2531 340 0 = gD τ2501 340 0 := hK2.1.2.2 340 0
  refine zv_istore (lv' := [(7, .int (zI 0)), (6, .int (zI 2)), (0, .ref b0), (1, .ref (ob E 0)), (2, .ref (ob E 327)), (3, .ref (ob E 339)), (4, .ref (ob E 340)), (5, .int (zI (i : Int)))]) C dL_law_2534  (by decide) rfl ?_
  refine zv_aload_n C 4 dL_law_2536 rfl rfl ?_
  refine zv_cviD (st := []) C (c_X11_thrown hfl E τ2531) mX11_thrown kL_200 (by decide : kd 327 = 10) rfl rfl rfl ⟨rfl, rfl⟩ (show zfit (zrm 0 0) 1 room_1 = true from rfl) (Nat.le_of_ble_eq_true rfl) dL_law_2537 ⟨by omega, by omega⟩ ?_
  refine zv_eqi (y := (zI 2)) (ht2) ?_
  refine zv_iload C 1 dL_law_2540 rfl ?_
  refine zv_icmp_eqZ (tgt := 2547) C (by omega) (by omega) dL_law_2542 (by decide) (fun h2542 => ?_) (fun h2542 => ?_)
  · skip
    refine zv_iload C 1 dL_law_2547 rfl ?_
    refine zv_if_neZ (tgt := 2564) C (by omega) dL_law_2549 (by decide) (fun h2549 => ?_) (fun h2549 => absurd h2549 (by decide))
    refine zv_goto (tgt := 3624) C dL_law_2564 (by decide) ?_
    refine zv_sub (lv' := [(0, .ref b0), (1, .ref (ob E 0)), (2, .ref (ob E 327)), (3, .ref (ob E 339)), (4, .ref (ob E 340)), (5, .int (zI (i : Int)))]) [2, 3, 4, 5, 6, 7] (zcons rfl (zcons rfl (zcons rfl (zcons rfl (zcons rfl (zcons rfl rfl)))))) ?_
    exact kk _ _ _ _ (by omega) (by omega) hR2
  · exfalso
    omega
theorem LK_38 {p : Program} {l : Launch} {e : Env} {s : State} {m : MethodId} {args : Array Value} {below : List Frame} {meth : Method} {c : Code} {E : zE} {Q : State → Prop} {b0 L i ce sl : Nat} {xs : Nat → Int32} {σ : zS} (ni : Nat) (tx : Nat → Int) (ec : Nat) (eo : Int) (U : zSU) (S : zST) (hh : List zST) (kp : Option zST) (ou : List Nat) (hFN : zFN) (W : zLW p l s m args meth c E b0 L xs) (hi : i + 6 ≤ L) (hcs : ce + 1 ≤ room_1.cells ∧ sl + 6 ≤ room_1.slots) (hR : zRel σ (zDv.mk ni tx ec eo U S hh kp ou)) (kk : zNx p l e s m args below meth c E Q b0 i ce sl) : zV p l e room_1 s m args below meth c 9 E Q ce sl σ 2475 (lwL b0 i E) [] := by
  obtain ⟨v1, hx1, hv1⟩ := zI_cov (xs (i + 1))
  obtain ⟨v2, hx2, hv2⟩ := zI_cov (xs (i + 2))
  obtain ⟨v3, hx3, hv3⟩ := zI_cov (xs (i + 3))
  obtain ⟨v4, hx4, hv4⟩ := zI_cov (xs (i + 4))
  by_cases g1 : 0 ≤ v1 ∧ v1 < U.nb
  case neg =>
    exact lw_nextMeeting_x1_x1 _ _ _ _ _ _ _ _ _ _ _ _ _ W hi hcs hR hx1 hx2 hx3 hx4 (by first | assumption | omega) (by first | assumption | omega) kk
  obtain ⟨n1, rfl⟩ := Int.eq_ofNat_of_zero_le (show 0 ≤ v1 by omega)
  by_cases g2 : 0 ≤ v2 ∧ v2 < U.nb
  case neg =>
    exact lw_nextMeeting_x2_x2 _ _ _ _ _ _ _ _ _ _ _ _ _ W hi hcs hR hx1 hx2 hx3 hx4 (by first | assumption | omega) (by first | assumption | omega) (by first | assumption | omega) kk
  obtain ⟨n2, rfl⟩ := Int.eq_ofNat_of_zero_le (show 0 ≤ v2 by omega)
  by_cases g3 : 0 ≤ v3 ∧ v3 ≤ 390000
  case neg =>
    exact lw_nextMeeting_x3_x3 _ _ _ _ _ _ _ _ _ _ _ _ _ W hi hcs hR hx1 hx2 hx3 hx4 (by first | assumption | omega) (by first | assumption | omega) (by first | assumption | omega) (by first | assumption | omega) (by first | assumption | omega) kk
  by_cases g4 : 0 ≤ v4 ∧ v4 ≤ 648000
  case neg =>
    exact lw_nextMeeting_x4_x3 _ _ _ _ _ _ _ _ _ _ _ _ _ W hi hcs hR hx1 hx2 hx3 hx4 (by first | assumption | omega) (by first | assumption | omega) (by first | assumption | omega) (by first | assumption | omega) (by first | assumption | omega) kk
  obtain ⟨n3, rfl⟩ := Int.eq_ofNat_of_zero_le (show 0 ≤ v3 by omega)
  exact lw_nextMeeting_c_c _ _ _ _ _ _ _ _ _ _ _ _ _ W hi hcs hR hx1 hx2 hx3 hx4 (by first | assumption | omega) (by first | assumption | omega) (by first | assumption | omega) (by first | assumption | omega) kk
theorem dL_law_2567 : decode cL_law 2567 = .ok (.aload_n 1, 1) := by decide +kernel
theorem dL_law_2568 : decode cL_law 2568 = .ok (.aload_n 0, 1) := by decide +kernel
theorem dL_law_2569 : decode cL_law 2569 = .ok (.iload 5, 2) := by decide +kernel
theorem dL_law_2571 : decode cL_law 2571 = .ok (.iconst 1, 1) := by decide +kernel
theorem dL_law_2572 : decode cL_law 2572 = .ok (.iadd, 1) := by decide +kernel
theorem dL_law_2573 : decode cL_law 2573 = .ok (.iaload, 1) := by decide +kernel
theorem dL_law_2574 : decode cL_law 2574 = .ok (.aload 4, 2) := by decide +kernel
theorem dL_law_2576 : decode cL_law 2576 = .ok (.invokestatic 306, 3) := by decide +kernel
theorem dL_law_2579 : decode cL_law 2579 = .ok (.istore 6, 2) := by decide +kernel
theorem dL_law_2581 : decode cL_law 2581 = .ok (.aload_n 2, 1) := by decide +kernel
theorem dL_law_2582 : decode cL_law 2582 = .ok (.aload_n 0, 1) := by decide +kernel
theorem dL_law_2583 : decode cL_law 2583 = .ok (.iload 5, 2) := by decide +kernel
theorem dL_law_2585 : decode cL_law 2585 = .ok (.iconst 1, 1) := by decide +kernel
theorem dL_law_2586 : decode cL_law 2586 = .ok (.iadd, 1) := by decide +kernel
theorem dL_law_2587 : decode cL_law 2587 = .ok (.iaload, 1) := by decide +kernel
theorem dL_law_2588 : decode cL_law 2588 = .ok (.invokevirtual 309, 3) := by decide +kernel
theorem dL_law_2591 : decode cL_law 2591 = .ok (.dstore 7, 2) := by decide +kernel
theorem dL_law_2593 : decode cL_law 2593 = .ok (.aload_n 2, 1) := by decide +kernel
theorem dL_law_2594 : decode cL_law 2594 = .ok (.invokevirtual 200, 3) := by decide +kernel
theorem dL_law_2597 : decode cL_law 2597 = .ok (.iload 6, 2) := by decide +kernel
theorem dL_law_2599 : decode cL_law 2599 = .ok (.if_icmp .eq 5, 3) := by decide +kernel
theorem dL_law_2602 : decode cL_law 2602 = .ok (.iconst 0, 1) := by decide +kernel
theorem dL_law_2603 : decode cL_law 2603 = .ok (.ireturn, 1) := by decide +kernel
theorem dL_law_2604 : decode cL_law 2604 = .ok (.iload 6, 2) := by decide +kernel
theorem dL_law_2606 : decode cL_law 2606 = .ok (.ifCond .ne 35, 3) := by decide +kernel
theorem dL_law_2609 : decode cL_law 2609 = .ok (.aload 4, 2) := by decide +kernel
theorem dL_law_2611 : decode cL_law 2611 = .ok (.iconst 0, 1) := by decide +kernel
theorem dL_law_2612 : decode cL_law 2612 = .ok (.daload, 1) := by decide +kernel
theorem dL_law_2613 : decode cL_law 2613 = .ok (.dload 7, 2) := by decide +kernel
theorem dL_law_2615 : decode cL_law 2615 = .ok (.dcmp .l, 1) := by decide +kernel
theorem dL_law_2616 : decode cL_law 2616 = .ok (.ifCond .eq 25, 3) := by decide +kernel
theorem dL_law_2619 : decode cL_law 2619 = .ok (.aload 4, 2) := by decide +kernel
theorem dL_law_2621 : decode cL_law 2621 = .ok (.iconst 0, 1) := by decide +kernel
theorem dL_law_2622 : decode cL_law 2622 = .ok (.daload, 1) := by decide +kernel
theorem dL_law_2623 : decode cL_law 2623 = .ok (.aload 4, 2) := by decide +kernel
theorem dL_law_2625 : decode cL_law 2625 = .ok (.iconst 0, 1) := by decide +kernel
theorem dL_law_2626 : decode cL_law 2626 = .ok (.daload, 1) := by decide +kernel
theorem dL_law_2627 : decode cL_law 2627 = .ok (.dcmp .l, 1) := by decide +kernel
theorem dL_law_2628 : decode cL_law 2628 = .ok (.ifCond .eq 11, 3) := by decide +kernel
theorem dL_law_2631 : decode cL_law 2631 = .ok (.dload 7, 2) := by decide +kernel
theorem dL_law_2633 : decode cL_law 2633 = .ok (.dload 7, 2) := by decide +kernel
theorem dL_law_2635 : decode cL_law 2635 = .ok (.dcmp .l, 1) := by decide +kernel
theorem dL_law_2636 : decode cL_law 2636 = .ok (.ifCond .ne 5, 3) := by decide +kernel
theorem dL_law_2639 : decode cL_law 2639 = .ok (.iconst 0, 1) := by decide +kernel
theorem dL_law_2640 : decode cL_law 2640 = .ok (.ireturn, 1) := by decide +kernel
theorem dL_law_2641 : decode cL_law 2641 = .ok (.goto 983, 3) := by decide +kernel
set_option maxRecDepth 20000 in
theorem lw_accuracy_c_c {p : Program} {l : Launch} {e : Env} {s : State} {m : MethodId} {args : Array Value} {below : List Frame} {meth : Method} {c : Code} {E : zE} {Q : State → Prop} {b0 L i ce sl : Nat} {xs : Nat → Int32} {σ : zS} (ni : Nat) (tx : Nat → Int) (ec : Nat) (eo : Int) (U : zSU) (S : zST) (hh : List zST) (kp : Option zST) (ou : List Nat) (n1 : Nat) (W : zLW p l s m args meth c E b0 L xs) (hi : i + 6 ≤ L) (hcs : ce + 1 ≤ room_1.cells ∧ sl + 6 ≤ room_1.slots) (hR : zRel σ (zDv.mk ni tx ec eo U S hh kp ou)) (hx1 : xs (i + 1) = (zI (n1 : Int))) (hFN0 : zFN) (hi1 : n1 < U.nb)  (kk : zNx p l e s m args below meth c E Q b0 i ce sl) : zV p l e room_1 s m args below meth c 9 E Q ce sl σ 2567 (lwL b0 i E) [] := by
  refine (?_ : zV p l e room_1 s m args below meth c 9 E Q ce sl σ 2567 [(0, .ref b0), (1, .ref (ob E 0)), (2, .ref (ob E 327)), (3, .ref (ob E 339)), (4, .ref (ob E 340)), (5, .int (zI (i : Int)))] [])
  have C := W.2.1
  have hfl := W.1
  have hroom : room_1.cells = 601024 ∧ room_1.slots = 7293034 := ⟨rfl, rfl⟩
  refine zv_aload_n C 1 dL_law_2567 rfl rfl ?_
  refine zv_aload_n C 0 dL_law_2568 rfl rfl ?_
  refine zv_iload C 5 dL_law_2569 rfl ?_
  refine zv_iconst (v := zI 1) C dL_law_2571 rfl ?_
  refine zv_iaddZ C dL_law_2572 ?_
  refine zv_sld (j := i + 1) (v := (zI (n1 : Int))) C W.2.2.1 W.2.2.2.1 W.2.2.2.2.1 W.2.2.2.2.2 (zI_ix (by omega)) (by omega) hx1 dL_law_2573 ?_
  refine zv_aload C 4 dL_law_2574 rfl ?_
  refine zv_cH (st := []) C (w_c_X10_accuracy hfl E σ U S n1 (by first | assumption | omega) hR.1.2.2.1 hR.1.2.2.2.1.1 (by first | assumption | omega)) mL_accuracy kL_306 rfl ⟨rfl, rfl⟩ (show zfit (zrm 5 128) 4 room_1 = true from rfl) (Nat.le_of_ble_eq_true rfl) dL_law_2576 ⟨by omega, by omega⟩ (fun r2576 τ2576 hp2576 => ?_)
  obtain ⟨hr0, v9, υ9, hP9, hτ9⟩ := hp2576
  refine zv_eqi (y := zI 0) hr0 ?_
  obtain ⟨hv9, hW9⟩ := hP9
  have hF9 : zFr 318 327 σ υ9 := by first | exact hW9 | (rw [hW9]; exact (by first | exact zFr_refl _ _ _ | exact zFr_rW (zFr_refl _ _ _) (by omega) | exact zFr_rW (zFr_rW (zFr_refl _ _ _) (by omega)) (by omega) | exact qW_f _ _ _ _ | exact qM_f _ _ _ _ _ | exact rW2_f _ _ _ _ _ | exact rW3_f _ _ _ _ _ | exact alW_f _ _ _ _ _ | (split <;> first | exact zFr_refl _ _ _ | exact bW_f _ _ _ _) | assumption))
  have hR1 : zRel τ2576 (zDv.mk ni tx ec eo U S hh kp ou) := by rw [hτ9]; exact zRel_D (zRel_c hR hF9) _
  have ho9 : gD τ2576 340 0 = v9 := by rw [hτ9, gD_sD, if_pos ⟨rfl, rfl⟩]
  rw [hv9] at ho9
  refine zv_istore (lv' := [(6, .int (zI 0)), (0, .ref b0), (1, .ref (ob E 0)), (2, .ref (ob E 327)), (3, .ref (ob E 339)), (4, .ref (ob E 340)), (5, .int (zI (i : Int)))]) C dL_law_2579  (by decide) rfl ?_
  refine zv_aload_n C 3 dL_law_2581 rfl rfl ?_
  refine zv_aload_n C 1 dL_law_2582 rfl rfl ?_
  refine zv_iload C 6 dL_law_2583 rfl ?_
  refine zv_iconst (v := zI 1) C dL_law_2585 rfl ?_
  refine zv_iaddZ C dL_law_2586 ?_
  refine zv_sld (j := i + 1) (v := (zI (n1 : Int))) C W.2.2.1 W.2.2.2.1 W.2.2.2.2.1 W.2.2.2.2.2 (zI_ix (by omega)) (by omega) hx1 dL_law_2587 ?_
  refine zv_cvd (st := []) C (c_X11_accuracy hfl E τ2576 σ U S n1 hR1.2.2.2.1 hR.1.2.2.1 (by first | assumption | omega) hR1.2.2.2.2.2.1.1 hR.1.2.2.2.1.1 (by first | assumption | omega)) mX11_accuracy kL_309 (by decide : kd 327 = 10) rfl rfl rfl ⟨rfl, rfl⟩ (show zfit (zrm 2 46) 4 room_1 = true from rfl) (Nat.le_of_ble_eq_true rfl) dL_law_2588 ⟨by omega, by omega⟩ (fun r2588 τ2588 hp2588 => ?_)
  obtain ⟨hr2, hK2⟩ := hp2588
  refine zv_eqd (y := dAcc U S n1) hr2 ?_
  have hR2 : zRel τ2588 (zDv.mk ni tx ec eo U S hh kp ou) := zRel_m hR1 hK2
  have ht2 : gI τ2588 327 10 = zI 0 := hK2.2
  have hJ2 : gJ τ2588 339 0 = gJ τ2576 339 0 := hK2.1.2.1 339 0 (by decide)
  have hD2 : gD τ2588 340 0 = gD τ2576 340 0 := hK2.1.2.2 340 0
  refine zv_dstore (lv' := [(7, .double (dAcc U S n1)), (6, .int (zI 0)), (0, .ref b0), (1, .ref (ob E 0)), (2, .ref (ob E 327)), (3, .ref (ob E 339)), (4, .ref (ob E 340)), (5, .int (zI (i : Int)))]) C dL_law_2591  (by decide) rfl ?_
  refine zv_aload_n C 4 dL_law_2593 rfl rfl ?_
  refine zv_cviD (st := []) C (c_X11_thrown hfl E τ2588) mX11_thrown kL_200 (by decide : kd 327 = 10) rfl rfl rfl ⟨rfl, rfl⟩ (show zfit (zrm 0 0) 1 room_1 = true from rfl) (Nat.le_of_ble_eq_true rfl) dL_law_2594 ⟨by omega, by omega⟩ ?_
  refine zv_eqi (y := (zI 0)) (ht2) ?_
  refine zv_iload C 1 dL_law_2597 rfl ?_
  refine zv_icmp_eqZ (tgt := 2604) C (by omega) (by omega) dL_law_2599 (by decide) (fun h2599 => ?_) (fun h2599 => ?_)
  · skip
    refine zv_iload C 1 dL_law_2604 rfl ?_
    refine zv_if_neZ (tgt := 2641) C (by omega) dL_law_2606 (by decide) (fun h2606 => absurd h2606 (by decide)) (fun h2606 => ?_)
    refine zv_aload C 6 dL_law_2609 rfl ?_
    refine zv_iconst (v := zI 0) C dL_law_2611 rfl ?_
    refine zv_dald (j := 0) C (by decide : kd 340 = _) (zI_ix (by omega)) (by decide) dL_law_2612 ?_
    refine zv_eqd (y := (dAcc U S n1)) (hD2.trans ho9) ?_
    refine zv_dload C 0 dL_law_2613 rfl ?_
    refine zv_dcmp C dL_law_2615 ?_
    refine zv_if_eq (tgt := 2641) C dL_law_2616 (by decide) (fun h2616 => ?_) (fun h2616 => ?_)
    · skip
      refine zv_goto (tgt := 3624) C dL_law_2641 (by decide) ?_
      refine zv_sub (lv' := [(0, .ref b0), (1, .ref (ob E 0)), (2, .ref (ob E 327)), (3, .ref (ob E 339)), (4, .ref (ob E 340)), (5, .int (zI (i : Int)))]) [2, 3, 4, 5, 6, 7] (zcons rfl (zcons rfl (zcons rfl (zcons rfl (zcons rfl (zcons rfl rfl)))))) ?_
      exact kk _ _ _ _ (by omega) (by omega) hR2
    · skip
      refine zv_aload C 6 dL_law_2619 rfl ?_
      refine zv_iconst (v := zI 0) C dL_law_2621 rfl ?_
      refine zv_dald (j := 0) C (by decide : kd 340 = _) (zI_ix (by omega)) (by decide) dL_law_2622 ?_
      refine zv_eqd (y := (dAcc U S n1)) (hD2.trans ho9) ?_
      refine zv_aload C 6 dL_law_2623 rfl ?_
      refine zv_iconst (v := zI 0) C dL_law_2625 rfl ?_
      refine zv_dald (j := 0) C (by decide : kd 340 = _) (zI_ix (by omega)) (by decide) dL_law_2626 ?_
      refine zv_eqd (y := (dAcc U S n1)) (hD2.trans ho9) ?_
      refine zv_dcmp C dL_law_2627 ?_
      refine zv_if_eq (tgt := 2639) C dL_law_2628 (by decide) (fun h2628 => ?_) (fun h2628 => ?_)
      · exfalso
        exact h2616 h2628
      · skip
        refine zv_dload C 0 dL_law_2631 rfl ?_
        refine zv_dload C 0 dL_law_2633 rfl ?_
        refine zv_dcmp C dL_law_2635 ?_
        refine zv_if_ne (tgt := 2641) C dL_law_2636 (by decide) (fun h2636 => ?_) (fun h2636 => ?_)
        · skip
          refine zv_goto (tgt := 3624) C dL_law_2641 (by decide) ?_
          refine zv_sub (lv' := [(0, .ref b0), (1, .ref (ob E 0)), (2, .ref (ob E 327)), (3, .ref (ob E 339)), (4, .ref (ob E 340)), (5, .int (zI (i : Int)))]) [2, 3, 4, 5, 6, 7] (zcons rfl (zcons rfl (zcons rfl (zcons rfl (zcons rfl (zcons rfl rfl)))))) ?_
          exact kk _ _ _ _ (by omega) (by omega) hR2
        · exfalso
          exact h2616 h2636
  · exfalso
    omega
set_option maxRecDepth 20000 in
theorem lw_accuracy_x1_x1 {p : Program} {l : Launch} {e : Env} {s : State} {m : MethodId} {args : Array Value} {below : List Frame} {meth : Method} {c : Code} {E : zE} {Q : State → Prop} {b0 L i ce sl : Nat} {xs : Nat → Int32} {σ : zS} (ni : Nat) (tx : Nat → Int) (ec : Nat) (eo : Int) (U : zSU) (S : zST) (hh : List zST) (kp : Option zST) (ou : List Nat) (v1 : Int) (W : zLW p l s m args meth c E b0 L xs) (hi : i + 6 ≤ L) (hcs : ce + 1 ≤ room_1.cells ∧ sl + 6 ≤ room_1.slots) (hR : zRel σ (zDv.mk ni tx ec eo U S hh kp ou)) (hx1 : xs (i + 1) = (zI v1)) (hbi0 : -2147483648 ≤ v1 ∧ v1 < 2147483648) (hno1 : ¬ (0 ≤ v1 ∧ v1 < U.nb))  (kk : zNx p l e s m args below meth c E Q b0 i ce sl) : zV p l e room_1 s m args below meth c 9 E Q ce sl σ 2567 (lwL b0 i E) [] := by
  refine (?_ : zV p l e room_1 s m args below meth c 9 E Q ce sl σ 2567 [(0, .ref b0), (1, .ref (ob E 0)), (2, .ref (ob E 327)), (3, .ref (ob E 339)), (4, .ref (ob E 340)), (5, .int (zI (i : Int)))] [])
  have C := W.2.1
  have hfl := W.1
  have hroom : room_1.cells = 601024 ∧ room_1.slots = 7293034 := ⟨rfl, rfl⟩
  refine zv_aload_n C 1 dL_law_2567 rfl rfl ?_
  refine zv_aload_n C 0 dL_law_2568 rfl rfl ?_
  refine zv_iload C 5 dL_law_2569 rfl ?_
  refine zv_iconst (v := zI 1) C dL_law_2571 rfl ?_
  refine zv_iaddZ C dL_law_2572 ?_
  refine zv_sld (j := i + 1) (v := (zI v1)) C W.2.2.1 W.2.2.2.1 W.2.2.2.2.1 W.2.2.2.2.2 (zI_ix (by omega)) (by omega) hx1 dL_law_2573 ?_
  refine zv_aload C 4 dL_law_2574 rfl ?_
  refine zv_cH (st := []) C (w_x1_X10_accuracy hfl E σ U v1 hR.1.2.2.1 (by first | assumption | omega) (by first | assumption | omega)) mL_accuracy kL_306 rfl ⟨rfl, rfl⟩ (show zfit (zrx 13 323) 4 room_1 = true from rfl) (Nat.le_of_ble_eq_true rfl) dL_law_2576 ⟨by exact hcs.1, by exact hcs.2⟩ (fun r2576 τ2576 hp2576 => ?_)
  obtain ⟨hr0, hP9⟩ := hp2576
  refine zv_eqi (y := zI 1) hr0 ?_
  have hF9 : zFr 318 327 σ τ2576 := by rw [hP9]; exact (by first | exact zFr_refl _ _ _ | exact zFr_rW (zFr_refl _ _ _) (by omega) | exact zFr_rW (zFr_rW (zFr_refl _ _ _) (by omega)) (by omega) | exact qW_f _ _ _ _ | exact qM_f _ _ _ _ _ | exact rW2_f _ _ _ _ _ | exact rW3_f _ _ _ _ _ | exact alW_f _ _ _ _ _ | (split <;> first | exact zFr_refl _ _ _ | exact bW_f _ _ _ _) | assumption)
  have hR1 : zRel τ2576 (zDv.mk ni tx ec eo U S hh kp ou) := zRel_c hR hF9
  refine zv_istore (lv' := [(6, .int (zI 1)), (0, .ref b0), (1, .ref (ob E 0)), (2, .ref (ob E 327)), (3, .ref (ob E 339)), (4, .ref (ob E 340)), (5, .int (zI (i : Int)))]) C dL_law_2579  (by decide) rfl ?_
  refine zv_aload_n C 3 dL_law_2581 rfl rfl ?_
  refine zv_aload_n C 1 dL_law_2582 rfl rfl ?_
  refine zv_iload C 6 dL_law_2583 rfl ?_
  refine zv_iconst (v := zI 1) C dL_law_2585 rfl ?_
  refine zv_iaddZ C dL_law_2586 ?_
  refine zv_sld (j := i + 1) (v := (zI v1)) C W.2.2.1 W.2.2.2.1 W.2.2.2.2.1 W.2.2.2.2.2 (zI_ix (by omega)) (by omega) hx1 dL_law_2587 ?_
  refine zv_cvd (st := []) C (x1_X11_accuracy hfl E τ2576 σ U v1 hR1.2.2.2.1 hR.1.2.2.1 (by first | assumption | omega) (by first | assumption | omega)) mX11_accuracy kL_309 (by decide : kd 327 = 10) rfl rfl rfl ⟨rfl, rfl⟩ (show zfit (zrm 2 46) 4 room_1 = true from rfl) (Nat.le_of_ble_eq_true rfl) dL_law_2588 ⟨by omega, by omega⟩ (fun r2588 τ2588 hp2588 => ?_)
  obtain ⟨hr2, hK2⟩ := hp2588
  refine zv_eqd (y := FP.dconst0) hr2 ?_
  have hR2 : zRel τ2588 (zDv.mk ni tx ec eo U S hh kp ou) := zRel_m hR1 hK2
  have ht2 : gI τ2588 327 10 = zI 1 := hK2.2
  have hJ2 : gJ τ2588 339 0 = gJ τ2576 339 0 := hK2.1.2.1 339 0 (by decide)
  have hD2 : gD τ2588 340 0 = gD τ2576 340 0 := hK2.1.2.2 340 0
  refine zv_dstore (lv' := [(7, .double FP.dconst0), (6, .int (zI 1)), (0, .ref b0), (1, .ref (ob E 0)), (2, .ref (ob E 327)), (3, .ref (ob E 339)), (4, .ref (ob E 340)), (5, .int (zI (i : Int)))]) C dL_law_2591  (by decide) rfl ?_
  refine zv_aload_n C 4 dL_law_2593 rfl rfl ?_
  refine zv_cviD (st := []) C (c_X11_thrown hfl E τ2588) mX11_thrown kL_200 (by decide : kd 327 = 10) rfl rfl rfl ⟨rfl, rfl⟩ (show zfit (zrm 0 0) 1 room_1 = true from rfl) (Nat.le_of_ble_eq_true rfl) dL_law_2594 ⟨by omega, by omega⟩ ?_
  refine zv_eqi (y := (zI 1)) (ht2) ?_
  refine zv_iload C 1 dL_law_2597 rfl ?_
  refine zv_icmp_eqZ (tgt := 2604) C (by omega) (by omega) dL_law_2599 (by decide) (fun h2599 => ?_) (fun h2599 => ?_)
  · skip
    refine zv_iload C 1 dL_law_2604 rfl ?_
    refine zv_if_neZ (tgt := 2641) C (by omega) dL_law_2606 (by decide) (fun h2606 => ?_) (fun h2606 => absurd h2606 (by decide))
    refine zv_goto (tgt := 3624) C dL_law_2641 (by decide) ?_
    refine zv_sub (lv' := [(0, .ref b0), (1, .ref (ob E 0)), (2, .ref (ob E 327)), (3, .ref (ob E 339)), (4, .ref (ob E 340)), (5, .int (zI (i : Int)))]) [2, 3, 4, 5, 6, 7] (zcons rfl (zcons rfl (zcons rfl (zcons rfl (zcons rfl (zcons rfl rfl)))))) ?_
    exact kk _ _ _ _ (by omega) (by omega) hR2
  · exfalso
    omega
theorem LK_39 {p : Program} {l : Launch} {e : Env} {s : State} {m : MethodId} {args : Array Value} {below : List Frame} {meth : Method} {c : Code} {E : zE} {Q : State → Prop} {b0 L i ce sl : Nat} {xs : Nat → Int32} {σ : zS} (ni : Nat) (tx : Nat → Int) (ec : Nat) (eo : Int) (U : zSU) (S : zST) (hh : List zST) (kp : Option zST) (ou : List Nat) (hFN : zFN) (W : zLW p l s m args meth c E b0 L xs) (hi : i + 6 ≤ L) (hcs : ce + 1 ≤ room_1.cells ∧ sl + 6 ≤ room_1.slots) (hR : zRel σ (zDv.mk ni tx ec eo U S hh kp ou)) (kk : zNx p l e s m args below meth c E Q b0 i ce sl) : zV p l e room_1 s m args below meth c 9 E Q ce sl σ 2567 (lwL b0 i E) [] := by
  obtain ⟨v1, hx1, hv1⟩ := zI_cov (xs (i + 1))
  by_cases g1 : 0 ≤ v1 ∧ v1 < U.nb
  case neg =>
    exact lw_accuracy_x1_x1 _ _ _ _ _ _ _ _ _ _ W hi hcs hR hx1 (by first | assumption | omega) (by first | assumption | omega) kk
  obtain ⟨n1, rfl⟩ := Int.eq_ofNat_of_zero_le (show 0 ≤ v1 by omega)
  exact lw_accuracy_c_c _ _ _ _ _ _ _ _ _ _ W hi hcs hR hx1 (by first | assumption | omega) (by first | assumption | omega) kk
theorem dL_law_2644 : decode cL_law 2644 = .ok (.aload_n 1, 1) := by decide +kernel
theorem dL_law_2645 : decode cL_law 2645 = .ok (.aload_n 0, 1) := by decide +kernel
theorem dL_law_2646 : decode cL_law 2646 = .ok (.iload 5, 2) := by decide +kernel
theorem dL_law_2648 : decode cL_law 2648 = .ok (.iconst 1, 1) := by decide +kernel
theorem dL_law_2649 : decode cL_law 2649 = .ok (.iadd, 1) := by decide +kernel
theorem dL_law_2650 : decode cL_law 2650 = .ok (.iaload, 1) := by decide +kernel
theorem dL_law_2651 : decode cL_law 2651 = .ok (.aload_n 3, 1) := by decide +kernel
theorem dL_law_2652 : decode cL_law 2652 = .ok (.invokestatic 310, 3) := by decide +kernel
theorem dL_law_2655 : decode cL_law 2655 = .ok (.istore 6, 2) := by decide +kernel
theorem dL_law_2657 : decode cL_law 2657 = .ok (.aload_n 2, 1) := by decide +kernel
theorem dL_law_2658 : decode cL_law 2658 = .ok (.aload_n 0, 1) := by decide +kernel
theorem dL_law_2659 : decode cL_law 2659 = .ok (.iload 5, 2) := by decide +kernel
theorem dL_law_2661 : decode cL_law 2661 = .ok (.iconst 1, 1) := by decide +kernel
theorem dL_law_2662 : decode cL_law 2662 = .ok (.iadd, 1) := by decide +kernel
theorem dL_law_2663 : decode cL_law 2663 = .ok (.iaload, 1) := by decide +kernel
theorem dL_law_2664 : decode cL_law 2664 = .ok (.invokevirtual 312, 3) := by decide +kernel
theorem dL_law_2667 : decode cL_law 2667 = .ok (.istore 7, 2) := by decide +kernel
theorem dL_law_2669 : decode cL_law 2669 = .ok (.aload_n 2, 1) := by decide +kernel
theorem dL_law_2670 : decode cL_law 2670 = .ok (.invokevirtual 200, 3) := by decide +kernel
theorem dL_law_2673 : decode cL_law 2673 = .ok (.iload 6, 2) := by decide +kernel
theorem dL_law_2675 : decode cL_law 2675 = .ok (.if_icmp .eq 5, 3) := by decide +kernel
theorem dL_law_2678 : decode cL_law 2678 = .ok (.iconst 0, 1) := by decide +kernel
theorem dL_law_2679 : decode cL_law 2679 = .ok (.ireturn, 1) := by decide +kernel
theorem dL_law_2680 : decode cL_law 2680 = .ok (.iload 6, 2) := by decide +kernel
theorem dL_law_2682 : decode cL_law 2682 = .ok (.ifCond .ne 15, 3) := by decide +kernel
theorem dL_law_2685 : decode cL_law 2685 = .ok (.aload_n 3, 1) := by decide +kernel
theorem dL_law_2686 : decode cL_law 2686 = .ok (.iconst 0, 1) := by decide +kernel
theorem dL_law_2687 : decode cL_law 2687 = .ok (.laload, 1) := by decide +kernel
theorem dL_law_2688 : decode cL_law 2688 = .ok (.iload 7, 2) := by decide +kernel
theorem dL_law_2690 : decode cL_law 2690 = .ok (.i2l, 1) := by decide +kernel
theorem dL_law_2691 : decode cL_law 2691 = .ok (.lcmp, 1) := by decide +kernel
theorem dL_law_2692 : decode cL_law 2692 = .ok (.ifCond .eq 5, 3) := by decide +kernel
theorem dL_law_2695 : decode cL_law 2695 = .ok (.iconst 0, 1) := by decide +kernel
theorem dL_law_2696 : decode cL_law 2696 = .ok (.ireturn, 1) := by decide +kernel
theorem dL_law_2697 : decode cL_law 2697 = .ok (.goto 927, 3) := by decide +kernel
set_option maxRecDepth 20000 in
theorem lw_improve_c_c {p : Program} {l : Launch} {e : Env} {s : State} {m : MethodId} {args : Array Value} {below : List Frame} {meth : Method} {c : Code} {E : zE} {Q : State → Prop} {b0 L i ce sl : Nat} {xs : Nat → Int32} {σ : zS} (ni : Nat) (tx : Nat → Int) (ec : Nat) (eo : Int) (U : zSU) (S : zST) (hh : List zST) (kp : Option zST) (ou : List Nat) (n1 : Nat) (W : zLW p l s m args meth c E b0 L xs) (hi : i + 6 ≤ L) (hcs : ce + 1 ≤ room_1.cells ∧ sl + 6 ≤ room_1.slots) (hR : zRel σ (zDv.mk ni tx ec eo U S hh kp ou)) (hx1 : xs (i + 1) = (zI (n1 : Int))) (hi0 : n1 < U.nb) (hpos1 : 0 ≤ (imF U S n1 (S.tn n1)).2.2.2)  (kk : zNx p l e s m args below meth c E Q b0 i ce sl) : zV p l e room_1 s m args below meth c 9 E Q ce sl σ 2644 (lwL b0 i E) [] := by
  refine (?_ : zV p l e room_1 s m args below meth c 9 E Q ce sl σ 2644 [(0, .ref b0), (1, .ref (ob E 0)), (2, .ref (ob E 327)), (3, .ref (ob E 339)), (4, .ref (ob E 340)), (5, .int (zI (i : Int)))] [])
  have C := W.2.1
  have hfl := W.1
  have hroom : room_1.cells = 601024 ∧ room_1.slots = 7293034 := ⟨rfl, rfl⟩
  refine zv_aload_n C 1 dL_law_2644 rfl rfl ?_
  refine zv_aload_n C 0 dL_law_2645 rfl rfl ?_
  refine zv_iload C 5 dL_law_2646 rfl ?_
  refine zv_iconst (v := zI 1) C dL_law_2648 rfl ?_
  refine zv_iaddZ C dL_law_2649 ?_
  refine zv_sld (j := i + 1) (v := (zI (n1 : Int))) C W.2.2.1 W.2.2.2.1 W.2.2.2.2.1 W.2.2.2.2.2 (zI_ix (by omega)) (by omega) hx1 dL_law_2650 ?_
  refine zv_aload_n C 3 dL_law_2651 rfl rfl ?_
  refine zv_cH (st := []) C (w_c_X10_improve hfl E σ ni tx ec eo U S hh kp ou n1 hR.1 (by first | assumption | omega) (by first | assumption | omega)) mL_improve kL_310 rfl ⟨rfl, rfl⟩ (show zfit (zrm 13 328) 4 room_1 = true from rfl) (Nat.le_of_ble_eq_true rfl) dL_law_2652 ⟨by omega, by omega⟩ (fun r2652 τ2652 hp2652 => ?_)
  obtain ⟨hr0, v9, υ9, hP9, hτ9⟩ := hp2652
  refine zv_eqi (y := zI 0) hr0 ?_
  obtain ⟨hv9, hC9, hF9⟩ := hP9
  have hC1 := zCP_w (τ := τ2652) hC9 (fun x y hx => by rw [hτ9]; exact ⟨rfl, by first | rfl | rw [gJ_sJ, if_neg (by omega)]⟩)
  have hM1 : zMP τ2652 (zDv.mk ni tx ec eo U S hh kp ou) := by rw [hτ9]; exact (zMP_fr hR.2 hF9 : zMP υ9 (zDv.mk ni tx ec eo U S hh kp ou))
  have ho9 : gJ τ2652 339 0 = v9.toInt64 := by rw [hτ9, gJ_sJ, if_pos ⟨rfl, rfl⟩]
  rw [hv9] at ho9
  refine zv_istore (lv' := [(6, .int (zI 0)), (0, .ref b0), (1, .ref (ob E 0)), (2, .ref (ob E 327)), (3, .ref (ob E 339)), (4, .ref (ob E 340)), (5, .int (zI (i : Int)))]) C dL_law_2655  (by decide) rfl ?_
  refine zv_aload_n C 3 dL_law_2657 rfl rfl ?_
  refine zv_aload_n C 1 dL_law_2658 rfl rfl ?_
  refine zv_iload C 6 dL_law_2659 rfl ?_
  refine zv_iconst (v := zI 1) C dL_law_2661 rfl ?_
  refine zv_iaddZ C dL_law_2662 ?_
  refine zv_sld (j := i + 1) (v := (zI (n1 : Int))) C W.2.2.1 W.2.2.2.1 W.2.2.2.2.1 W.2.2.2.2.2 (zI_ix (by omega)) (by omega) hx1 dL_law_2663 ?_
  refine zv_cvi (st := []) C (c_X11_improve hfl E τ2652 σ ni tx ec eo U S hh kp ou n1 hM1 hR.1.2.2.1 hR.1.2.2.2.1.1 (by first | assumption | omega) (by first | assumption | omega)) mX11_improve kL_312 (by decide : kd 327 = 10) rfl rfl rfl ⟨rfl, rfl⟩ (show zfit (zrm 2 46) 15 room_1 = true from rfl) (Nat.le_of_ble_eq_true rfl) dL_law_2664 ⟨by omega, by omega⟩ (fun r2664 τ2664 hp2664 => ?_)
  obtain ⟨hr2, hK2⟩ := hp2664
  refine zv_eqi (y := zI (imF U S n1 (S.tn n1)).2.2.2) hr2 ?_
  have hR2 : zRel τ2664 _ := ⟨zCP_fr hC1 hK2.2.2, hK2.1⟩
  have ht2 : gI τ2664 327 10 = zI 0 := hK2.2.1
  have hJ2 : gJ τ2664 339 0 = gJ τ2652 339 0 := hK2.2.2.2.1 339 0 (by decide)
  refine zv_istore (lv' := [(7, .int (zI (imF U S n1 (S.tn n1)).2.2.2)), (6, .int (zI 0)), (0, .ref b0), (1, .ref (ob E 0)), (2, .ref (ob E 327)), (3, .ref (ob E 339)), (4, .ref (ob E 340)), (5, .int (zI (i : Int)))]) C dL_law_2667  (by decide) rfl ?_
  refine zv_aload_n C 4 dL_law_2669 rfl rfl ?_
  refine zv_cviD (st := []) C (c_X11_thrown hfl E τ2664) mX11_thrown kL_200 (by decide : kd 327 = 10) rfl rfl rfl ⟨rfl, rfl⟩ (show zfit (zrm 0 0) 1 room_1 = true from rfl) (Nat.le_of_ble_eq_true rfl) dL_law_2670 ⟨by omega, by omega⟩ ?_
  refine zv_eqi (y := (zI 0)) (ht2) ?_
  refine zv_iload C 1 dL_law_2673 rfl ?_
  refine zv_icmp_eqZ (tgt := 2680) C (by omega) (by omega) dL_law_2675 (by decide) (fun h2675 => ?_) (fun h2675 => ?_)
  · skip
    refine zv_iload C 1 dL_law_2680 rfl ?_
    refine zv_if_neZ (tgt := 2697) C (by omega) dL_law_2682 (by decide) (fun h2682 => absurd h2682 (by decide)) (fun h2682 => ?_)
    refine zv_aload_n C 5 dL_law_2685 rfl rfl ?_
    refine zv_iconst (v := zI 0) C dL_law_2686 rfl ?_
    refine zv_lald (j := 0) C (by decide : kd 339 = _) (zI_ix (by omega)) (by decide) dL_law_2687 ?_
    refine zv_eql (y := ((zI (imF U S n1 (S.tn n1)).2.2.2).toInt64)) (hJ2.trans ho9) ?_
    refine zv_iload C 0 dL_law_2688 rfl ?_
    refine zv_i2l C dL_law_2690 ?_
    refine zv_lc_eq (tgt := 2697) C dL_law_2691 dL_law_2692 (by decide) (fun h2691 => ?_) (fun h2691 => ?_)
    · skip
      refine zv_goto (tgt := 3624) C dL_law_2697 (by decide) ?_
      refine zv_sub (lv' := [(0, .ref b0), (1, .ref (ob E 0)), (2, .ref (ob E 327)), (3, .ref (ob E 339)), (4, .ref (ob E 340)), (5, .int (zI (i : Int)))]) [2, 3, 4, 5, 6, 7] (zcons rfl (zcons rfl (zcons rfl (zcons rfl (zcons rfl (zcons rfl rfl)))))) ?_
      exact kk _ _ _ _ (by omega) (by omega) hR2
    · exfalso
      exact h2691 rfl
  · exfalso
    omega
set_option maxRecDepth 20000 in
theorem lw_improve_c0_c0 {p : Program} {l : Launch} {e : Env} {s : State} {m : MethodId} {args : Array Value} {below : List Frame} {meth : Method} {c : Code} {E : zE} {Q : State → Prop} {b0 L i ce sl : Nat} {xs : Nat → Int32} {σ : zS} (ni : Nat) (tx : Nat → Int) (ec : Nat) (eo : Int) (U : zSU) (S : zST) (hh : List zST) (kp : Option zST) (ou : List Nat) (n1 : Nat) (W : zLW p l s m args meth c E b0 L xs) (hi : i + 6 ≤ L) (hcs : ce + 1 ≤ room_1.cells ∧ sl + 6 ≤ room_1.slots) (hR : zRel σ (zDv.mk ni tx ec eo U S hh kp ou)) (hx1 : xs (i + 1) = (zI (n1 : Int))) (hi0 : n1 < U.nb) (hneg1 : (imF U S n1 (S.tn n1)).2.2.2 < 0)  (kk : zNx p l e s m args below meth c E Q b0 i ce sl) : zV p l e room_1 s m args below meth c 9 E Q ce sl σ 2644 (lwL b0 i E) [] := by
  refine (?_ : zV p l e room_1 s m args below meth c 9 E Q ce sl σ 2644 [(0, .ref b0), (1, .ref (ob E 0)), (2, .ref (ob E 327)), (3, .ref (ob E 339)), (4, .ref (ob E 340)), (5, .int (zI (i : Int)))] [])
  have C := W.2.1
  have hfl := W.1
  have hroom : room_1.cells = 601024 ∧ room_1.slots = 7293034 := ⟨rfl, rfl⟩
  refine zv_aload_n C 1 dL_law_2644 rfl rfl ?_
  refine zv_aload_n C 0 dL_law_2645 rfl rfl ?_
  refine zv_iload C 5 dL_law_2646 rfl ?_
  refine zv_iconst (v := zI 1) C dL_law_2648 rfl ?_
  refine zv_iaddZ C dL_law_2649 ?_
  refine zv_sld (j := i + 1) (v := (zI (n1 : Int))) C W.2.2.1 W.2.2.2.1 W.2.2.2.2.1 W.2.2.2.2.2 (zI_ix (by omega)) (by omega) hx1 dL_law_2650 ?_
  refine zv_aload_n C 3 dL_law_2651 rfl rfl ?_
  refine zv_cH (st := []) C (w_c0_X10_improve hfl E σ U S n1 hR.1.2.2.1 hR.1.2.2.2.1.1 (by first | assumption | omega) (by first | assumption | omega)) mL_improve kL_310 rfl ⟨rfl, rfl⟩ (show zfit (zrm 13 328) 4 room_1 = true from rfl) (Nat.le_of_ble_eq_true rfl) dL_law_2652 ⟨by omega, by omega⟩ (fun r2652 τ2652 hp2652 => ?_)
  obtain ⟨hr0, v9, υ9, hP9, hτ9⟩ := hp2652
  refine zv_eqi (y := zI 0) hr0 ?_
  obtain ⟨hv9, hW9⟩ := hP9
  have hF9 : zFr 318 327 σ υ9 := by first | exact hW9 | (rw [hW9]; exact (by first | exact zFr_refl _ _ _ | exact zFr_rW (zFr_refl _ _ _) (by omega) | exact zFr_rW (zFr_rW (zFr_refl _ _ _) (by omega)) (by omega) | exact qW_f _ _ _ _ | exact qM_f _ _ _ _ _ | exact rW2_f _ _ _ _ _ | exact rW3_f _ _ _ _ _ | exact alW_f _ _ _ _ _ | (split <;> first | exact zFr_refl _ _ _ | exact bW_f _ _ _ _) | assumption))
  have hR1 : zRel τ2652 (zDv.mk ni tx ec eo U S hh kp ou) := by rw [hτ9]; exact zRel_J (zRel_c hR hF9) _
  have ho9 : gJ τ2652 339 0 = v9.toInt64 := by rw [hτ9, gJ_sJ, if_pos ⟨rfl, rfl⟩]
  rw [hv9] at ho9
  refine zv_istore (lv' := [(6, .int (zI 0)), (0, .ref b0), (1, .ref (ob E 0)), (2, .ref (ob E 327)), (3, .ref (ob E 339)), (4, .ref (ob E 340)), (5, .int (zI (i : Int)))]) C dL_law_2655  (by decide) rfl ?_
  refine zv_aload_n C 3 dL_law_2657 rfl rfl ?_
  refine zv_aload_n C 1 dL_law_2658 rfl rfl ?_
  refine zv_iload C 6 dL_law_2659 rfl ?_
  refine zv_iconst (v := zI 1) C dL_law_2661 rfl ?_
  refine zv_iaddZ C dL_law_2662 ?_
  refine zv_sld (j := i + 1) (v := (zI (n1 : Int))) C W.2.2.1 W.2.2.2.1 W.2.2.2.2.1 W.2.2.2.2.2 (zI_ix (by omega)) (by omega) hx1 dL_law_2663 ?_
  refine zv_cvi (st := []) C (c0_X11_improve hfl E τ2652 σ U S n1 hR1.2.2.2.1 hR.1.2.2.1 hR1.2.2.2.2.2.1.1 hR.1.2.2.2.1.1 (by first | assumption | omega) (by first | assumption | omega)) mX11_improve kL_312 (by decide : kd 327 = 10) rfl rfl rfl ⟨rfl, rfl⟩ (show zfit (zrm 2 46) 15 room_1 = true from rfl) (Nat.le_of_ble_eq_true rfl) dL_law_2664 ⟨by omega, by omega⟩ (fun r2664 τ2664 hp2664 => ?_)
  obtain ⟨hr2, hK2⟩ := hp2664
  refine zv_eqi (y := zI (-1)) hr2 ?_
  have hR2 : zRel τ2664 (zDv.mk ni tx ec eo U S hh kp ou) := zRel_m hR1 hK2
  have ht2 : gI τ2664 327 10 = zI 0 := hK2.2
  have hJ2 : gJ τ2664 339 0 = gJ τ2652 339 0 := hK2.1.2.1 339 0 (by decide)
  have hD2 : gD τ2664 340 0 = gD τ2652 340 0 := hK2.1.2.2 340 0
  refine zv_istore (lv' := [(7, .int (zI (-1))), (6, .int (zI 0)), (0, .ref b0), (1, .ref (ob E 0)), (2, .ref (ob E 327)), (3, .ref (ob E 339)), (4, .ref (ob E 340)), (5, .int (zI (i : Int)))]) C dL_law_2667  (by decide) rfl ?_
  refine zv_aload_n C 4 dL_law_2669 rfl rfl ?_
  refine zv_cviD (st := []) C (c_X11_thrown hfl E τ2664) mX11_thrown kL_200 (by decide : kd 327 = 10) rfl rfl rfl ⟨rfl, rfl⟩ (show zfit (zrm 0 0) 1 room_1 = true from rfl) (Nat.le_of_ble_eq_true rfl) dL_law_2670 ⟨by omega, by omega⟩ ?_
  refine zv_eqi (y := (zI 0)) (ht2) ?_
  refine zv_iload C 1 dL_law_2673 rfl ?_
  refine zv_icmp_eqZ (tgt := 2680) C (by omega) (by omega) dL_law_2675 (by decide) (fun h2675 => ?_) (fun h2675 => ?_)
  · skip
    refine zv_iload C 1 dL_law_2680 rfl ?_
    refine zv_if_neZ (tgt := 2697) C (by omega) dL_law_2682 (by decide) (fun h2682 => absurd h2682 (by decide)) (fun h2682 => ?_)
    refine zv_aload_n C 5 dL_law_2685 rfl rfl ?_
    refine zv_iconst (v := zI 0) C dL_law_2686 rfl ?_
    refine zv_lald (j := 0) C (by decide : kd 339 = _) (zI_ix (by omega)) (by decide) dL_law_2687 ?_
    refine zv_eql (y := ((zI (-1)).toInt64)) (hJ2.trans ho9) ?_
    refine zv_iload C 0 dL_law_2688 rfl ?_
    refine zv_i2l C dL_law_2690 ?_
    refine zv_lc_eq (tgt := 2697) C dL_law_2691 dL_law_2692 (by decide) (fun h2691 => ?_) (fun h2691 => ?_)
    · skip
      refine zv_goto (tgt := 3624) C dL_law_2697 (by decide) ?_
      refine zv_sub (lv' := [(0, .ref b0), (1, .ref (ob E 0)), (2, .ref (ob E 327)), (3, .ref (ob E 339)), (4, .ref (ob E 340)), (5, .int (zI (i : Int)))]) [2, 3, 4, 5, 6, 7] (zcons rfl (zcons rfl (zcons rfl (zcons rfl (zcons rfl (zcons rfl rfl)))))) ?_
      exact kk _ _ _ _ (by omega) (by omega) hR2
    · exfalso
      exact h2691 rfl
  · exfalso
    omega
set_option maxRecDepth 20000 in
theorem lw_improve_x1_x1 {p : Program} {l : Launch} {e : Env} {s : State} {m : MethodId} {args : Array Value} {below : List Frame} {meth : Method} {c : Code} {E : zE} {Q : State → Prop} {b0 L i ce sl : Nat} {xs : Nat → Int32} {σ : zS} (ni : Nat) (tx : Nat → Int) (ec : Nat) (eo : Int) (U : zSU) (S : zST) (hh : List zST) (kp : Option zST) (ou : List Nat) (v1 : Int) (W : zLW p l s m args meth c E b0 L xs) (hi : i + 6 ≤ L) (hcs : ce + 1 ≤ room_1.cells ∧ sl + 6 ≤ room_1.slots) (hR : zRel σ (zDv.mk ni tx ec eo U S hh kp ou)) (hx1 : xs (i + 1) = (zI v1)) (hbi0 : -2147483648 ≤ v1 ∧ v1 < 2147483648) (hno1 : ¬ (0 ≤ v1 ∧ v1 < U.nb))  (kk : zNx p l e s m args below meth c E Q b0 i ce sl) : zV p l e room_1 s m args below meth c 9 E Q ce sl σ 2644 (lwL b0 i E) [] := by
  refine (?_ : zV p l e room_1 s m args below meth c 9 E Q ce sl σ 2644 [(0, .ref b0), (1, .ref (ob E 0)), (2, .ref (ob E 327)), (3, .ref (ob E 339)), (4, .ref (ob E 340)), (5, .int (zI (i : Int)))] [])
  have C := W.2.1
  have hfl := W.1
  have hroom : room_1.cells = 601024 ∧ room_1.slots = 7293034 := ⟨rfl, rfl⟩
  refine zv_aload_n C 1 dL_law_2644 rfl rfl ?_
  refine zv_aload_n C 0 dL_law_2645 rfl rfl ?_
  refine zv_iload C 5 dL_law_2646 rfl ?_
  refine zv_iconst (v := zI 1) C dL_law_2648 rfl ?_
  refine zv_iaddZ C dL_law_2649 ?_
  refine zv_sld (j := i + 1) (v := (zI v1)) C W.2.2.1 W.2.2.2.1 W.2.2.2.2.1 W.2.2.2.2.2 (zI_ix (by omega)) (by omega) hx1 dL_law_2650 ?_
  refine zv_aload_n C 3 dL_law_2651 rfl rfl ?_
  refine zv_cH (st := []) C (w_x1_X10_improve hfl E σ U v1 hR.1.2.2.1 (by first | assumption | omega) (by first | assumption | omega)) mL_improve kL_310 rfl ⟨rfl, rfl⟩ (show zfit (zrx 10 228) 4 room_1 = true from rfl) (Nat.le_of_ble_eq_true rfl) dL_law_2652 ⟨by exact hcs.1, by exact hcs.2⟩ (fun r2652 τ2652 hp2652 => ?_)
  obtain ⟨hr0, hP9⟩ := hp2652
  refine zv_eqi (y := zI 1) hr0 ?_
  have hF9 : zFr 318 327 σ τ2652 := by rw [hP9]; exact (by first | exact zFr_refl _ _ _ | exact zFr_rW (zFr_refl _ _ _) (by omega) | exact zFr_rW (zFr_rW (zFr_refl _ _ _) (by omega)) (by omega) | exact qW_f _ _ _ _ | exact qM_f _ _ _ _ _ | exact rW2_f _ _ _ _ _ | exact rW3_f _ _ _ _ _ | exact alW_f _ _ _ _ _ | (split <;> first | exact zFr_refl _ _ _ | exact bW_f _ _ _ _) | assumption)
  have hR1 : zRel τ2652 (zDv.mk ni tx ec eo U S hh kp ou) := zRel_c hR hF9
  refine zv_istore (lv' := [(6, .int (zI 1)), (0, .ref b0), (1, .ref (ob E 0)), (2, .ref (ob E 327)), (3, .ref (ob E 339)), (4, .ref (ob E 340)), (5, .int (zI (i : Int)))]) C dL_law_2655  (by decide) rfl ?_
  refine zv_aload_n C 3 dL_law_2657 rfl rfl ?_
  refine zv_aload_n C 1 dL_law_2658 rfl rfl ?_
  refine zv_iload C 6 dL_law_2659 rfl ?_
  refine zv_iconst (v := zI 1) C dL_law_2661 rfl ?_
  refine zv_iaddZ C dL_law_2662 ?_
  refine zv_sld (j := i + 1) (v := (zI v1)) C W.2.2.1 W.2.2.2.1 W.2.2.2.2.1 W.2.2.2.2.2 (zI_ix (by omega)) (by omega) hx1 dL_law_2663 ?_
  refine zv_cvi (st := []) C (x1_X11_improve hfl E τ2652 σ U v1 hR1.2.2.2.1 hR.1.2.2.1 (by first | assumption | omega) (by first | assumption | omega)) mX11_improve kL_312 (by decide : kd 327 = 10) rfl rfl rfl ⟨rfl, rfl⟩ (show zfit (zrm 2 46) 15 room_1 = true from rfl) (Nat.le_of_ble_eq_true rfl) dL_law_2664 ⟨by omega, by omega⟩ (fun r2664 τ2664 hp2664 => ?_)
  obtain ⟨hr2, hK2⟩ := hp2664
  refine zv_eqi (y := zI 0) hr2 ?_
  have hR2 : zRel τ2664 (zDv.mk ni tx ec eo U S hh kp ou) := zRel_m hR1 hK2
  have ht2 : gI τ2664 327 10 = zI 1 := hK2.2
  have hJ2 : gJ τ2664 339 0 = gJ τ2652 339 0 := hK2.1.2.1 339 0 (by decide)
  have hD2 : gD τ2664 340 0 = gD τ2652 340 0 := hK2.1.2.2 340 0
  refine zv_istore (lv' := [(7, .int (zI 0)), (6, .int (zI 1)), (0, .ref b0), (1, .ref (ob E 0)), (2, .ref (ob E 327)), (3, .ref (ob E 339)), (4, .ref (ob E 340)), (5, .int (zI (i : Int)))]) C dL_law_2667  (by decide) rfl ?_
  refine zv_aload_n C 4 dL_law_2669 rfl rfl ?_
  refine zv_cviD (st := []) C (c_X11_thrown hfl E τ2664) mX11_thrown kL_200 (by decide : kd 327 = 10) rfl rfl rfl ⟨rfl, rfl⟩ (show zfit (zrm 0 0) 1 room_1 = true from rfl) (Nat.le_of_ble_eq_true rfl) dL_law_2670 ⟨by omega, by omega⟩ ?_
  refine zv_eqi (y := (zI 1)) (ht2) ?_
  refine zv_iload C 1 dL_law_2673 rfl ?_
  refine zv_icmp_eqZ (tgt := 2680) C (by omega) (by omega) dL_law_2675 (by decide) (fun h2675 => ?_) (fun h2675 => ?_)
  · skip
    refine zv_iload C 1 dL_law_2680 rfl ?_
    refine zv_if_neZ (tgt := 2697) C (by omega) dL_law_2682 (by decide) (fun h2682 => ?_) (fun h2682 => absurd h2682 (by decide))
    refine zv_goto (tgt := 3624) C dL_law_2697 (by decide) ?_
    refine zv_sub (lv' := [(0, .ref b0), (1, .ref (ob E 0)), (2, .ref (ob E 327)), (3, .ref (ob E 339)), (4, .ref (ob E 340)), (5, .int (zI (i : Int)))]) [2, 3, 4, 5, 6, 7] (zcons rfl (zcons rfl (zcons rfl (zcons rfl (zcons rfl (zcons rfl rfl)))))) ?_
    exact kk _ _ _ _ (by omega) (by omega) hR2
  · exfalso
    omega
theorem LK_40 {p : Program} {l : Launch} {e : Env} {s : State} {m : MethodId} {args : Array Value} {below : List Frame} {meth : Method} {c : Code} {E : zE} {Q : State → Prop} {b0 L i ce sl : Nat} {xs : Nat → Int32} {σ : zS} (ni : Nat) (tx : Nat → Int) (ec : Nat) (eo : Int) (U : zSU) (S : zST) (hh : List zST) (kp : Option zST) (ou : List Nat) (hFN : zFN) (W : zLW p l s m args meth c E b0 L xs) (hi : i + 6 ≤ L) (hcs : ce + 1 ≤ room_1.cells ∧ sl + 6 ≤ room_1.slots) (hR : zRel σ (zDv.mk ni tx ec eo U S hh kp ou)) (kk : zNx p l e s m args below meth c E Q b0 i ce sl) : zV p l e room_1 s m args below meth c 9 E Q ce sl σ 2644 (lwL b0 i E) [] := by
  obtain ⟨v1, hx1, hv1⟩ := zI_cov (xs (i + 1))
  by_cases g1 : 0 ≤ v1 ∧ v1 < U.nb
  case neg =>
    exact lw_improve_x1_x1 _ _ _ _ _ _ _ _ _ _ W hi hcs hR hx1 (by first | assumption | omega) (by first | assumption | omega) kk
  obtain ⟨n1, rfl⟩ := Int.eq_ofNat_of_zero_le (show 0 ≤ v1 by omega)
  by_cases g2 : 0 ≤ (imF U S n1 (S.tn n1)).2.2.2
  case neg =>
    exact lw_improve_c0_c0 _ _ _ _ _ _ _ _ _ _ W hi hcs hR hx1 (by first | assumption | omega) (by first | assumption | omega) kk
  exact lw_improve_c_c _ _ _ _ _ _ _ _ _ _ W hi hcs hR hx1 (by first | assumption | omega) (by first | assumption | omega) kk
theorem dL_law_2700 : decode cL_law 2700 = .ok (.aload_n 1, 1) := by decide +kernel
theorem dL_law_2701 : decode cL_law 2701 = .ok (.aload_n 0, 1) := by decide +kernel
theorem dL_law_2702 : decode cL_law 2702 = .ok (.iload 5, 2) := by decide +kernel
theorem dL_law_2704 : decode cL_law 2704 = .ok (.iconst 1, 1) := by decide +kernel
theorem dL_law_2705 : decode cL_law 2705 = .ok (.iadd, 1) := by decide +kernel
theorem dL_law_2706 : decode cL_law 2706 = .ok (.iaload, 1) := by decide +kernel
theorem dL_law_2707 : decode cL_law 2707 = .ok (.aload_n 0, 1) := by decide +kernel
theorem dL_law_2708 : decode cL_law 2708 = .ok (.iload 5, 2) := by decide +kernel
theorem dL_law_2710 : decode cL_law 2710 = .ok (.iconst 2, 1) := by decide +kernel
theorem dL_law_2711 : decode cL_law 2711 = .ok (.iadd, 1) := by decide +kernel
theorem dL_law_2712 : decode cL_law 2712 = .ok (.iaload, 1) := by decide +kernel
theorem dL_law_2713 : decode cL_law 2713 = .ok (.aload_n 3, 1) := by decide +kernel
theorem dL_law_2714 : decode cL_law 2714 = .ok (.invokestatic 313, 3) := by decide +kernel
theorem dL_law_2717 : decode cL_law 2717 = .ok (.istore 6, 2) := by decide +kernel
theorem dL_law_2719 : decode cL_law 2719 = .ok (.aload_n 2, 1) := by decide +kernel
theorem dL_law_2720 : decode cL_law 2720 = .ok (.aload_n 0, 1) := by decide +kernel
theorem dL_law_2721 : decode cL_law 2721 = .ok (.iload 5, 2) := by decide +kernel
theorem dL_law_2723 : decode cL_law 2723 = .ok (.iconst 1, 1) := by decide +kernel
theorem dL_law_2724 : decode cL_law 2724 = .ok (.iadd, 1) := by decide +kernel
theorem dL_law_2725 : decode cL_law 2725 = .ok (.iaload, 1) := by decide +kernel
theorem dL_law_2726 : decode cL_law 2726 = .ok (.aload_n 0, 1) := by decide +kernel
theorem dL_law_2727 : decode cL_law 2727 = .ok (.iload 5, 2) := by decide +kernel
theorem dL_law_2729 : decode cL_law 2729 = .ok (.iconst 2, 1) := by decide +kernel
theorem dL_law_2730 : decode cL_law 2730 = .ok (.iadd, 1) := by decide +kernel
theorem dL_law_2731 : decode cL_law 2731 = .ok (.iaload, 1) := by decide +kernel
theorem dL_law_2732 : decode cL_law 2732 = .ok (.invokevirtual 315, 3) := by decide +kernel
theorem dL_law_2735 : decode cL_law 2735 = .ok (.istore 7, 2) := by decide +kernel
theorem dL_law_2737 : decode cL_law 2737 = .ok (.aload_n 2, 1) := by decide +kernel
theorem dL_law_2738 : decode cL_law 2738 = .ok (.invokevirtual 200, 3) := by decide +kernel
theorem dL_law_2741 : decode cL_law 2741 = .ok (.iload 6, 2) := by decide +kernel
theorem dL_law_2743 : decode cL_law 2743 = .ok (.if_icmp .eq 5, 3) := by decide +kernel
theorem dL_law_2746 : decode cL_law 2746 = .ok (.iconst 0, 1) := by decide +kernel
theorem dL_law_2747 : decode cL_law 2747 = .ok (.ireturn, 1) := by decide +kernel
theorem dL_law_2748 : decode cL_law 2748 = .ok (.iload 6, 2) := by decide +kernel
theorem dL_law_2750 : decode cL_law 2750 = .ok (.ifCond .ne 15, 3) := by decide +kernel
theorem dL_law_2753 : decode cL_law 2753 = .ok (.aload_n 3, 1) := by decide +kernel
theorem dL_law_2754 : decode cL_law 2754 = .ok (.iconst 0, 1) := by decide +kernel
theorem dL_law_2755 : decode cL_law 2755 = .ok (.laload, 1) := by decide +kernel
theorem dL_law_2756 : decode cL_law 2756 = .ok (.iload 7, 2) := by decide +kernel
theorem dL_law_2758 : decode cL_law 2758 = .ok (.i2l, 1) := by decide +kernel
theorem dL_law_2759 : decode cL_law 2759 = .ok (.lcmp, 1) := by decide +kernel
theorem dL_law_2760 : decode cL_law 2760 = .ok (.ifCond .eq 5, 3) := by decide +kernel
theorem dL_law_2763 : decode cL_law 2763 = .ok (.iconst 0, 1) := by decide +kernel
theorem dL_law_2764 : decode cL_law 2764 = .ok (.ireturn, 1) := by decide +kernel
theorem dL_law_2765 : decode cL_law 2765 = .ok (.goto 859, 3) := by decide +kernel
set_option maxRecDepth 20000 in
theorem lw_swapTrains_c_c {p : Program} {l : Launch} {e : Env} {s : State} {m : MethodId} {args : Array Value} {below : List Frame} {meth : Method} {c : Code} {E : zE} {Q : State → Prop} {b0 L i ce sl : Nat} {xs : Nat → Int32} {σ : zS} (ni : Nat) (tx : Nat → Int) (ec : Nat) (eo : Int) (U : zSU) (S : zST) (hh : List zST) (kp : Option zST) (ou : List Nat) (n1 : Nat) (n2 : Nat) (W : zLW p l s m args meth c E b0 L xs) (hi : i + 6 ≤ L) (hcs : ce + 1 ≤ room_1.cells ∧ sl + 6 ≤ room_1.slots) (hR : zRel σ (zDv.mk ni tx ec eo U S hh kp ou)) (hx1 : xs (i + 1) = (zI (n1 : Int))) (hx2 : xs (i + 2) = (zI (n2 : Int))) (hi0 : n1 < U.nb) (ho1 : n2 < U.nb) (hio2 : n1 ≠ n2)  (kk : zNx p l e s m args below meth c E Q b0 i ce sl) : zV p l e room_1 s m args below meth c 9 E Q ce sl σ 2700 (lwL b0 i E) [] := by
  refine (?_ : zV p l e room_1 s m args below meth c 9 E Q ce sl σ 2700 [(0, .ref b0), (1, .ref (ob E 0)), (2, .ref (ob E 327)), (3, .ref (ob E 339)), (4, .ref (ob E 340)), (5, .int (zI (i : Int)))] [])
  have C := W.2.1
  have hfl := W.1
  have hroom : room_1.cells = 601024 ∧ room_1.slots = 7293034 := ⟨rfl, rfl⟩
  refine zv_aload_n C 1 dL_law_2700 rfl rfl ?_
  refine zv_aload_n C 0 dL_law_2701 rfl rfl ?_
  refine zv_iload C 5 dL_law_2702 rfl ?_
  refine zv_iconst (v := zI 1) C dL_law_2704 rfl ?_
  refine zv_iaddZ C dL_law_2705 ?_
  refine zv_sld (j := i + 1) (v := (zI (n1 : Int))) C W.2.2.1 W.2.2.2.1 W.2.2.2.2.1 W.2.2.2.2.2 (zI_ix (by omega)) (by omega) hx1 dL_law_2706 ?_
  refine zv_aload_n C 0 dL_law_2707 rfl rfl ?_
  refine zv_iload C 5 dL_law_2708 rfl ?_
  refine zv_iconst (v := zI 2) C dL_law_2710 rfl ?_
  refine zv_iaddZ C dL_law_2711 ?_
  refine zv_sld (j := i + 2) (v := (zI (n2 : Int))) C W.2.2.1 W.2.2.2.1 W.2.2.2.2.1 W.2.2.2.2.2 (zI_ix (by omega)) (by omega) hx2 dL_law_2712 ?_
  refine zv_aload_n C 3 dL_law_2713 rfl rfl ?_
  refine zv_cH (st := []) C (w_c_X10_swapTrains hfl E σ ni tx ec eo U S hh kp ou n1 n2 hR.1 (by first | assumption | omega) (by first | assumption | omega) (by first | assumption | omega)) mL_swapTrains kL_313 rfl ⟨rfl, rfl⟩ (show zfit (zrm 5 146) 5 room_1 = true from rfl) (Nat.le_of_ble_eq_true rfl) dL_law_2714 ⟨by omega, by omega⟩ (fun r2714 τ2714 hp2714 => ?_)
  obtain ⟨hr0, v9, υ9, hP9, hτ9⟩ := hp2714
  refine zv_eqi (y := zI 0) hr0 ?_
  obtain ⟨hv9, hC9, hF9⟩ := hP9
  have hC1 := zCP_w (τ := τ2714) hC9 (fun x y hx => by rw [hτ9]; exact ⟨rfl, by first | rfl | rw [gJ_sJ, if_neg (by omega)]⟩)
  have hM1 : zMP τ2714 (zDv.mk ni tx ec eo U S hh kp ou) := by rw [hτ9]; exact (zMP_fr hR.2 hF9 : zMP υ9 (zDv.mk ni tx ec eo U S hh kp ou))
  have ho9 : gJ τ2714 339 0 = v9.toInt64 := by rw [hτ9, gJ_sJ, if_pos ⟨rfl, rfl⟩]
  rw [hv9] at ho9
  refine zv_istore (lv' := [(6, .int (zI 0)), (0, .ref b0), (1, .ref (ob E 0)), (2, .ref (ob E 327)), (3, .ref (ob E 339)), (4, .ref (ob E 340)), (5, .int (zI (i : Int)))]) C dL_law_2717  (by decide) rfl ?_
  refine zv_aload_n C 3 dL_law_2719 rfl rfl ?_
  refine zv_aload_n C 1 dL_law_2720 rfl rfl ?_
  refine zv_iload C 6 dL_law_2721 rfl ?_
  refine zv_iconst (v := zI 1) C dL_law_2723 rfl ?_
  refine zv_iaddZ C dL_law_2724 ?_
  refine zv_sld (j := i + 1) (v := (zI (n1 : Int))) C W.2.2.1 W.2.2.2.1 W.2.2.2.2.1 W.2.2.2.2.2 (zI_ix (by omega)) (by omega) hx1 dL_law_2725 ?_
  refine zv_aload_n C 1 dL_law_2726 rfl rfl ?_
  refine zv_iload C 6 dL_law_2727 rfl ?_
  refine zv_iconst (v := zI 2) C dL_law_2729 rfl ?_
  refine zv_iaddZ C dL_law_2730 ?_
  refine zv_sld (j := i + 2) (v := (zI (n2 : Int))) C W.2.2.1 W.2.2.2.1 W.2.2.2.2.1 W.2.2.2.2.2 (zI_ix (by omega)) (by omega) hx2 dL_law_2731 ?_
  refine zv_cvi (st := []) C (c_X11_swapTrains hfl E τ2714 σ ni tx ec eo U S hh kp ou n1 n2 hM1 hR.1.2.2.1 hR.1.2.2.2.1.1 (by first | assumption | omega) (by first | assumption | omega) (by first | assumption | omega)) mX11_swapTrains kL_315 (by decide : kd 327 = 10) rfl rfl rfl ⟨rfl, rfl⟩ (show zfit (zrm 3 68) 5 room_1 = true from rfl) (Nat.le_of_ble_eq_true rfl) dL_law_2732 ⟨by omega, by omega⟩ (fun r2732 τ2732 hp2732 => ?_)
  obtain ⟨hr2, hK2⟩ := hp2732
  refine zv_eqi (y := zI (S.tn n2 : Int)) hr2 ?_
  have hR2 : zRel τ2732 _ := ⟨zCP_fr hC1 hK2.2.2, hK2.1⟩
  have ht2 : gI τ2732 327 10 = zI 0 := hK2.2.1
  have hJ2 : gJ τ2732 339 0 = gJ τ2714 339 0 := hK2.2.2.2.1 339 0 (by decide)
  refine zv_istore (lv' := [(7, .int (zI (S.tn n2 : Int))), (6, .int (zI 0)), (0, .ref b0), (1, .ref (ob E 0)), (2, .ref (ob E 327)), (3, .ref (ob E 339)), (4, .ref (ob E 340)), (5, .int (zI (i : Int)))]) C dL_law_2735  (by decide) rfl ?_
  refine zv_aload_n C 4 dL_law_2737 rfl rfl ?_
  refine zv_cviD (st := []) C (c_X11_thrown hfl E τ2732) mX11_thrown kL_200 (by decide : kd 327 = 10) rfl rfl rfl ⟨rfl, rfl⟩ (show zfit (zrm 0 0) 1 room_1 = true from rfl) (Nat.le_of_ble_eq_true rfl) dL_law_2738 ⟨by omega, by omega⟩ ?_
  refine zv_eqi (y := (zI 0)) (ht2) ?_
  refine zv_iload C 1 dL_law_2741 rfl ?_
  refine zv_icmp_eqZ (tgt := 2748) C (by omega) (by omega) dL_law_2743 (by decide) (fun h2743 => ?_) (fun h2743 => ?_)
  · skip
    refine zv_iload C 1 dL_law_2748 rfl ?_
    refine zv_if_neZ (tgt := 2765) C (by omega) dL_law_2750 (by decide) (fun h2750 => absurd h2750 (by decide)) (fun h2750 => ?_)
    refine zv_aload_n C 5 dL_law_2753 rfl rfl ?_
    refine zv_iconst (v := zI 0) C dL_law_2754 rfl ?_
    refine zv_lald (j := 0) C (by decide : kd 339 = _) (zI_ix (by omega)) (by decide) dL_law_2755 ?_
    refine zv_eql (y := ((zI (S.tn n2 : Int)).toInt64)) (hJ2.trans ho9) ?_
    refine zv_iload C 0 dL_law_2756 rfl ?_
    refine zv_i2l C dL_law_2758 ?_
    refine zv_lc_eq (tgt := 2765) C dL_law_2759 dL_law_2760 (by decide) (fun h2759 => ?_) (fun h2759 => ?_)
    · skip
      refine zv_goto (tgt := 3624) C dL_law_2765 (by decide) ?_
      refine zv_sub (lv' := [(0, .ref b0), (1, .ref (ob E 0)), (2, .ref (ob E 327)), (3, .ref (ob E 339)), (4, .ref (ob E 340)), (5, .int (zI (i : Int)))]) [2, 3, 4, 5, 6, 7] (zcons rfl (zcons rfl (zcons rfl (zcons rfl (zcons rfl (zcons rfl rfl)))))) ?_
      exact kk _ _ _ _ (by omega) (by omega) hR2
    · exfalso
      exact h2759 rfl
  · exfalso
    omega
set_option maxRecDepth 20000 in
theorem lw_swapTrains_x1_x1 {p : Program} {l : Launch} {e : Env} {s : State} {m : MethodId} {args : Array Value} {below : List Frame} {meth : Method} {c : Code} {E : zE} {Q : State → Prop} {b0 L i ce sl : Nat} {xs : Nat → Int32} {σ : zS} (ni : Nat) (tx : Nat → Int) (ec : Nat) (eo : Int) (U : zSU) (S : zST) (hh : List zST) (kp : Option zST) (ou : List Nat) (v1 : Int) (v2 : Int) (W : zLW p l s m args meth c E b0 L xs) (hi : i + 6 ≤ L) (hcs : ce + 1 ≤ room_1.cells ∧ sl + 6 ≤ room_1.slots) (hR : zRel σ (zDv.mk ni tx ec eo U S hh kp ou)) (hx1 : xs (i + 1) = (zI v1)) (hx2 : xs (i + 2) = (zI v2)) (hyi0 : -2147483648 ≤ v1 ∧ v1 < 2147483648) (hzi1 : -2147483648 ≤ v2 ∧ v2 < 2147483648) (hno2 : ¬ (0 ≤ v1 ∧ v1 < U.nb))  (kk : zNx p l e s m args below meth c E Q b0 i ce sl) : zV p l e room_1 s m args below meth c 9 E Q ce sl σ 2700 (lwL b0 i E) [] := by
  refine (?_ : zV p l e room_1 s m args below meth c 9 E Q ce sl σ 2700 [(0, .ref b0), (1, .ref (ob E 0)), (2, .ref (ob E 327)), (3, .ref (ob E 339)), (4, .ref (ob E 340)), (5, .int (zI (i : Int)))] [])
  have C := W.2.1
  have hfl := W.1
  have hroom : room_1.cells = 601024 ∧ room_1.slots = 7293034 := ⟨rfl, rfl⟩
  refine zv_aload_n C 1 dL_law_2700 rfl rfl ?_
  refine zv_aload_n C 0 dL_law_2701 rfl rfl ?_
  refine zv_iload C 5 dL_law_2702 rfl ?_
  refine zv_iconst (v := zI 1) C dL_law_2704 rfl ?_
  refine zv_iaddZ C dL_law_2705 ?_
  refine zv_sld (j := i + 1) (v := (zI v1)) C W.2.2.1 W.2.2.2.1 W.2.2.2.2.1 W.2.2.2.2.2 (zI_ix (by omega)) (by omega) hx1 dL_law_2706 ?_
  refine zv_aload_n C 0 dL_law_2707 rfl rfl ?_
  refine zv_iload C 5 dL_law_2708 rfl ?_
  refine zv_iconst (v := zI 2) C dL_law_2710 rfl ?_
  refine zv_iaddZ C dL_law_2711 ?_
  refine zv_sld (j := i + 2) (v := (zI v2)) C W.2.2.1 W.2.2.2.1 W.2.2.2.2.1 W.2.2.2.2.2 (zI_ix (by omega)) (by omega) hx2 dL_law_2712 ?_
  refine zv_aload_n C 3 dL_law_2713 rfl rfl ?_
  refine zv_cH (st := []) C (w_x1_X10_swapTrains hfl E σ U v1 v2 hR.1.2.2.1 (by first | assumption | omega) (by first | assumption | omega) (by first | assumption | omega)) mL_swapTrains kL_313 rfl ⟨rfl, rfl⟩ (show zfit (zrx 10 222) 5 room_1 = true from rfl) (Nat.le_of_ble_eq_true rfl) dL_law_2714 ⟨by exact hcs.1, by exact hcs.2⟩ (fun r2714 τ2714 hp2714 => ?_)
  obtain ⟨hr0, hP9⟩ := hp2714
  refine zv_eqi (y := zI 1) hr0 ?_
  have hF9 : zFr 318 327 σ τ2714 := by rw [hP9]; exact (by first | exact zFr_refl _ _ _ | exact zFr_rW (zFr_refl _ _ _) (by omega) | exact zFr_rW (zFr_rW (zFr_refl _ _ _) (by omega)) (by omega) | exact qW_f _ _ _ _ | exact qM_f _ _ _ _ _ | exact rW2_f _ _ _ _ _ | exact rW3_f _ _ _ _ _ | exact alW_f _ _ _ _ _ | (split <;> first | exact zFr_refl _ _ _ | exact bW_f _ _ _ _) | assumption)
  have hR1 : zRel τ2714 (zDv.mk ni tx ec eo U S hh kp ou) := zRel_c hR hF9
  refine zv_istore (lv' := [(6, .int (zI 1)), (0, .ref b0), (1, .ref (ob E 0)), (2, .ref (ob E 327)), (3, .ref (ob E 339)), (4, .ref (ob E 340)), (5, .int (zI (i : Int)))]) C dL_law_2717  (by decide) rfl ?_
  refine zv_aload_n C 3 dL_law_2719 rfl rfl ?_
  refine zv_aload_n C 1 dL_law_2720 rfl rfl ?_
  refine zv_iload C 6 dL_law_2721 rfl ?_
  refine zv_iconst (v := zI 1) C dL_law_2723 rfl ?_
  refine zv_iaddZ C dL_law_2724 ?_
  refine zv_sld (j := i + 1) (v := (zI v1)) C W.2.2.1 W.2.2.2.1 W.2.2.2.2.1 W.2.2.2.2.2 (zI_ix (by omega)) (by omega) hx1 dL_law_2725 ?_
  refine zv_aload_n C 1 dL_law_2726 rfl rfl ?_
  refine zv_iload C 6 dL_law_2727 rfl ?_
  refine zv_iconst (v := zI 2) C dL_law_2729 rfl ?_
  refine zv_iaddZ C dL_law_2730 ?_
  refine zv_sld (j := i + 2) (v := (zI v2)) C W.2.2.1 W.2.2.2.1 W.2.2.2.2.1 W.2.2.2.2.2 (zI_ix (by omega)) (by omega) hx2 dL_law_2731 ?_
  refine zv_cvi (st := []) C (x1_X11_swapTrains hfl E τ2714 σ U v1 v2 hR1.2.2.2.1 hR.1.2.2.1 (by first | assumption | omega) (by first | assumption | omega) (by first | assumption | omega)) mX11_swapTrains kL_315 (by decide : kd 327 = 10) rfl rfl rfl ⟨rfl, rfl⟩ (show zfit (zrm 3 68) 5 room_1 = true from rfl) (Nat.le_of_ble_eq_true rfl) dL_law_2732 ⟨by omega, by omega⟩ (fun r2732 τ2732 hp2732 => ?_)
  obtain ⟨hr2, hK2⟩ := hp2732
  refine zv_eqi (y := zI 0) hr2 ?_
  have hR2 : zRel τ2732 (zDv.mk ni tx ec eo U S hh kp ou) := zRel_m hR1 hK2
  have ht2 : gI τ2732 327 10 = zI 1 := hK2.2
  have hJ2 : gJ τ2732 339 0 = gJ τ2714 339 0 := hK2.1.2.1 339 0 (by decide)
  have hD2 : gD τ2732 340 0 = gD τ2714 340 0 := hK2.1.2.2 340 0
  refine zv_istore (lv' := [(7, .int (zI 0)), (6, .int (zI 1)), (0, .ref b0), (1, .ref (ob E 0)), (2, .ref (ob E 327)), (3, .ref (ob E 339)), (4, .ref (ob E 340)), (5, .int (zI (i : Int)))]) C dL_law_2735  (by decide) rfl ?_
  refine zv_aload_n C 4 dL_law_2737 rfl rfl ?_
  refine zv_cviD (st := []) C (c_X11_thrown hfl E τ2732) mX11_thrown kL_200 (by decide : kd 327 = 10) rfl rfl rfl ⟨rfl, rfl⟩ (show zfit (zrm 0 0) 1 room_1 = true from rfl) (Nat.le_of_ble_eq_true rfl) dL_law_2738 ⟨by omega, by omega⟩ ?_
  refine zv_eqi (y := (zI 1)) (ht2) ?_
  refine zv_iload C 1 dL_law_2741 rfl ?_
  refine zv_icmp_eqZ (tgt := 2748) C (by omega) (by omega) dL_law_2743 (by decide) (fun h2743 => ?_) (fun h2743 => ?_)
  · skip
    refine zv_iload C 1 dL_law_2748 rfl ?_
    refine zv_if_neZ (tgt := 2765) C (by omega) dL_law_2750 (by decide) (fun h2750 => ?_) (fun h2750 => absurd h2750 (by decide))
    refine zv_goto (tgt := 3624) C dL_law_2765 (by decide) ?_
    refine zv_sub (lv' := [(0, .ref b0), (1, .ref (ob E 0)), (2, .ref (ob E 327)), (3, .ref (ob E 339)), (4, .ref (ob E 340)), (5, .int (zI (i : Int)))]) [2, 3, 4, 5, 6, 7] (zcons rfl (zcons rfl (zcons rfl (zcons rfl (zcons rfl (zcons rfl rfl)))))) ?_
    exact kk _ _ _ _ (by omega) (by omega) hR2
  · exfalso
    omega
set_option maxRecDepth 20000 in
theorem lw_swapTrains_x2_x2 {p : Program} {l : Launch} {e : Env} {s : State} {m : MethodId} {args : Array Value} {below : List Frame} {meth : Method} {c : Code} {E : zE} {Q : State → Prop} {b0 L i ce sl : Nat} {xs : Nat → Int32} {σ : zS} (ni : Nat) (tx : Nat → Int) (ec : Nat) (eo : Int) (U : zSU) (S : zST) (hh : List zST) (kp : Option zST) (ou : List Nat) (v1 : Int) (v2 : Int) (W : zLW p l s m args meth c E b0 L xs) (hi : i + 6 ≤ L) (hcs : ce + 1 ≤ room_1.cells ∧ sl + 6 ≤ room_1.slots) (hR : zRel σ (zDv.mk ni tx ec eo U S hh kp ou)) (hx1 : xs (i + 1) = (zI v1)) (hx2 : xs (i + 2) = (zI v2)) (hyi0 : -2147483648 ≤ v1 ∧ v1 < 2147483648) (hzi1 : -2147483648 ≤ v2 ∧ v2 < 2147483648) (hy2 : 0 ≤ v1 ∧ v1 < U.nb) (hno3 : ¬ (0 ≤ v2 ∧ v2 < U.nb))  (kk : zNx p l e s m args below meth c E Q b0 i ce sl) : zV p l e room_1 s m args below meth c 9 E Q ce sl σ 2700 (lwL b0 i E) [] := by
  refine (?_ : zV p l e room_1 s m args below meth c 9 E Q ce sl σ 2700 [(0, .ref b0), (1, .ref (ob E 0)), (2, .ref (ob E 327)), (3, .ref (ob E 339)), (4, .ref (ob E 340)), (5, .int (zI (i : Int)))] [])
  have C := W.2.1
  have hfl := W.1
  have hroom : room_1.cells = 601024 ∧ room_1.slots = 7293034 := ⟨rfl, rfl⟩
  refine zv_aload_n C 1 dL_law_2700 rfl rfl ?_
  refine zv_aload_n C 0 dL_law_2701 rfl rfl ?_
  refine zv_iload C 5 dL_law_2702 rfl ?_
  refine zv_iconst (v := zI 1) C dL_law_2704 rfl ?_
  refine zv_iaddZ C dL_law_2705 ?_
  refine zv_sld (j := i + 1) (v := (zI v1)) C W.2.2.1 W.2.2.2.1 W.2.2.2.2.1 W.2.2.2.2.2 (zI_ix (by omega)) (by omega) hx1 dL_law_2706 ?_
  refine zv_aload_n C 0 dL_law_2707 rfl rfl ?_
  refine zv_iload C 5 dL_law_2708 rfl ?_
  refine zv_iconst (v := zI 2) C dL_law_2710 rfl ?_
  refine zv_iaddZ C dL_law_2711 ?_
  refine zv_sld (j := i + 2) (v := (zI v2)) C W.2.2.1 W.2.2.2.1 W.2.2.2.2.1 W.2.2.2.2.2 (zI_ix (by omega)) (by omega) hx2 dL_law_2712 ?_
  refine zv_aload_n C 3 dL_law_2713 rfl rfl ?_
  refine zv_cH (st := []) C (w_x2_X10_swapTrains hfl E σ U v1 v2 hR.1.2.2.1 (by first | assumption | omega) (by first | assumption | omega) (by first | assumption | omega) (by first | assumption | omega)) mL_swapTrains kL_313 rfl ⟨rfl, rfl⟩ (show zfit (zrx 10 222) 5 room_1 = true from rfl) (Nat.le_of_ble_eq_true rfl) dL_law_2714 ⟨by exact hcs.1, by exact hcs.2⟩ (fun r2714 τ2714 hp2714 => ?_)
  obtain ⟨hr0, hP9⟩ := hp2714
  refine zv_eqi (y := zI 1) hr0 ?_
  have hF9 : zFr 318 327 σ τ2714 := by rw [hP9]; exact (by first | exact zFr_refl _ _ _ | exact zFr_rW (zFr_refl _ _ _) (by omega) | exact zFr_rW (zFr_rW (zFr_refl _ _ _) (by omega)) (by omega) | exact qW_f _ _ _ _ | exact qM_f _ _ _ _ _ | exact rW2_f _ _ _ _ _ | exact rW3_f _ _ _ _ _ | exact alW_f _ _ _ _ _ | (split <;> first | exact zFr_refl _ _ _ | exact bW_f _ _ _ _) | assumption)
  have hR1 : zRel τ2714 (zDv.mk ni tx ec eo U S hh kp ou) := zRel_c hR hF9
  refine zv_istore (lv' := [(6, .int (zI 1)), (0, .ref b0), (1, .ref (ob E 0)), (2, .ref (ob E 327)), (3, .ref (ob E 339)), (4, .ref (ob E 340)), (5, .int (zI (i : Int)))]) C dL_law_2717  (by decide) rfl ?_
  refine zv_aload_n C 3 dL_law_2719 rfl rfl ?_
  refine zv_aload_n C 1 dL_law_2720 rfl rfl ?_
  refine zv_iload C 6 dL_law_2721 rfl ?_
  refine zv_iconst (v := zI 1) C dL_law_2723 rfl ?_
  refine zv_iaddZ C dL_law_2724 ?_
  refine zv_sld (j := i + 1) (v := (zI v1)) C W.2.2.1 W.2.2.2.1 W.2.2.2.2.1 W.2.2.2.2.2 (zI_ix (by omega)) (by omega) hx1 dL_law_2725 ?_
  refine zv_aload_n C 1 dL_law_2726 rfl rfl ?_
  refine zv_iload C 6 dL_law_2727 rfl ?_
  refine zv_iconst (v := zI 2) C dL_law_2729 rfl ?_
  refine zv_iaddZ C dL_law_2730 ?_
  refine zv_sld (j := i + 2) (v := (zI v2)) C W.2.2.1 W.2.2.2.1 W.2.2.2.2.1 W.2.2.2.2.2 (zI_ix (by omega)) (by omega) hx2 dL_law_2731 ?_
  refine zv_cvi (st := []) C (x2_X11_swapTrains hfl E τ2714 σ U v1 v2 hR1.2.2.2.1 hR.1.2.2.1 (by first | assumption | omega) (by first | assumption | omega) (by first | assumption | omega)) mX11_swapTrains kL_315 (by decide : kd 327 = 10) rfl rfl rfl ⟨rfl, rfl⟩ (show zfit (zrm 3 68) 5 room_1 = true from rfl) (Nat.le_of_ble_eq_true rfl) dL_law_2732 ⟨by omega, by omega⟩ (fun r2732 τ2732 hp2732 => ?_)
  obtain ⟨hr2, hK2⟩ := hp2732
  refine zv_eqi (y := zI 0) hr2 ?_
  have hR2 : zRel τ2732 (zDv.mk ni tx ec eo U S hh kp ou) := zRel_m hR1 hK2
  have ht2 : gI τ2732 327 10 = zI 1 := hK2.2
  have hJ2 : gJ τ2732 339 0 = gJ τ2714 339 0 := hK2.1.2.1 339 0 (by decide)
  have hD2 : gD τ2732 340 0 = gD τ2714 340 0 := hK2.1.2.2 340 0
  refine zv_istore (lv' := [(7, .int (zI 0)), (6, .int (zI 1)), (0, .ref b0), (1, .ref (ob E 0)), (2, .ref (ob E 327)), (3, .ref (ob E 339)), (4, .ref (ob E 340)), (5, .int (zI (i : Int)))]) C dL_law_2735  (by decide) rfl ?_
  refine zv_aload_n C 4 dL_law_2737 rfl rfl ?_
  refine zv_cviD (st := []) C (c_X11_thrown hfl E τ2732) mX11_thrown kL_200 (by decide : kd 327 = 10) rfl rfl rfl ⟨rfl, rfl⟩ (show zfit (zrm 0 0) 1 room_1 = true from rfl) (Nat.le_of_ble_eq_true rfl) dL_law_2738 ⟨by omega, by omega⟩ ?_
  refine zv_eqi (y := (zI 1)) (ht2) ?_
  refine zv_iload C 1 dL_law_2741 rfl ?_
  refine zv_icmp_eqZ (tgt := 2748) C (by omega) (by omega) dL_law_2743 (by decide) (fun h2743 => ?_) (fun h2743 => ?_)
  · skip
    refine zv_iload C 1 dL_law_2748 rfl ?_
    refine zv_if_neZ (tgt := 2765) C (by omega) dL_law_2750 (by decide) (fun h2750 => ?_) (fun h2750 => absurd h2750 (by decide))
    refine zv_goto (tgt := 3624) C dL_law_2765 (by decide) ?_
    refine zv_sub (lv' := [(0, .ref b0), (1, .ref (ob E 0)), (2, .ref (ob E 327)), (3, .ref (ob E 339)), (4, .ref (ob E 340)), (5, .int (zI (i : Int)))]) [2, 3, 4, 5, 6, 7] (zcons rfl (zcons rfl (zcons rfl (zcons rfl (zcons rfl (zcons rfl rfl)))))) ?_
    exact kk _ _ _ _ (by omega) (by omega) hR2
  · exfalso
    omega
set_option maxRecDepth 20000 in
theorem lw_swapTrains_x3_x3 {p : Program} {l : Launch} {e : Env} {s : State} {m : MethodId} {args : Array Value} {below : List Frame} {meth : Method} {c : Code} {E : zE} {Q : State → Prop} {b0 L i ce sl : Nat} {xs : Nat → Int32} {σ : zS} (ni : Nat) (tx : Nat → Int) (ec : Nat) (eo : Int) (U : zSU) (S : zST) (hh : List zST) (kp : Option zST) (ou : List Nat) (v1 : Int) (W : zLW p l s m args meth c E b0 L xs) (hi : i + 6 ≤ L) (hcs : ce + 1 ≤ room_1.cells ∧ sl + 6 ≤ room_1.slots) (hR : zRel σ (zDv.mk ni tx ec eo U S hh kp ou)) (hx1 : xs (i + 1) = (zI v1)) (hx2 : xs (i + 2) = (zI v1)) (hyi0 : -2147483648 ≤ v1 ∧ v1 < 2147483648) (hy1 : 0 ≤ v1 ∧ v1 < U.nb)  (kk : zNx p l e s m args below meth c E Q b0 i ce sl) : zV p l e room_1 s m args below meth c 9 E Q ce sl σ 2700 (lwL b0 i E) [] := by
  refine (?_ : zV p l e room_1 s m args below meth c 9 E Q ce sl σ 2700 [(0, .ref b0), (1, .ref (ob E 0)), (2, .ref (ob E 327)), (3, .ref (ob E 339)), (4, .ref (ob E 340)), (5, .int (zI (i : Int)))] [])
  have C := W.2.1
  have hfl := W.1
  have hroom : room_1.cells = 601024 ∧ room_1.slots = 7293034 := ⟨rfl, rfl⟩
  refine zv_aload_n C 1 dL_law_2700 rfl rfl ?_
  refine zv_aload_n C 0 dL_law_2701 rfl rfl ?_
  refine zv_iload C 5 dL_law_2702 rfl ?_
  refine zv_iconst (v := zI 1) C dL_law_2704 rfl ?_
  refine zv_iaddZ C dL_law_2705 ?_
  refine zv_sld (j := i + 1) (v := (zI v1)) C W.2.2.1 W.2.2.2.1 W.2.2.2.2.1 W.2.2.2.2.2 (zI_ix (by omega)) (by omega) hx1 dL_law_2706 ?_
  refine zv_aload_n C 0 dL_law_2707 rfl rfl ?_
  refine zv_iload C 5 dL_law_2708 rfl ?_
  refine zv_iconst (v := zI 2) C dL_law_2710 rfl ?_
  refine zv_iaddZ C dL_law_2711 ?_
  refine zv_sld (j := i + 2) (v := (zI v1)) C W.2.2.1 W.2.2.2.1 W.2.2.2.2.1 W.2.2.2.2.2 (zI_ix (by omega)) (by omega) hx2 dL_law_2712 ?_
  refine zv_aload_n C 3 dL_law_2713 rfl rfl ?_
  refine zv_cH (st := []) C (w_x3_X10_swapTrains hfl E σ U v1 hR.1.2.2.1 (by first | assumption | omega) (by first | assumption | omega)) mL_swapTrains kL_313 rfl ⟨rfl, rfl⟩ (show zfit (zrx 10 222) 5 room_1 = true from rfl) (Nat.le_of_ble_eq_true rfl) dL_law_2714 ⟨by exact hcs.1, by exact hcs.2⟩ (fun r2714 τ2714 hp2714 => ?_)
  obtain ⟨hr0, hP9⟩ := hp2714
  refine zv_eqi (y := zI 2) hr0 ?_
  have hF9 : zFr 318 327 σ τ2714 := by rw [hP9]; exact (by first | exact zFr_refl _ _ _ | exact zFr_rW (zFr_refl _ _ _) (by omega) | exact zFr_rW (zFr_rW (zFr_refl _ _ _) (by omega)) (by omega) | exact qW_f _ _ _ _ | exact qM_f _ _ _ _ _ | exact rW2_f _ _ _ _ _ | exact rW3_f _ _ _ _ _ | exact alW_f _ _ _ _ _ | (split <;> first | exact zFr_refl _ _ _ | exact bW_f _ _ _ _) | assumption)
  have hR1 : zRel τ2714 (zDv.mk ni tx ec eo U S hh kp ou) := zRel_c hR hF9
  refine zv_istore (lv' := [(6, .int (zI 2)), (0, .ref b0), (1, .ref (ob E 0)), (2, .ref (ob E 327)), (3, .ref (ob E 339)), (4, .ref (ob E 340)), (5, .int (zI (i : Int)))]) C dL_law_2717  (by decide) rfl ?_
  refine zv_aload_n C 3 dL_law_2719 rfl rfl ?_
  refine zv_aload_n C 1 dL_law_2720 rfl rfl ?_
  refine zv_iload C 6 dL_law_2721 rfl ?_
  refine zv_iconst (v := zI 1) C dL_law_2723 rfl ?_
  refine zv_iaddZ C dL_law_2724 ?_
  refine zv_sld (j := i + 1) (v := (zI v1)) C W.2.2.1 W.2.2.2.1 W.2.2.2.2.1 W.2.2.2.2.2 (zI_ix (by omega)) (by omega) hx1 dL_law_2725 ?_
  refine zv_aload_n C 1 dL_law_2726 rfl rfl ?_
  refine zv_iload C 6 dL_law_2727 rfl ?_
  refine zv_iconst (v := zI 2) C dL_law_2729 rfl ?_
  refine zv_iaddZ C dL_law_2730 ?_
  refine zv_sld (j := i + 2) (v := (zI v1)) C W.2.2.1 W.2.2.2.1 W.2.2.2.2.1 W.2.2.2.2.2 (zI_ix (by omega)) (by omega) hx2 dL_law_2731 ?_
  refine zv_cvi (st := []) C (x3_X11_swapTrains hfl E τ2714 σ U v1 hR1.2.2.2.1 hR.1.2.2.1 (by first | assumption | omega)) mX11_swapTrains kL_315 (by decide : kd 327 = 10) rfl rfl rfl ⟨rfl, rfl⟩ (show zfit (zrm 3 68) 5 room_1 = true from rfl) (Nat.le_of_ble_eq_true rfl) dL_law_2732 ⟨by omega, by omega⟩ (fun r2732 τ2732 hp2732 => ?_)
  obtain ⟨hr2, hK2⟩ := hp2732
  refine zv_eqi (y := zI 0) hr2 ?_
  have hR2 : zRel τ2732 (zDv.mk ni tx ec eo U S hh kp ou) := zRel_m hR1 hK2
  have ht2 : gI τ2732 327 10 = zI 2 := hK2.2
  have hJ2 : gJ τ2732 339 0 = gJ τ2714 339 0 := hK2.1.2.1 339 0 (by decide)
  have hD2 : gD τ2732 340 0 = gD τ2714 340 0 := hK2.1.2.2 340 0
  refine zv_istore (lv' := [(7, .int (zI 0)), (6, .int (zI 2)), (0, .ref b0), (1, .ref (ob E 0)), (2, .ref (ob E 327)), (3, .ref (ob E 339)), (4, .ref (ob E 340)), (5, .int (zI (i : Int)))]) C dL_law_2735  (by decide) rfl ?_
  refine zv_aload_n C 4 dL_law_2737 rfl rfl ?_
  refine zv_cviD (st := []) C (c_X11_thrown hfl E τ2732) mX11_thrown kL_200 (by decide : kd 327 = 10) rfl rfl rfl ⟨rfl, rfl⟩ (show zfit (zrm 0 0) 1 room_1 = true from rfl) (Nat.le_of_ble_eq_true rfl) dL_law_2738 ⟨by omega, by omega⟩ ?_
  refine zv_eqi (y := (zI 2)) (ht2) ?_
  refine zv_iload C 1 dL_law_2741 rfl ?_
  refine zv_icmp_eqZ (tgt := 2748) C (by omega) (by omega) dL_law_2743 (by decide) (fun h2743 => ?_) (fun h2743 => ?_)
  · skip
    refine zv_iload C 1 dL_law_2748 rfl ?_
    refine zv_if_neZ (tgt := 2765) C (by omega) dL_law_2750 (by decide) (fun h2750 => ?_) (fun h2750 => absurd h2750 (by decide))
    refine zv_goto (tgt := 3624) C dL_law_2765 (by decide) ?_
    refine zv_sub (lv' := [(0, .ref b0), (1, .ref (ob E 0)), (2, .ref (ob E 327)), (3, .ref (ob E 339)), (4, .ref (ob E 340)), (5, .int (zI (i : Int)))]) [2, 3, 4, 5, 6, 7] (zcons rfl (zcons rfl (zcons rfl (zcons rfl (zcons rfl (zcons rfl rfl)))))) ?_
    exact kk _ _ _ _ (by omega) (by omega) hR2
  · exfalso
    omega
theorem LK_41 {p : Program} {l : Launch} {e : Env} {s : State} {m : MethodId} {args : Array Value} {below : List Frame} {meth : Method} {c : Code} {E : zE} {Q : State → Prop} {b0 L i ce sl : Nat} {xs : Nat → Int32} {σ : zS} (ni : Nat) (tx : Nat → Int) (ec : Nat) (eo : Int) (U : zSU) (S : zST) (hh : List zST) (kp : Option zST) (ou : List Nat) (hFN : zFN) (W : zLW p l s m args meth c E b0 L xs) (hi : i + 6 ≤ L) (hcs : ce + 1 ≤ room_1.cells ∧ sl + 6 ≤ room_1.slots) (hR : zRel σ (zDv.mk ni tx ec eo U S hh kp ou)) (kk : zNx p l e s m args below meth c E Q b0 i ce sl) : zV p l e room_1 s m args below meth c 9 E Q ce sl σ 2700 (lwL b0 i E) [] := by
  obtain ⟨v1, hx1, hv1⟩ := zI_cov (xs (i + 1))
  obtain ⟨v2, hx2, hv2⟩ := zI_cov (xs (i + 2))
  by_cases g1 : 0 ≤ v1 ∧ v1 < U.nb
  case neg =>
    exact lw_swapTrains_x1_x1 _ _ _ _ _ _ _ _ _ _ _ W hi hcs hR hx1 hx2 (by first | assumption | omega) (by first | assumption | omega) (by first | assumption | omega) kk
  by_cases g2 : 0 ≤ v2 ∧ v2 < U.nb
  case neg =>
    exact lw_swapTrains_x2_x2 _ _ _ _ _ _ _ _ _ _ _ W hi hcs hR hx1 hx2 (by first | assumption | omega) (by first | assumption | omega) (by first | assumption | omega) (by first | assumption | omega) kk
  by_cases g3 : ¬ v2 = v1
  case neg =>
    obtain rfl : v2 = v1 := by omega
    exact lw_swapTrains_x3_x3 _ _ _ _ _ _ _ _ _ _ W hi hcs hR hx1 hx2 (by first | assumption | omega) (by first | assumption | omega) kk
  obtain ⟨n1, rfl⟩ := Int.eq_ofNat_of_zero_le (show 0 ≤ v1 by omega)
  obtain ⟨n2, rfl⟩ := Int.eq_ofNat_of_zero_le (show 0 ≤ v2 by omega)
  exact lw_swapTrains_c_c _ _ _ _ _ _ _ _ _ _ _ W hi hcs hR hx1 hx2 (by first | assumption | omega) (by first | assumption | omega) (by first | assumption | omega) kk
theorem dL_law_2768 : decode cL_law 2768 = .ok (.aload_n 1, 1) := by decide +kernel
theorem dL_law_2769 : decode cL_law 2769 = .ok (.aload_n 0, 1) := by decide +kernel
theorem dL_law_2770 : decode cL_law 2770 = .ok (.iload 5, 2) := by decide +kernel
theorem dL_law_2772 : decode cL_law 2772 = .ok (.iconst 1, 1) := by decide +kernel
theorem dL_law_2773 : decode cL_law 2773 = .ok (.iadd, 1) := by decide +kernel
theorem dL_law_2774 : decode cL_law 2774 = .ok (.iaload, 1) := by decide +kernel
theorem dL_law_2775 : decode cL_law 2775 = .ok (.aload_n 0, 1) := by decide +kernel
theorem dL_law_2776 : decode cL_law 2776 = .ok (.iload 5, 2) := by decide +kernel
theorem dL_law_2778 : decode cL_law 2778 = .ok (.iconst 2, 1) := by decide +kernel
theorem dL_law_2779 : decode cL_law 2779 = .ok (.iadd, 1) := by decide +kernel
theorem dL_law_2780 : decode cL_law 2780 = .ok (.iaload, 1) := by decide +kernel
theorem dL_law_2781 : decode cL_law 2781 = .ok (.aload_n 3, 1) := by decide +kernel
theorem dL_law_2782 : decode cL_law 2782 = .ok (.invokestatic 316, 3) := by decide +kernel
theorem dL_law_2785 : decode cL_law 2785 = .ok (.istore 6, 2) := by decide +kernel
theorem dL_law_2787 : decode cL_law 2787 = .ok (.aload_n 2, 1) := by decide +kernel
theorem dL_law_2788 : decode cL_law 2788 = .ok (.aload_n 0, 1) := by decide +kernel
theorem dL_law_2789 : decode cL_law 2789 = .ok (.iload 5, 2) := by decide +kernel
theorem dL_law_2791 : decode cL_law 2791 = .ok (.iconst 1, 1) := by decide +kernel
theorem dL_law_2792 : decode cL_law 2792 = .ok (.iadd, 1) := by decide +kernel
theorem dL_law_2793 : decode cL_law 2793 = .ok (.iaload, 1) := by decide +kernel
theorem dL_law_2794 : decode cL_law 2794 = .ok (.aload_n 0, 1) := by decide +kernel
theorem dL_law_2795 : decode cL_law 2795 = .ok (.iload 5, 2) := by decide +kernel
theorem dL_law_2797 : decode cL_law 2797 = .ok (.iconst 2, 1) := by decide +kernel
theorem dL_law_2798 : decode cL_law 2798 = .ok (.iadd, 1) := by decide +kernel
theorem dL_law_2799 : decode cL_law 2799 = .ok (.iaload, 1) := by decide +kernel
theorem dL_law_2800 : decode cL_law 2800 = .ok (.invokevirtual 318, 3) := by decide +kernel
theorem dL_law_2803 : decode cL_law 2803 = .ok (.istore 7, 2) := by decide +kernel
theorem dL_law_2805 : decode cL_law 2805 = .ok (.aload_n 2, 1) := by decide +kernel
theorem dL_law_2806 : decode cL_law 2806 = .ok (.invokevirtual 200, 3) := by decide +kernel
theorem dL_law_2809 : decode cL_law 2809 = .ok (.iload 6, 2) := by decide +kernel
theorem dL_law_2811 : decode cL_law 2811 = .ok (.if_icmp .eq 5, 3) := by decide +kernel
theorem dL_law_2814 : decode cL_law 2814 = .ok (.iconst 0, 1) := by decide +kernel
theorem dL_law_2815 : decode cL_law 2815 = .ok (.ireturn, 1) := by decide +kernel
theorem dL_law_2816 : decode cL_law 2816 = .ok (.iload 6, 2) := by decide +kernel
theorem dL_law_2818 : decode cL_law 2818 = .ok (.ifCond .ne 15, 3) := by decide +kernel
theorem dL_law_2821 : decode cL_law 2821 = .ok (.aload_n 3, 1) := by decide +kernel
theorem dL_law_2822 : decode cL_law 2822 = .ok (.iconst 0, 1) := by decide +kernel
theorem dL_law_2823 : decode cL_law 2823 = .ok (.laload, 1) := by decide +kernel
theorem dL_law_2824 : decode cL_law 2824 = .ok (.iload 7, 2) := by decide +kernel
theorem dL_law_2826 : decode cL_law 2826 = .ok (.i2l, 1) := by decide +kernel
theorem dL_law_2827 : decode cL_law 2827 = .ok (.lcmp, 1) := by decide +kernel
theorem dL_law_2828 : decode cL_law 2828 = .ok (.ifCond .eq 5, 3) := by decide +kernel
theorem dL_law_2831 : decode cL_law 2831 = .ok (.iconst 0, 1) := by decide +kernel
theorem dL_law_2832 : decode cL_law 2832 = .ok (.ireturn, 1) := by decide +kernel
theorem dL_law_2833 : decode cL_law 2833 = .ok (.goto 791, 3) := by decide +kernel
set_option maxRecDepth 20000 in
theorem lw_copyTrain_c_c {p : Program} {l : Launch} {e : Env} {s : State} {m : MethodId} {args : Array Value} {below : List Frame} {meth : Method} {c : Code} {E : zE} {Q : State → Prop} {b0 L i ce sl : Nat} {xs : Nat → Int32} {σ : zS} (ni : Nat) (tx : Nat → Int) (ec : Nat) (eo : Int) (U : zSU) (S : zST) (hh : List zST) (kp : Option zST) (ou : List Nat) (n1 : Nat) (n2 : Nat) (W : zLW p l s m args meth c E b0 L xs) (hi : i + 6 ≤ L) (hcs : ce + 1 ≤ room_1.cells ∧ sl + 6 ≤ room_1.slots) (hR : zRel σ (zDv.mk ni tx ec eo U S hh kp ou)) (hx1 : xs (i + 1) = (zI (n1 : Int))) (hx2 : xs (i + 2) = (zI (n2 : Int))) (hi0 : n1 < U.nb) (ho1 : n2 < U.nb) (hio2 : n1 ≠ n2)  (kk : zNx p l e s m args below meth c E Q b0 i ce sl) : zV p l e room_1 s m args below meth c 9 E Q ce sl σ 2768 (lwL b0 i E) [] := by
  refine (?_ : zV p l e room_1 s m args below meth c 9 E Q ce sl σ 2768 [(0, .ref b0), (1, .ref (ob E 0)), (2, .ref (ob E 327)), (3, .ref (ob E 339)), (4, .ref (ob E 340)), (5, .int (zI (i : Int)))] [])
  have C := W.2.1
  have hfl := W.1
  have hroom : room_1.cells = 601024 ∧ room_1.slots = 7293034 := ⟨rfl, rfl⟩
  refine zv_aload_n C 1 dL_law_2768 rfl rfl ?_
  refine zv_aload_n C 0 dL_law_2769 rfl rfl ?_
  refine zv_iload C 5 dL_law_2770 rfl ?_
  refine zv_iconst (v := zI 1) C dL_law_2772 rfl ?_
  refine zv_iaddZ C dL_law_2773 ?_
  refine zv_sld (j := i + 1) (v := (zI (n1 : Int))) C W.2.2.1 W.2.2.2.1 W.2.2.2.2.1 W.2.2.2.2.2 (zI_ix (by omega)) (by omega) hx1 dL_law_2774 ?_
  refine zv_aload_n C 0 dL_law_2775 rfl rfl ?_
  refine zv_iload C 5 dL_law_2776 rfl ?_
  refine zv_iconst (v := zI 2) C dL_law_2778 rfl ?_
  refine zv_iaddZ C dL_law_2779 ?_
  refine zv_sld (j := i + 2) (v := (zI (n2 : Int))) C W.2.2.1 W.2.2.2.1 W.2.2.2.2.1 W.2.2.2.2.2 (zI_ix (by omega)) (by omega) hx2 dL_law_2780 ?_
  refine zv_aload_n C 3 dL_law_2781 rfl rfl ?_
  refine zv_cH (st := []) C (w_c_X10_copyTrain hfl E σ ni tx ec eo U S hh kp ou n1 n2 hR.1 (by first | assumption | omega) (by first | assumption | omega) (by first | assumption | omega)) mL_copyTrain kL_316 rfl ⟨rfl, rfl⟩ (show zfit (zrm 5 146) 5 room_1 = true from rfl) (Nat.le_of_ble_eq_true rfl) dL_law_2782 ⟨by omega, by omega⟩ (fun r2782 τ2782 hp2782 => ?_)
  obtain ⟨hr0, v9, υ9, hP9, hτ9⟩ := hp2782
  refine zv_eqi (y := zI 0) hr0 ?_
  obtain ⟨hv9, hC9, hF9⟩ := hP9
  have hC1 := zCP_w (τ := τ2782) hC9 (fun x y hx => by rw [hτ9]; exact ⟨rfl, by first | rfl | rw [gJ_sJ, if_neg (by omega)]⟩)
  have hM1 : zMP τ2782 (zDv.mk ni tx ec eo U S hh kp ou) := by rw [hτ9]; exact (zMP_fr hR.2 hF9 : zMP υ9 (zDv.mk ni tx ec eo U S hh kp ou))
  have ho9 : gJ τ2782 339 0 = v9.toInt64 := by rw [hτ9, gJ_sJ, if_pos ⟨rfl, rfl⟩]
  rw [hv9] at ho9
  refine zv_istore (lv' := [(6, .int (zI 0)), (0, .ref b0), (1, .ref (ob E 0)), (2, .ref (ob E 327)), (3, .ref (ob E 339)), (4, .ref (ob E 340)), (5, .int (zI (i : Int)))]) C dL_law_2785  (by decide) rfl ?_
  refine zv_aload_n C 3 dL_law_2787 rfl rfl ?_
  refine zv_aload_n C 1 dL_law_2788 rfl rfl ?_
  refine zv_iload C 6 dL_law_2789 rfl ?_
  refine zv_iconst (v := zI 1) C dL_law_2791 rfl ?_
  refine zv_iaddZ C dL_law_2792 ?_
  refine zv_sld (j := i + 1) (v := (zI (n1 : Int))) C W.2.2.1 W.2.2.2.1 W.2.2.2.2.1 W.2.2.2.2.2 (zI_ix (by omega)) (by omega) hx1 dL_law_2793 ?_
  refine zv_aload_n C 1 dL_law_2794 rfl rfl ?_
  refine zv_iload C 6 dL_law_2795 rfl ?_
  refine zv_iconst (v := zI 2) C dL_law_2797 rfl ?_
  refine zv_iaddZ C dL_law_2798 ?_
  refine zv_sld (j := i + 2) (v := (zI (n2 : Int))) C W.2.2.1 W.2.2.2.1 W.2.2.2.2.1 W.2.2.2.2.2 (zI_ix (by omega)) (by omega) hx2 dL_law_2799 ?_
  refine zv_cvi (st := []) C (c_X11_copyTrain hfl E τ2782 σ ni tx ec eo U S hh kp ou n1 n2 hM1 hR.1.2.2.1 hR.1.2.2.2.1.1 (by first | assumption | omega) (by first | assumption | omega) (by first | assumption | omega)) mX11_copyTrain kL_318 (by decide : kd 327 = 10) rfl rfl rfl ⟨rfl, rfl⟩ (show zfit (zrm 3 68) 3 room_1 = true from rfl) (Nat.le_of_ble_eq_true rfl) dL_law_2800 ⟨by omega, by omega⟩ (fun r2800 τ2800 hp2800 => ?_)
  obtain ⟨hr2, hK2⟩ := hp2800
  refine zv_eqi (y := zI (S.tn n1 : Int)) hr2 ?_
  have hR2 : zRel τ2800 _ := ⟨zCP_fr hC1 hK2.2.2, hK2.1⟩
  have ht2 : gI τ2800 327 10 = zI 0 := hK2.2.1
  have hJ2 : gJ τ2800 339 0 = gJ τ2782 339 0 := hK2.2.2.2.1 339 0 (by decide)
  refine zv_istore (lv' := [(7, .int (zI (S.tn n1 : Int))), (6, .int (zI 0)), (0, .ref b0), (1, .ref (ob E 0)), (2, .ref (ob E 327)), (3, .ref (ob E 339)), (4, .ref (ob E 340)), (5, .int (zI (i : Int)))]) C dL_law_2803  (by decide) rfl ?_
  refine zv_aload_n C 4 dL_law_2805 rfl rfl ?_
  refine zv_cviD (st := []) C (c_X11_thrown hfl E τ2800) mX11_thrown kL_200 (by decide : kd 327 = 10) rfl rfl rfl ⟨rfl, rfl⟩ (show zfit (zrm 0 0) 1 room_1 = true from rfl) (Nat.le_of_ble_eq_true rfl) dL_law_2806 ⟨by omega, by omega⟩ ?_
  refine zv_eqi (y := (zI 0)) (ht2) ?_
  refine zv_iload C 1 dL_law_2809 rfl ?_
  refine zv_icmp_eqZ (tgt := 2816) C (by omega) (by omega) dL_law_2811 (by decide) (fun h2811 => ?_) (fun h2811 => ?_)
  · skip
    refine zv_iload C 1 dL_law_2816 rfl ?_
    refine zv_if_neZ (tgt := 2833) C (by omega) dL_law_2818 (by decide) (fun h2818 => absurd h2818 (by decide)) (fun h2818 => ?_)
    refine zv_aload_n C 5 dL_law_2821 rfl rfl ?_
    refine zv_iconst (v := zI 0) C dL_law_2822 rfl ?_
    refine zv_lald (j := 0) C (by decide : kd 339 = _) (zI_ix (by omega)) (by decide) dL_law_2823 ?_
    refine zv_eql (y := ((zI (S.tn n1 : Int)).toInt64)) (hJ2.trans ho9) ?_
    refine zv_iload C 0 dL_law_2824 rfl ?_
    refine zv_i2l C dL_law_2826 ?_
    refine zv_lc_eq (tgt := 2833) C dL_law_2827 dL_law_2828 (by decide) (fun h2827 => ?_) (fun h2827 => ?_)
    · skip
      refine zv_goto (tgt := 3624) C dL_law_2833 (by decide) ?_
      refine zv_sub (lv' := [(0, .ref b0), (1, .ref (ob E 0)), (2, .ref (ob E 327)), (3, .ref (ob E 339)), (4, .ref (ob E 340)), (5, .int (zI (i : Int)))]) [2, 3, 4, 5, 6, 7] (zcons rfl (zcons rfl (zcons rfl (zcons rfl (zcons rfl (zcons rfl rfl)))))) ?_
      exact kk _ _ _ _ (by omega) (by omega) hR2
    · exfalso
      exact h2827 rfl
  · exfalso
    omega
set_option maxRecDepth 20000 in
theorem lw_copyTrain_x1_x1 {p : Program} {l : Launch} {e : Env} {s : State} {m : MethodId} {args : Array Value} {below : List Frame} {meth : Method} {c : Code} {E : zE} {Q : State → Prop} {b0 L i ce sl : Nat} {xs : Nat → Int32} {σ : zS} (ni : Nat) (tx : Nat → Int) (ec : Nat) (eo : Int) (U : zSU) (S : zST) (hh : List zST) (kp : Option zST) (ou : List Nat) (v1 : Int) (v2 : Int) (W : zLW p l s m args meth c E b0 L xs) (hi : i + 6 ≤ L) (hcs : ce + 1 ≤ room_1.cells ∧ sl + 6 ≤ room_1.slots) (hR : zRel σ (zDv.mk ni tx ec eo U S hh kp ou)) (hx1 : xs (i + 1) = (zI v1)) (hx2 : xs (i + 2) = (zI v2)) (hyi0 : -2147483648 ≤ v1 ∧ v1 < 2147483648) (hzi1 : -2147483648 ≤ v2 ∧ v2 < 2147483648) (hno2 : ¬ (0 ≤ v1 ∧ v1 < U.nb))  (kk : zNx p l e s m args below meth c E Q b0 i ce sl) : zV p l e room_1 s m args below meth c 9 E Q ce sl σ 2768 (lwL b0 i E) [] := by
  refine (?_ : zV p l e room_1 s m args below meth c 9 E Q ce sl σ 2768 [(0, .ref b0), (1, .ref (ob E 0)), (2, .ref (ob E 327)), (3, .ref (ob E 339)), (4, .ref (ob E 340)), (5, .int (zI (i : Int)))] [])
  have C := W.2.1
  have hfl := W.1
  have hroom : room_1.cells = 601024 ∧ room_1.slots = 7293034 := ⟨rfl, rfl⟩
  refine zv_aload_n C 1 dL_law_2768 rfl rfl ?_
  refine zv_aload_n C 0 dL_law_2769 rfl rfl ?_
  refine zv_iload C 5 dL_law_2770 rfl ?_
  refine zv_iconst (v := zI 1) C dL_law_2772 rfl ?_
  refine zv_iaddZ C dL_law_2773 ?_
  refine zv_sld (j := i + 1) (v := (zI v1)) C W.2.2.1 W.2.2.2.1 W.2.2.2.2.1 W.2.2.2.2.2 (zI_ix (by omega)) (by omega) hx1 dL_law_2774 ?_
  refine zv_aload_n C 0 dL_law_2775 rfl rfl ?_
  refine zv_iload C 5 dL_law_2776 rfl ?_
  refine zv_iconst (v := zI 2) C dL_law_2778 rfl ?_
  refine zv_iaddZ C dL_law_2779 ?_
  refine zv_sld (j := i + 2) (v := (zI v2)) C W.2.2.1 W.2.2.2.1 W.2.2.2.2.1 W.2.2.2.2.2 (zI_ix (by omega)) (by omega) hx2 dL_law_2780 ?_
  refine zv_aload_n C 3 dL_law_2781 rfl rfl ?_
  refine zv_cH (st := []) C (w_x1_X10_copyTrain hfl E σ U v1 v2 hR.1.2.2.1 (by first | assumption | omega) (by first | assumption | omega) (by first | assumption | omega)) mL_copyTrain kL_316 rfl ⟨rfl, rfl⟩ (show zfit (zrx 10 222) 5 room_1 = true from rfl) (Nat.le_of_ble_eq_true rfl) dL_law_2782 ⟨by exact hcs.1, by exact hcs.2⟩ (fun r2782 τ2782 hp2782 => ?_)
  obtain ⟨hr0, hP9⟩ := hp2782
  refine zv_eqi (y := zI 1) hr0 ?_
  have hF9 : zFr 318 327 σ τ2782 := by rw [hP9]; exact (by first | exact zFr_refl _ _ _ | exact zFr_rW (zFr_refl _ _ _) (by omega) | exact zFr_rW (zFr_rW (zFr_refl _ _ _) (by omega)) (by omega) | exact qW_f _ _ _ _ | exact qM_f _ _ _ _ _ | exact rW2_f _ _ _ _ _ | exact rW3_f _ _ _ _ _ | exact alW_f _ _ _ _ _ | (split <;> first | exact zFr_refl _ _ _ | exact bW_f _ _ _ _) | assumption)
  have hR1 : zRel τ2782 (zDv.mk ni tx ec eo U S hh kp ou) := zRel_c hR hF9
  refine zv_istore (lv' := [(6, .int (zI 1)), (0, .ref b0), (1, .ref (ob E 0)), (2, .ref (ob E 327)), (3, .ref (ob E 339)), (4, .ref (ob E 340)), (5, .int (zI (i : Int)))]) C dL_law_2785  (by decide) rfl ?_
  refine zv_aload_n C 3 dL_law_2787 rfl rfl ?_
  refine zv_aload_n C 1 dL_law_2788 rfl rfl ?_
  refine zv_iload C 6 dL_law_2789 rfl ?_
  refine zv_iconst (v := zI 1) C dL_law_2791 rfl ?_
  refine zv_iaddZ C dL_law_2792 ?_
  refine zv_sld (j := i + 1) (v := (zI v1)) C W.2.2.1 W.2.2.2.1 W.2.2.2.2.1 W.2.2.2.2.2 (zI_ix (by omega)) (by omega) hx1 dL_law_2793 ?_
  refine zv_aload_n C 1 dL_law_2794 rfl rfl ?_
  refine zv_iload C 6 dL_law_2795 rfl ?_
  refine zv_iconst (v := zI 2) C dL_law_2797 rfl ?_
  refine zv_iaddZ C dL_law_2798 ?_
  refine zv_sld (j := i + 2) (v := (zI v2)) C W.2.2.1 W.2.2.2.1 W.2.2.2.2.1 W.2.2.2.2.2 (zI_ix (by omega)) (by omega) hx2 dL_law_2799 ?_
  refine zv_cvi (st := []) C (x1_X11_copyTrain hfl E τ2782 σ U v1 v2 hR1.2.2.2.1 hR.1.2.2.1 (by first | assumption | omega) (by first | assumption | omega) (by first | assumption | omega)) mX11_copyTrain kL_318 (by decide : kd 327 = 10) rfl rfl rfl ⟨rfl, rfl⟩ (show zfit (zrm 3 68) 3 room_1 = true from rfl) (Nat.le_of_ble_eq_true rfl) dL_law_2800 ⟨by omega, by omega⟩ (fun r2800 τ2800 hp2800 => ?_)
  obtain ⟨hr2, hK2⟩ := hp2800
  refine zv_eqi (y := zI 0) hr2 ?_
  have hR2 : zRel τ2800 (zDv.mk ni tx ec eo U S hh kp ou) := zRel_m hR1 hK2
  have ht2 : gI τ2800 327 10 = zI 1 := hK2.2
  have hJ2 : gJ τ2800 339 0 = gJ τ2782 339 0 := hK2.1.2.1 339 0 (by decide)
  have hD2 : gD τ2800 340 0 = gD τ2782 340 0 := hK2.1.2.2 340 0
  refine zv_istore (lv' := [(7, .int (zI 0)), (6, .int (zI 1)), (0, .ref b0), (1, .ref (ob E 0)), (2, .ref (ob E 327)), (3, .ref (ob E 339)), (4, .ref (ob E 340)), (5, .int (zI (i : Int)))]) C dL_law_2803  (by decide) rfl ?_
  refine zv_aload_n C 4 dL_law_2805 rfl rfl ?_
  refine zv_cviD (st := []) C (c_X11_thrown hfl E τ2800) mX11_thrown kL_200 (by decide : kd 327 = 10) rfl rfl rfl ⟨rfl, rfl⟩ (show zfit (zrm 0 0) 1 room_1 = true from rfl) (Nat.le_of_ble_eq_true rfl) dL_law_2806 ⟨by omega, by omega⟩ ?_
  refine zv_eqi (y := (zI 1)) (ht2) ?_
  refine zv_iload C 1 dL_law_2809 rfl ?_
  refine zv_icmp_eqZ (tgt := 2816) C (by omega) (by omega) dL_law_2811 (by decide) (fun h2811 => ?_) (fun h2811 => ?_)
  · skip
    refine zv_iload C 1 dL_law_2816 rfl ?_
    refine zv_if_neZ (tgt := 2833) C (by omega) dL_law_2818 (by decide) (fun h2818 => ?_) (fun h2818 => absurd h2818 (by decide))
    refine zv_goto (tgt := 3624) C dL_law_2833 (by decide) ?_
    refine zv_sub (lv' := [(0, .ref b0), (1, .ref (ob E 0)), (2, .ref (ob E 327)), (3, .ref (ob E 339)), (4, .ref (ob E 340)), (5, .int (zI (i : Int)))]) [2, 3, 4, 5, 6, 7] (zcons rfl (zcons rfl (zcons rfl (zcons rfl (zcons rfl (zcons rfl rfl)))))) ?_
    exact kk _ _ _ _ (by omega) (by omega) hR2
  · exfalso
    omega
set_option maxRecDepth 20000 in
theorem lw_copyTrain_x2_x2 {p : Program} {l : Launch} {e : Env} {s : State} {m : MethodId} {args : Array Value} {below : List Frame} {meth : Method} {c : Code} {E : zE} {Q : State → Prop} {b0 L i ce sl : Nat} {xs : Nat → Int32} {σ : zS} (ni : Nat) (tx : Nat → Int) (ec : Nat) (eo : Int) (U : zSU) (S : zST) (hh : List zST) (kp : Option zST) (ou : List Nat) (v1 : Int) (v2 : Int) (W : zLW p l s m args meth c E b0 L xs) (hi : i + 6 ≤ L) (hcs : ce + 1 ≤ room_1.cells ∧ sl + 6 ≤ room_1.slots) (hR : zRel σ (zDv.mk ni tx ec eo U S hh kp ou)) (hx1 : xs (i + 1) = (zI v1)) (hx2 : xs (i + 2) = (zI v2)) (hyi0 : -2147483648 ≤ v1 ∧ v1 < 2147483648) (hzi1 : -2147483648 ≤ v2 ∧ v2 < 2147483648) (hy2 : 0 ≤ v1 ∧ v1 < U.nb) (hno3 : ¬ (0 ≤ v2 ∧ v2 < U.nb))  (kk : zNx p l e s m args below meth c E Q b0 i ce sl) : zV p l e room_1 s m args below meth c 9 E Q ce sl σ 2768 (lwL b0 i E) [] := by
  refine (?_ : zV p l e room_1 s m args below meth c 9 E Q ce sl σ 2768 [(0, .ref b0), (1, .ref (ob E 0)), (2, .ref (ob E 327)), (3, .ref (ob E 339)), (4, .ref (ob E 340)), (5, .int (zI (i : Int)))] [])
  have C := W.2.1
  have hfl := W.1
  have hroom : room_1.cells = 601024 ∧ room_1.slots = 7293034 := ⟨rfl, rfl⟩
  refine zv_aload_n C 1 dL_law_2768 rfl rfl ?_
  refine zv_aload_n C 0 dL_law_2769 rfl rfl ?_
  refine zv_iload C 5 dL_law_2770 rfl ?_
  refine zv_iconst (v := zI 1) C dL_law_2772 rfl ?_
  refine zv_iaddZ C dL_law_2773 ?_
  refine zv_sld (j := i + 1) (v := (zI v1)) C W.2.2.1 W.2.2.2.1 W.2.2.2.2.1 W.2.2.2.2.2 (zI_ix (by omega)) (by omega) hx1 dL_law_2774 ?_
  refine zv_aload_n C 0 dL_law_2775 rfl rfl ?_
  refine zv_iload C 5 dL_law_2776 rfl ?_
  refine zv_iconst (v := zI 2) C dL_law_2778 rfl ?_
  refine zv_iaddZ C dL_law_2779 ?_
  refine zv_sld (j := i + 2) (v := (zI v2)) C W.2.2.1 W.2.2.2.1 W.2.2.2.2.1 W.2.2.2.2.2 (zI_ix (by omega)) (by omega) hx2 dL_law_2780 ?_
  refine zv_aload_n C 3 dL_law_2781 rfl rfl ?_
  refine zv_cH (st := []) C (w_x2_X10_copyTrain hfl E σ U v1 v2 hR.1.2.2.1 (by first | assumption | omega) (by first | assumption | omega) (by first | assumption | omega) (by first | assumption | omega)) mL_copyTrain kL_316 rfl ⟨rfl, rfl⟩ (show zfit (zrx 10 222) 5 room_1 = true from rfl) (Nat.le_of_ble_eq_true rfl) dL_law_2782 ⟨by exact hcs.1, by exact hcs.2⟩ (fun r2782 τ2782 hp2782 => ?_)
  obtain ⟨hr0, hP9⟩ := hp2782
  refine zv_eqi (y := zI 1) hr0 ?_
  have hF9 : zFr 318 327 σ τ2782 := by rw [hP9]; exact (by first | exact zFr_refl _ _ _ | exact zFr_rW (zFr_refl _ _ _) (by omega) | exact zFr_rW (zFr_rW (zFr_refl _ _ _) (by omega)) (by omega) | exact qW_f _ _ _ _ | exact qM_f _ _ _ _ _ | exact rW2_f _ _ _ _ _ | exact rW3_f _ _ _ _ _ | exact alW_f _ _ _ _ _ | (split <;> first | exact zFr_refl _ _ _ | exact bW_f _ _ _ _) | assumption)
  have hR1 : zRel τ2782 (zDv.mk ni tx ec eo U S hh kp ou) := zRel_c hR hF9
  refine zv_istore (lv' := [(6, .int (zI 1)), (0, .ref b0), (1, .ref (ob E 0)), (2, .ref (ob E 327)), (3, .ref (ob E 339)), (4, .ref (ob E 340)), (5, .int (zI (i : Int)))]) C dL_law_2785  (by decide) rfl ?_
  refine zv_aload_n C 3 dL_law_2787 rfl rfl ?_
  refine zv_aload_n C 1 dL_law_2788 rfl rfl ?_
  refine zv_iload C 6 dL_law_2789 rfl ?_
  refine zv_iconst (v := zI 1) C dL_law_2791 rfl ?_
  refine zv_iaddZ C dL_law_2792 ?_
  refine zv_sld (j := i + 1) (v := (zI v1)) C W.2.2.1 W.2.2.2.1 W.2.2.2.2.1 W.2.2.2.2.2 (zI_ix (by omega)) (by omega) hx1 dL_law_2793 ?_
  refine zv_aload_n C 1 dL_law_2794 rfl rfl ?_
  refine zv_iload C 6 dL_law_2795 rfl ?_
  refine zv_iconst (v := zI 2) C dL_law_2797 rfl ?_
  refine zv_iaddZ C dL_law_2798 ?_
  refine zv_sld (j := i + 2) (v := (zI v2)) C W.2.2.1 W.2.2.2.1 W.2.2.2.2.1 W.2.2.2.2.2 (zI_ix (by omega)) (by omega) hx2 dL_law_2799 ?_
  refine zv_cvi (st := []) C (x2_X11_copyTrain hfl E τ2782 σ U v1 v2 hR1.2.2.2.1 hR.1.2.2.1 (by first | assumption | omega) (by first | assumption | omega) (by first | assumption | omega)) mX11_copyTrain kL_318 (by decide : kd 327 = 10) rfl rfl rfl ⟨rfl, rfl⟩ (show zfit (zrm 3 68) 3 room_1 = true from rfl) (Nat.le_of_ble_eq_true rfl) dL_law_2800 ⟨by omega, by omega⟩ (fun r2800 τ2800 hp2800 => ?_)
  obtain ⟨hr2, hK2⟩ := hp2800
  refine zv_eqi (y := zI 0) hr2 ?_
  have hR2 : zRel τ2800 (zDv.mk ni tx ec eo U S hh kp ou) := zRel_m hR1 hK2
  have ht2 : gI τ2800 327 10 = zI 1 := hK2.2
  have hJ2 : gJ τ2800 339 0 = gJ τ2782 339 0 := hK2.1.2.1 339 0 (by decide)
  have hD2 : gD τ2800 340 0 = gD τ2782 340 0 := hK2.1.2.2 340 0
  refine zv_istore (lv' := [(7, .int (zI 0)), (6, .int (zI 1)), (0, .ref b0), (1, .ref (ob E 0)), (2, .ref (ob E 327)), (3, .ref (ob E 339)), (4, .ref (ob E 340)), (5, .int (zI (i : Int)))]) C dL_law_2803  (by decide) rfl ?_
  refine zv_aload_n C 4 dL_law_2805 rfl rfl ?_
  refine zv_cviD (st := []) C (c_X11_thrown hfl E τ2800) mX11_thrown kL_200 (by decide : kd 327 = 10) rfl rfl rfl ⟨rfl, rfl⟩ (show zfit (zrm 0 0) 1 room_1 = true from rfl) (Nat.le_of_ble_eq_true rfl) dL_law_2806 ⟨by omega, by omega⟩ ?_
  refine zv_eqi (y := (zI 1)) (ht2) ?_
  refine zv_iload C 1 dL_law_2809 rfl ?_
  refine zv_icmp_eqZ (tgt := 2816) C (by omega) (by omega) dL_law_2811 (by decide) (fun h2811 => ?_) (fun h2811 => ?_)
  · skip
    refine zv_iload C 1 dL_law_2816 rfl ?_
    refine zv_if_neZ (tgt := 2833) C (by omega) dL_law_2818 (by decide) (fun h2818 => ?_) (fun h2818 => absurd h2818 (by decide))
    refine zv_goto (tgt := 3624) C dL_law_2833 (by decide) ?_
    refine zv_sub (lv' := [(0, .ref b0), (1, .ref (ob E 0)), (2, .ref (ob E 327)), (3, .ref (ob E 339)), (4, .ref (ob E 340)), (5, .int (zI (i : Int)))]) [2, 3, 4, 5, 6, 7] (zcons rfl (zcons rfl (zcons rfl (zcons rfl (zcons rfl (zcons rfl rfl)))))) ?_
    exact kk _ _ _ _ (by omega) (by omega) hR2
  · exfalso
    omega
set_option maxRecDepth 20000 in
theorem lw_copyTrain_x3_x3 {p : Program} {l : Launch} {e : Env} {s : State} {m : MethodId} {args : Array Value} {below : List Frame} {meth : Method} {c : Code} {E : zE} {Q : State → Prop} {b0 L i ce sl : Nat} {xs : Nat → Int32} {σ : zS} (ni : Nat) (tx : Nat → Int) (ec : Nat) (eo : Int) (U : zSU) (S : zST) (hh : List zST) (kp : Option zST) (ou : List Nat) (v1 : Int) (W : zLW p l s m args meth c E b0 L xs) (hi : i + 6 ≤ L) (hcs : ce + 1 ≤ room_1.cells ∧ sl + 6 ≤ room_1.slots) (hR : zRel σ (zDv.mk ni tx ec eo U S hh kp ou)) (hx1 : xs (i + 1) = (zI v1)) (hx2 : xs (i + 2) = (zI v1)) (hyi0 : -2147483648 ≤ v1 ∧ v1 < 2147483648) (hy1 : 0 ≤ v1 ∧ v1 < U.nb)  (kk : zNx p l e s m args below meth c E Q b0 i ce sl) : zV p l e room_1 s m args below meth c 9 E Q ce sl σ 2768 (lwL b0 i E) [] := by
  refine (?_ : zV p l e room_1 s m args below meth c 9 E Q ce sl σ 2768 [(0, .ref b0), (1, .ref (ob E 0)), (2, .ref (ob E 327)), (3, .ref (ob E 339)), (4, .ref (ob E 340)), (5, .int (zI (i : Int)))] [])
  have C := W.2.1
  have hfl := W.1
  have hroom : room_1.cells = 601024 ∧ room_1.slots = 7293034 := ⟨rfl, rfl⟩
  refine zv_aload_n C 1 dL_law_2768 rfl rfl ?_
  refine zv_aload_n C 0 dL_law_2769 rfl rfl ?_
  refine zv_iload C 5 dL_law_2770 rfl ?_
  refine zv_iconst (v := zI 1) C dL_law_2772 rfl ?_
  refine zv_iaddZ C dL_law_2773 ?_
  refine zv_sld (j := i + 1) (v := (zI v1)) C W.2.2.1 W.2.2.2.1 W.2.2.2.2.1 W.2.2.2.2.2 (zI_ix (by omega)) (by omega) hx1 dL_law_2774 ?_
  refine zv_aload_n C 0 dL_law_2775 rfl rfl ?_
  refine zv_iload C 5 dL_law_2776 rfl ?_
  refine zv_iconst (v := zI 2) C dL_law_2778 rfl ?_
  refine zv_iaddZ C dL_law_2779 ?_
  refine zv_sld (j := i + 2) (v := (zI v1)) C W.2.2.1 W.2.2.2.1 W.2.2.2.2.1 W.2.2.2.2.2 (zI_ix (by omega)) (by omega) hx2 dL_law_2780 ?_
  refine zv_aload_n C 3 dL_law_2781 rfl rfl ?_
  refine zv_cH (st := []) C (w_x3_X10_copyTrain hfl E σ U v1 hR.1.2.2.1 (by first | assumption | omega) (by first | assumption | omega)) mL_copyTrain kL_316 rfl ⟨rfl, rfl⟩ (show zfit (zrx 10 222) 5 room_1 = true from rfl) (Nat.le_of_ble_eq_true rfl) dL_law_2782 ⟨by exact hcs.1, by exact hcs.2⟩ (fun r2782 τ2782 hp2782 => ?_)
  obtain ⟨hr0, hP9⟩ := hp2782
  refine zv_eqi (y := zI 2) hr0 ?_
  have hF9 : zFr 318 327 σ τ2782 := by rw [hP9]; exact (by first | exact zFr_refl _ _ _ | exact zFr_rW (zFr_refl _ _ _) (by omega) | exact zFr_rW (zFr_rW (zFr_refl _ _ _) (by omega)) (by omega) | exact qW_f _ _ _ _ | exact qM_f _ _ _ _ _ | exact rW2_f _ _ _ _ _ | exact rW3_f _ _ _ _ _ | exact alW_f _ _ _ _ _ | (split <;> first | exact zFr_refl _ _ _ | exact bW_f _ _ _ _) | assumption)
  have hR1 : zRel τ2782 (zDv.mk ni tx ec eo U S hh kp ou) := zRel_c hR hF9
  refine zv_istore (lv' := [(6, .int (zI 2)), (0, .ref b0), (1, .ref (ob E 0)), (2, .ref (ob E 327)), (3, .ref (ob E 339)), (4, .ref (ob E 340)), (5, .int (zI (i : Int)))]) C dL_law_2785  (by decide) rfl ?_
  refine zv_aload_n C 3 dL_law_2787 rfl rfl ?_
  refine zv_aload_n C 1 dL_law_2788 rfl rfl ?_
  refine zv_iload C 6 dL_law_2789 rfl ?_
  refine zv_iconst (v := zI 1) C dL_law_2791 rfl ?_
  refine zv_iaddZ C dL_law_2792 ?_
  refine zv_sld (j := i + 1) (v := (zI v1)) C W.2.2.1 W.2.2.2.1 W.2.2.2.2.1 W.2.2.2.2.2 (zI_ix (by omega)) (by omega) hx1 dL_law_2793 ?_
  refine zv_aload_n C 1 dL_law_2794 rfl rfl ?_
  refine zv_iload C 6 dL_law_2795 rfl ?_
  refine zv_iconst (v := zI 2) C dL_law_2797 rfl ?_
  refine zv_iaddZ C dL_law_2798 ?_
  refine zv_sld (j := i + 2) (v := (zI v1)) C W.2.2.1 W.2.2.2.1 W.2.2.2.2.1 W.2.2.2.2.2 (zI_ix (by omega)) (by omega) hx2 dL_law_2799 ?_
  refine zv_cvi (st := []) C (x3_X11_copyTrain hfl E τ2782 σ U v1 hR1.2.2.2.1 hR.1.2.2.1 (by first | assumption | omega)) mX11_copyTrain kL_318 (by decide : kd 327 = 10) rfl rfl rfl ⟨rfl, rfl⟩ (show zfit (zrm 3 68) 3 room_1 = true from rfl) (Nat.le_of_ble_eq_true rfl) dL_law_2800 ⟨by omega, by omega⟩ (fun r2800 τ2800 hp2800 => ?_)
  obtain ⟨hr2, hK2⟩ := hp2800
  refine zv_eqi (y := zI 0) hr2 ?_
  have hR2 : zRel τ2800 (zDv.mk ni tx ec eo U S hh kp ou) := zRel_m hR1 hK2
  have ht2 : gI τ2800 327 10 = zI 2 := hK2.2
  have hJ2 : gJ τ2800 339 0 = gJ τ2782 339 0 := hK2.1.2.1 339 0 (by decide)
  have hD2 : gD τ2800 340 0 = gD τ2782 340 0 := hK2.1.2.2 340 0
  refine zv_istore (lv' := [(7, .int (zI 0)), (6, .int (zI 2)), (0, .ref b0), (1, .ref (ob E 0)), (2, .ref (ob E 327)), (3, .ref (ob E 339)), (4, .ref (ob E 340)), (5, .int (zI (i : Int)))]) C dL_law_2803  (by decide) rfl ?_
  refine zv_aload_n C 4 dL_law_2805 rfl rfl ?_
  refine zv_cviD (st := []) C (c_X11_thrown hfl E τ2800) mX11_thrown kL_200 (by decide : kd 327 = 10) rfl rfl rfl ⟨rfl, rfl⟩ (show zfit (zrm 0 0) 1 room_1 = true from rfl) (Nat.le_of_ble_eq_true rfl) dL_law_2806 ⟨by omega, by omega⟩ ?_
  refine zv_eqi (y := (zI 2)) (ht2) ?_
  refine zv_iload C 1 dL_law_2809 rfl ?_
  refine zv_icmp_eqZ (tgt := 2816) C (by omega) (by omega) dL_law_2811 (by decide) (fun h2811 => ?_) (fun h2811 => ?_)
  · skip
    refine zv_iload C 1 dL_law_2816 rfl ?_
    refine zv_if_neZ (tgt := 2833) C (by omega) dL_law_2818 (by decide) (fun h2818 => ?_) (fun h2818 => absurd h2818 (by decide))
    refine zv_goto (tgt := 3624) C dL_law_2833 (by decide) ?_
    refine zv_sub (lv' := [(0, .ref b0), (1, .ref (ob E 0)), (2, .ref (ob E 327)), (3, .ref (ob E 339)), (4, .ref (ob E 340)), (5, .int (zI (i : Int)))]) [2, 3, 4, 5, 6, 7] (zcons rfl (zcons rfl (zcons rfl (zcons rfl (zcons rfl (zcons rfl rfl)))))) ?_
    exact kk _ _ _ _ (by omega) (by omega) hR2
  · exfalso
    omega
theorem LK_42 {p : Program} {l : Launch} {e : Env} {s : State} {m : MethodId} {args : Array Value} {below : List Frame} {meth : Method} {c : Code} {E : zE} {Q : State → Prop} {b0 L i ce sl : Nat} {xs : Nat → Int32} {σ : zS} (ni : Nat) (tx : Nat → Int) (ec : Nat) (eo : Int) (U : zSU) (S : zST) (hh : List zST) (kp : Option zST) (ou : List Nat) (hFN : zFN) (W : zLW p l s m args meth c E b0 L xs) (hi : i + 6 ≤ L) (hcs : ce + 1 ≤ room_1.cells ∧ sl + 6 ≤ room_1.slots) (hR : zRel σ (zDv.mk ni tx ec eo U S hh kp ou)) (kk : zNx p l e s m args below meth c E Q b0 i ce sl) : zV p l e room_1 s m args below meth c 9 E Q ce sl σ 2768 (lwL b0 i E) [] := by
  obtain ⟨v1, hx1, hv1⟩ := zI_cov (xs (i + 1))
  obtain ⟨v2, hx2, hv2⟩ := zI_cov (xs (i + 2))
  by_cases g1 : 0 ≤ v1 ∧ v1 < U.nb
  case neg =>
    exact lw_copyTrain_x1_x1 _ _ _ _ _ _ _ _ _ _ _ W hi hcs hR hx1 hx2 (by first | assumption | omega) (by first | assumption | omega) (by first | assumption | omega) kk
  by_cases g2 : 0 ≤ v2 ∧ v2 < U.nb
  case neg =>
    exact lw_copyTrain_x2_x2 _ _ _ _ _ _ _ _ _ _ _ W hi hcs hR hx1 hx2 (by first | assumption | omega) (by first | assumption | omega) (by first | assumption | omega) (by first | assumption | omega) kk
  by_cases g3 : ¬ v2 = v1
  case neg =>
    obtain rfl : v2 = v1 := by omega
    exact lw_copyTrain_x3_x3 _ _ _ _ _ _ _ _ _ _ W hi hcs hR hx1 hx2 (by first | assumption | omega) (by first | assumption | omega) kk
  obtain ⟨n1, rfl⟩ := Int.eq_ofNat_of_zero_le (show 0 ≤ v1 by omega)
  obtain ⟨n2, rfl⟩ := Int.eq_ofNat_of_zero_le (show 0 ≤ v2 by omega)
  exact lw_copyTrain_c_c _ _ _ _ _ _ _ _ _ _ _ W hi hcs hR hx1 hx2 (by first | assumption | omega) (by first | assumption | omega) (by first | assumption | omega) kk
