theorem LK_5 {p : Program} {l : Launch} {e : Env} {s : State} {m : MethodId} {args : Array Value} {below : List Frame} {meth : Method} {c : Code} {E : zE} {Q : State → Prop} {b0 L i ce sl : Nat} {xs : Nat → Int32} {σ : zS} (ni : Nat) (tx : Nat → Int) (ec : Nat) (eo : Int) (U : zSU) (S : zST) (hh : List zST) (kp : Option zST) (ou : List Nat) (hFN : zFN) (W : zLW p l s m args meth c E b0 L xs) (hi : i + 6 ≤ L) (hcs : ce + 1 ≤ room_1.cells ∧ sl + 6 ≤ room_1.slots) (hR : zRel σ (zDv.mk ni tx ec eo U S hh kp ou)) (kk : zNx p l e s m args below meth c E Q b0 i ce sl) : zV p l e room_1 s m args below meth c 9 E Q ce sl σ 425 (lwL b0 i E) [] := by
  obtain ⟨v1, hx1, hv1⟩ := zI_cov (xs (i + 1))
  by_cases g1 : 0 ≤ v1 ∧ v1 ≤ 6
  case neg =>
    exact lw_count_x1_x1 _ _ _ _ _ _ _ _ _ _ W hi hcs hR hx1 (by first | assumption | omega) (by first | assumption | omega) kk
  exact lw_count_c_c _ _ _ _ _ _ _ _ _ _ W hi hcs hR hx1 (by first | assumption | omega) kk
/-! the law's cases -/
theorem dL_law_481 : decode cL_law 481 = .ok (.aload_n 1, 1) := by decide +kernel
theorem dL_law_482 : decode cL_law 482 = .ok (.aload_n 0, 1) := by decide +kernel
theorem dL_law_483 : decode cL_law 483 = .ok (.iload 5, 2) := by decide +kernel
theorem dL_law_485 : decode cL_law 485 = .ok (.iconst 1, 1) := by decide +kernel
theorem dL_law_486 : decode cL_law 486 = .ok (.iadd, 1) := by decide +kernel
theorem dL_law_487 : decode cL_law 487 = .ok (.iaload, 1) := by decide +kernel
theorem dL_law_488 : decode cL_law 488 = .ok (.aload_n 0, 1) := by decide +kernel
theorem dL_law_489 : decode cL_law 489 = .ok (.iload 5, 2) := by decide +kernel
theorem dL_law_491 : decode cL_law 491 = .ok (.iconst 2, 1) := by decide +kernel
theorem dL_law_492 : decode cL_law 492 = .ok (.iadd, 1) := by decide +kernel
theorem dL_law_493 : decode cL_law 493 = .ok (.iaload, 1) := by decide +kernel
theorem dL_law_494 : decode cL_law 494 = .ok (.aload_n 3, 1) := by decide +kernel
theorem dL_law_495 : decode cL_law 495 = .ok (.invokestatic 203, 3) := by decide +kernel
theorem dL_law_498 : decode cL_law 498 = .ok (.istore 6, 2) := by decide +kernel
theorem dL_law_500 : decode cL_law 500 = .ok (.aload_n 2, 1) := by decide +kernel
theorem dL_law_501 : decode cL_law 501 = .ok (.aload_n 0, 1) := by decide +kernel
theorem dL_law_502 : decode cL_law 502 = .ok (.iload 5, 2) := by decide +kernel
theorem dL_law_504 : decode cL_law 504 = .ok (.iconst 1, 1) := by decide +kernel
theorem dL_law_505 : decode cL_law 505 = .ok (.iadd, 1) := by decide +kernel
theorem dL_law_506 : decode cL_law 506 = .ok (.iaload, 1) := by decide +kernel
theorem dL_law_507 : decode cL_law 507 = .ok (.aload_n 0, 1) := by decide +kernel
theorem dL_law_508 : decode cL_law 508 = .ok (.iload 5, 2) := by decide +kernel
theorem dL_law_510 : decode cL_law 510 = .ok (.iconst 2, 1) := by decide +kernel
theorem dL_law_511 : decode cL_law 511 = .ok (.iadd, 1) := by decide +kernel
theorem dL_law_512 : decode cL_law 512 = .ok (.iaload, 1) := by decide +kernel
theorem dL_law_513 : decode cL_law 513 = .ok (.invokevirtual 206, 3) := by decide +kernel
theorem dL_law_516 : decode cL_law 516 = .ok (.istore 7, 2) := by decide +kernel
theorem dL_law_518 : decode cL_law 518 = .ok (.aload_n 2, 1) := by decide +kernel
theorem dL_law_519 : decode cL_law 519 = .ok (.invokevirtual 200, 3) := by decide +kernel
theorem dL_law_522 : decode cL_law 522 = .ok (.iload 6, 2) := by decide +kernel
theorem dL_law_524 : decode cL_law 524 = .ok (.if_icmp .eq 5, 3) := by decide +kernel
theorem dL_law_527 : decode cL_law 527 = .ok (.iconst 0, 1) := by decide +kernel
theorem dL_law_528 : decode cL_law 528 = .ok (.ireturn, 1) := by decide +kernel
theorem dL_law_529 : decode cL_law 529 = .ok (.iload 6, 2) := by decide +kernel
theorem dL_law_531 : decode cL_law 531 = .ok (.ifCond .ne 15, 3) := by decide +kernel
theorem dL_law_534 : decode cL_law 534 = .ok (.aload_n 3, 1) := by decide +kernel
theorem dL_law_535 : decode cL_law 535 = .ok (.iconst 0, 1) := by decide +kernel
theorem dL_law_536 : decode cL_law 536 = .ok (.laload, 1) := by decide +kernel
theorem dL_law_537 : decode cL_law 537 = .ok (.iload 7, 2) := by decide +kernel
theorem dL_law_539 : decode cL_law 539 = .ok (.i2l, 1) := by decide +kernel
theorem dL_law_540 : decode cL_law 540 = .ok (.lcmp, 1) := by decide +kernel
theorem dL_law_541 : decode cL_law 541 = .ok (.ifCond .eq 5, 3) := by decide +kernel
theorem dL_law_544 : decode cL_law 544 = .ok (.iconst 0, 1) := by decide +kernel
theorem dL_law_545 : decode cL_law 545 = .ok (.ireturn, 1) := by decide +kernel
theorem dL_law_546 : decode cL_law 546 = .ok (.goto 3078, 3) := by decide +kernel
set_option maxRecDepth 20000 in
theorem lw_body_c_c0 {p : Program} {l : Launch} {e : Env} {s : State} {m : MethodId} {args : Array Value} {below : List Frame} {meth : Method} {c : Code} {E : zE} {Q : State → Prop} {b0 L i ce sl : Nat} {xs : Nat → Int32} {σ : zS} (ni : Nat) (tx : Nat → Int) (ec : Nat) (eo : Int) (U : zSU) (S : zST) (hh : List zST) (kp : Option zST) (ou : List Nat) (n1 : Nat) (W : zLW p l s m args meth c E b0 L xs) (hi : i + 6 ≤ L) (hcs : ce + 1 ≤ room_1.cells ∧ sl + 6 ≤ room_1.slots) (hR : zRel σ (zDv.mk ni tx ec eo U S hh kp ou)) (hx1 : xs (i + 1) = (zI (n1 : Int))) (hx2 : xs (i + 2) = (zI 0)) (hi0 : n1 < U.nb) (hy1 : 0 ≤ 0 ∧ 0 ≤ 5)  (kk : zNx p l e s m args below meth c E Q b0 i ce sl) : zV p l e room_1 s m args below meth c 9 E Q ce sl σ 481 (lwL b0 i E) [] := by
  refine (?_ : zV p l e room_1 s m args below meth c 9 E Q ce sl σ 481 [(0, .ref b0), (1, .ref (ob E 0)), (2, .ref (ob E 327)), (3, .ref (ob E 339)), (4, .ref (ob E 340)), (5, .int (zI (i : Int)))] [])
  have C := W.2.1
  have hfl := W.1
  have hroom : room_1.cells = 601024 ∧ room_1.slots = 7293034 := ⟨rfl, rfl⟩
  refine zv_aload_n C 1 dL_law_481 rfl rfl ?_
  refine zv_aload_n C 0 dL_law_482 rfl rfl ?_
  refine zv_iload C 5 dL_law_483 rfl ?_
  refine zv_iconst (v := zI 1) C dL_law_485 rfl ?_
  refine zv_iaddZ C dL_law_486 ?_
  refine zv_sld (j := i + 1) (v := (zI (n1 : Int))) C W.2.2.1 W.2.2.2.1 W.2.2.2.2.1 W.2.2.2.2.2 (zI_ix (by omega)) (by omega) hx1 dL_law_487 ?_
  refine zv_aload_n C 0 dL_law_488 rfl rfl ?_
  refine zv_iload C 5 dL_law_489 rfl ?_
  refine zv_iconst (v := zI 2) C dL_law_491 rfl ?_
  refine zv_iaddZ C dL_law_492 ?_
  refine zv_sld (j := i + 2) (v := (zI 0)) C W.2.2.1 W.2.2.2.1 W.2.2.2.2.1 W.2.2.2.2.2 (zI_ix (by omega)) (by omega) hx2 dL_law_493 ?_
  refine zv_aload_n C 3 dL_law_494 rfl rfl ?_
  refine zv_cH (st := []) C (w_c_X10_body hfl E σ U S n1 0 hR.1.2.2.1 hR.1.2.2.2.1.1 (by first | assumption | omega) (by first | assumption | omega)) mL_body kL_203 rfl ⟨rfl, rfl⟩ (show zfit (zrm 3 67) 5 room_1 = true from rfl) (Nat.le_of_ble_eq_true rfl) dL_law_495 ⟨by omega, by omega⟩ (fun r495 τ495 hp495 => ?_)
  obtain ⟨hr0, v9, υ9, hP9, hτ9⟩ := hp495
  refine zv_eqi (y := zI 0) hr0 ?_
  obtain ⟨hv9, hW9⟩ := hP9
  have hF9 : zFr 318 327 σ υ9 := by first | exact hW9 | (rw [hW9]; exact (by first | exact zFr_refl _ _ _ | exact zFr_rW (zFr_refl _ _ _) (by omega) | exact zFr_rW (zFr_rW (zFr_refl _ _ _) (by omega)) (by omega) | exact qW_f _ _ _ _ | exact qM_f _ _ _ _ _ | exact rW2_f _ _ _ _ _ | exact rW3_f _ _ _ _ _ | exact alW_f _ _ _ _ _ | (split <;> first | exact zFr_refl _ _ _ | exact bW_f _ _ _ _) | assumption))
  have hR1 : zRel τ495 (zDv.mk ni tx ec eo U S hh kp ou) := by rw [hτ9]; exact zRel_J (zRel_c hR hF9) _
  have ho9 : gJ τ495 339 0 = v9.toInt64 := by rw [hτ9, gJ_sJ, if_pos ⟨rfl, rfl⟩]
  rw [hv9] at ho9
  refine zv_istore (lv' := [(6, .int (zI 0)), (0, .ref b0), (1, .ref (ob E 0)), (2, .ref (ob E 327)), (3, .ref (ob E 339)), (4, .ref (ob E 340)), (5, .int (zI (i : Int)))]) C dL_law_498  (by decide) rfl ?_
  refine zv_aload_n C 3 dL_law_500 rfl rfl ?_
  refine zv_aload_n C 1 dL_law_501 rfl rfl ?_
  refine zv_iload C 6 dL_law_502 rfl ?_
  refine zv_iconst (v := zI 1) C dL_law_504 rfl ?_
  refine zv_iaddZ C dL_law_505 ?_
  refine zv_sld (j := i + 1) (v := (zI (n1 : Int))) C W.2.2.1 W.2.2.2.1 W.2.2.2.2.1 W.2.2.2.2.2 (zI_ix (by omega)) (by omega) hx1 dL_law_506 ?_
  refine zv_aload_n C 1 dL_law_507 rfl rfl ?_
  refine zv_iload C 6 dL_law_508 rfl ?_
  refine zv_iconst (v := zI 2) C dL_law_510 rfl ?_
  refine zv_iaddZ C dL_law_511 ?_
  refine zv_sld (j := i + 2) (v := (zI 0)) C W.2.2.1 W.2.2.2.1 W.2.2.2.2.1 W.2.2.2.2.2 (zI_ix (by omega)) (by omega) hx2 dL_law_512 ?_
  refine zv_cvi (st := []) C (c0_X11_body hfl E τ495 σ U S n1 hR1.2.2.2.1 hR.1.2.2.1 hR1.2.2.2.2.2.1.1 hR.1.2.2.2.1.1 (by first | assumption | omega)) mX11_body kL_206 (by decide : kd 327 = 10) rfl rfl rfl ⟨rfl, rfl⟩ (show zfit (zrm 2 46) 3 room_1 = true from rfl) (Nat.le_of_ble_eq_true rfl) dL_law_513 ⟨by omega, by omega⟩ (fun r513 τ513 hp513 => ?_)
  obtain ⟨hr2, hK2⟩ := hp513
  refine zv_eqi (y := zI (dBod U S n1 0)) hr2 ?_
  have hR2 : zRel τ513 (zDv.mk ni tx ec eo U S hh kp ou) := zRel_m hR1 hK2
  have ht2 : gI τ513 327 10 = zI 0 := hK2.2
  have hJ2 : gJ τ513 339 0 = gJ τ495 339 0 := hK2.1.2.1 339 0 (by decide)
  have hD2 : gD τ513 340 0 = gD τ495 340 0 := hK2.1.2.2 340 0
  refine zv_istore (lv' := [(7, .int (zI (dBod U S n1 0))), (6, .int (zI 0)), (0, .ref b0), (1, .ref (ob E 0)), (2, .ref (ob E 327)), (3, .ref (ob E 339)), (4, .ref (ob E 340)), (5, .int (zI (i : Int)))]) C dL_law_516  (by decide) rfl ?_
  refine zv_aload_n C 4 dL_law_518 rfl rfl ?_
  refine zv_cviD (st := []) C (c_X11_thrown hfl E τ513) mX11_thrown kL_200 (by decide : kd 327 = 10) rfl rfl rfl ⟨rfl, rfl⟩ (show zfit (zrm 0 0) 1 room_1 = true from rfl) (Nat.le_of_ble_eq_true rfl) dL_law_519 ⟨by omega, by omega⟩ ?_
  refine zv_eqi (y := (zI 0)) (ht2) ?_
  refine zv_iload C 1 dL_law_522 rfl ?_
  refine zv_icmp_eqZ (tgt := 529) C (by omega) (by omega) dL_law_524 (by decide) (fun h524 => ?_) (fun h524 => ?_)
  · skip
    refine zv_iload C 1 dL_law_529 rfl ?_
    refine zv_if_neZ (tgt := 546) C (by omega) dL_law_531 (by decide) (fun h531 => absurd h531 (by decide)) (fun h531 => ?_)
    refine zv_aload_n C 5 dL_law_534 rfl rfl ?_
    refine zv_iconst (v := zI 0) C dL_law_535 rfl ?_
    refine zv_lald (j := 0) C (by decide : kd 339 = _) (zI_ix (by omega)) (by decide) dL_law_536 ?_
    refine zv_eql (y := ((zI (dBod U S n1 0)).toInt64)) (hJ2.trans ho9) ?_
    refine zv_iload C 0 dL_law_537 rfl ?_
    refine zv_i2l C dL_law_539 ?_
    refine zv_lc_eq (tgt := 546) C dL_law_540 dL_law_541 (by decide) (fun h540 => ?_) (fun h540 => ?_)
    · skip
      refine zv_goto (tgt := 3624) C dL_law_546 (by decide) ?_
      refine zv_sub (lv' := [(0, .ref b0), (1, .ref (ob E 0)), (2, .ref (ob E 327)), (3, .ref (ob E 339)), (4, .ref (ob E 340)), (5, .int (zI (i : Int)))]) [2, 3, 4, 5, 6, 7] (zcons rfl (zcons rfl (zcons rfl (zcons rfl (zcons rfl (zcons rfl rfl)))))) ?_
      exact kk _ _ _ _ (by omega) (by omega) hR2
    · exfalso
      exact h540 rfl
  · exfalso
    omega
set_option maxRecDepth 20000 in
theorem lw_body_c_c1 {p : Program} {l : Launch} {e : Env} {s : State} {m : MethodId} {args : Array Value} {below : List Frame} {meth : Method} {c : Code} {E : zE} {Q : State → Prop} {b0 L i ce sl : Nat} {xs : Nat → Int32} {σ : zS} (ni : Nat) (tx : Nat → Int) (ec : Nat) (eo : Int) (U : zSU) (S : zST) (hh : List zST) (kp : Option zST) (ou : List Nat) (n1 : Nat) (W : zLW p l s m args meth c E b0 L xs) (hi : i + 6 ≤ L) (hcs : ce + 1 ≤ room_1.cells ∧ sl + 6 ≤ room_1.slots) (hR : zRel σ (zDv.mk ni tx ec eo U S hh kp ou)) (hx1 : xs (i + 1) = (zI (n1 : Int))) (hx2 : xs (i + 2) = (zI 1)) (hi0 : n1 < U.nb) (hy1 : 0 ≤ 1 ∧ 1 ≤ 5)  (kk : zNx p l e s m args below meth c E Q b0 i ce sl) : zV p l e room_1 s m args below meth c 9 E Q ce sl σ 481 (lwL b0 i E) [] := by
  refine (?_ : zV p l e room_1 s m args below meth c 9 E Q ce sl σ 481 [(0, .ref b0), (1, .ref (ob E 0)), (2, .ref (ob E 327)), (3, .ref (ob E 339)), (4, .ref (ob E 340)), (5, .int (zI (i : Int)))] [])
  have C := W.2.1
  have hfl := W.1
  have hroom : room_1.cells = 601024 ∧ room_1.slots = 7293034 := ⟨rfl, rfl⟩
  refine zv_aload_n C 1 dL_law_481 rfl rfl ?_
  refine zv_aload_n C 0 dL_law_482 rfl rfl ?_
  refine zv_iload C 5 dL_law_483 rfl ?_
  refine zv_iconst (v := zI 1) C dL_law_485 rfl ?_
  refine zv_iaddZ C dL_law_486 ?_
  refine zv_sld (j := i + 1) (v := (zI (n1 : Int))) C W.2.2.1 W.2.2.2.1 W.2.2.2.2.1 W.2.2.2.2.2 (zI_ix (by omega)) (by omega) hx1 dL_law_487 ?_
  refine zv_aload_n C 0 dL_law_488 rfl rfl ?_
  refine zv_iload C 5 dL_law_489 rfl ?_
  refine zv_iconst (v := zI 2) C dL_law_491 rfl ?_
  refine zv_iaddZ C dL_law_492 ?_
  refine zv_sld (j := i + 2) (v := (zI 1)) C W.2.2.1 W.2.2.2.1 W.2.2.2.2.1 W.2.2.2.2.2 (zI_ix (by omega)) (by omega) hx2 dL_law_493 ?_
  refine zv_aload_n C 3 dL_law_494 rfl rfl ?_
  refine zv_cH (st := []) C (w_c_X10_body hfl E σ U S n1 1 hR.1.2.2.1 hR.1.2.2.2.1.1 (by first | assumption | omega) (by first | assumption | omega)) mL_body kL_203 rfl ⟨rfl, rfl⟩ (show zfit (zrm 3 67) 5 room_1 = true from rfl) (Nat.le_of_ble_eq_true rfl) dL_law_495 ⟨by omega, by omega⟩ (fun r495 τ495 hp495 => ?_)
  obtain ⟨hr0, v9, υ9, hP9, hτ9⟩ := hp495
  refine zv_eqi (y := zI 0) hr0 ?_
  obtain ⟨hv9, hW9⟩ := hP9
  have hF9 : zFr 318 327 σ υ9 := by first | exact hW9 | (rw [hW9]; exact (by first | exact zFr_refl _ _ _ | exact zFr_rW (zFr_refl _ _ _) (by omega) | exact zFr_rW (zFr_rW (zFr_refl _ _ _) (by omega)) (by omega) | exact qW_f _ _ _ _ | exact qM_f _ _ _ _ _ | exact rW2_f _ _ _ _ _ | exact rW3_f _ _ _ _ _ | exact alW_f _ _ _ _ _ | (split <;> first | exact zFr_refl _ _ _ | exact bW_f _ _ _ _) | assumption))
  have hR1 : zRel τ495 (zDv.mk ni tx ec eo U S hh kp ou) := by rw [hτ9]; exact zRel_J (zRel_c hR hF9) _
  have ho9 : gJ τ495 339 0 = v9.toInt64 := by rw [hτ9, gJ_sJ, if_pos ⟨rfl, rfl⟩]
  rw [hv9] at ho9
  refine zv_istore (lv' := [(6, .int (zI 0)), (0, .ref b0), (1, .ref (ob E 0)), (2, .ref (ob E 327)), (3, .ref (ob E 339)), (4, .ref (ob E 340)), (5, .int (zI (i : Int)))]) C dL_law_498  (by decide) rfl ?_
  refine zv_aload_n C 3 dL_law_500 rfl rfl ?_
  refine zv_aload_n C 1 dL_law_501 rfl rfl ?_
  refine zv_iload C 6 dL_law_502 rfl ?_
  refine zv_iconst (v := zI 1) C dL_law_504 rfl ?_
  refine zv_iaddZ C dL_law_505 ?_
  refine zv_sld (j := i + 1) (v := (zI (n1 : Int))) C W.2.2.1 W.2.2.2.1 W.2.2.2.2.1 W.2.2.2.2.2 (zI_ix (by omega)) (by omega) hx1 dL_law_506 ?_
  refine zv_aload_n C 1 dL_law_507 rfl rfl ?_
  refine zv_iload C 6 dL_law_508 rfl ?_
  refine zv_iconst (v := zI 2) C dL_law_510 rfl ?_
  refine zv_iaddZ C dL_law_511 ?_
  refine zv_sld (j := i + 2) (v := (zI 1)) C W.2.2.1 W.2.2.2.1 W.2.2.2.2.1 W.2.2.2.2.2 (zI_ix (by omega)) (by omega) hx2 dL_law_512 ?_
  refine zv_cvi (st := []) C (c1_X11_body hfl E τ495 σ U S n1 hR1.2.2.2.1 hR.1.2.2.1 hR1.2.2.2.2.2.1.1 hR.1.2.2.2.1.1 (by first | assumption | omega)) mX11_body kL_206 (by decide : kd 327 = 10) rfl rfl rfl ⟨rfl, rfl⟩ (show zfit (zrm 2 46) 3 room_1 = true from rfl) (Nat.le_of_ble_eq_true rfl) dL_law_513 ⟨by omega, by omega⟩ (fun r513 τ513 hp513 => ?_)
  obtain ⟨hr2, hK2⟩ := hp513
  refine zv_eqi (y := zI (dBod U S n1 1)) hr2 ?_
  have hR2 : zRel τ513 (zDv.mk ni tx ec eo U S hh kp ou) := zRel_m hR1 hK2
  have ht2 : gI τ513 327 10 = zI 0 := hK2.2
  have hJ2 : gJ τ513 339 0 = gJ τ495 339 0 := hK2.1.2.1 339 0 (by decide)
  have hD2 : gD τ513 340 0 = gD τ495 340 0 := hK2.1.2.2 340 0
  refine zv_istore (lv' := [(7, .int (zI (dBod U S n1 1))), (6, .int (zI 0)), (0, .ref b0), (1, .ref (ob E 0)), (2, .ref (ob E 327)), (3, .ref (ob E 339)), (4, .ref (ob E 340)), (5, .int (zI (i : Int)))]) C dL_law_516  (by decide) rfl ?_
  refine zv_aload_n C 4 dL_law_518 rfl rfl ?_
  refine zv_cviD (st := []) C (c_X11_thrown hfl E τ513) mX11_thrown kL_200 (by decide : kd 327 = 10) rfl rfl rfl ⟨rfl, rfl⟩ (show zfit (zrm 0 0) 1 room_1 = true from rfl) (Nat.le_of_ble_eq_true rfl) dL_law_519 ⟨by omega, by omega⟩ ?_
  refine zv_eqi (y := (zI 0)) (ht2) ?_
  refine zv_iload C 1 dL_law_522 rfl ?_
  refine zv_icmp_eqZ (tgt := 529) C (by omega) (by omega) dL_law_524 (by decide) (fun h524 => ?_) (fun h524 => ?_)
  · skip
    refine zv_iload C 1 dL_law_529 rfl ?_
    refine zv_if_neZ (tgt := 546) C (by omega) dL_law_531 (by decide) (fun h531 => absurd h531 (by decide)) (fun h531 => ?_)
    refine zv_aload_n C 5 dL_law_534 rfl rfl ?_
    refine zv_iconst (v := zI 0) C dL_law_535 rfl ?_
    refine zv_lald (j := 0) C (by decide : kd 339 = _) (zI_ix (by omega)) (by decide) dL_law_536 ?_
    refine zv_eql (y := ((zI (dBod U S n1 1)).toInt64)) (hJ2.trans ho9) ?_
    refine zv_iload C 0 dL_law_537 rfl ?_
    refine zv_i2l C dL_law_539 ?_
    refine zv_lc_eq (tgt := 546) C dL_law_540 dL_law_541 (by decide) (fun h540 => ?_) (fun h540 => ?_)
    · skip
      refine zv_goto (tgt := 3624) C dL_law_546 (by decide) ?_
      refine zv_sub (lv' := [(0, .ref b0), (1, .ref (ob E 0)), (2, .ref (ob E 327)), (3, .ref (ob E 339)), (4, .ref (ob E 340)), (5, .int (zI (i : Int)))]) [2, 3, 4, 5, 6, 7] (zcons rfl (zcons rfl (zcons rfl (zcons rfl (zcons rfl (zcons rfl rfl)))))) ?_
      exact kk _ _ _ _ (by omega) (by omega) hR2
    · exfalso
      exact h540 rfl
  · exfalso
    omega
set_option maxRecDepth 20000 in
theorem lw_body_c_c2 {p : Program} {l : Launch} {e : Env} {s : State} {m : MethodId} {args : Array Value} {below : List Frame} {meth : Method} {c : Code} {E : zE} {Q : State → Prop} {b0 L i ce sl : Nat} {xs : Nat → Int32} {σ : zS} (ni : Nat) (tx : Nat → Int) (ec : Nat) (eo : Int) (U : zSU) (S : zST) (hh : List zST) (kp : Option zST) (ou : List Nat) (n1 : Nat) (W : zLW p l s m args meth c E b0 L xs) (hi : i + 6 ≤ L) (hcs : ce + 1 ≤ room_1.cells ∧ sl + 6 ≤ room_1.slots) (hR : zRel σ (zDv.mk ni tx ec eo U S hh kp ou)) (hx1 : xs (i + 1) = (zI (n1 : Int))) (hx2 : xs (i + 2) = (zI 2)) (hi0 : n1 < U.nb) (hy1 : 0 ≤ 2 ∧ 2 ≤ 5)  (kk : zNx p l e s m args below meth c E Q b0 i ce sl) : zV p l e room_1 s m args below meth c 9 E Q ce sl σ 481 (lwL b0 i E) [] := by
  refine (?_ : zV p l e room_1 s m args below meth c 9 E Q ce sl σ 481 [(0, .ref b0), (1, .ref (ob E 0)), (2, .ref (ob E 327)), (3, .ref (ob E 339)), (4, .ref (ob E 340)), (5, .int (zI (i : Int)))] [])
  have C := W.2.1
  have hfl := W.1
  have hroom : room_1.cells = 601024 ∧ room_1.slots = 7293034 := ⟨rfl, rfl⟩
  refine zv_aload_n C 1 dL_law_481 rfl rfl ?_
  refine zv_aload_n C 0 dL_law_482 rfl rfl ?_
  refine zv_iload C 5 dL_law_483 rfl ?_
  refine zv_iconst (v := zI 1) C dL_law_485 rfl ?_
  refine zv_iaddZ C dL_law_486 ?_
  refine zv_sld (j := i + 1) (v := (zI (n1 : Int))) C W.2.2.1 W.2.2.2.1 W.2.2.2.2.1 W.2.2.2.2.2 (zI_ix (by omega)) (by omega) hx1 dL_law_487 ?_
  refine zv_aload_n C 0 dL_law_488 rfl rfl ?_
  refine zv_iload C 5 dL_law_489 rfl ?_
  refine zv_iconst (v := zI 2) C dL_law_491 rfl ?_
  refine zv_iaddZ C dL_law_492 ?_
  refine zv_sld (j := i + 2) (v := (zI 2)) C W.2.2.1 W.2.2.2.1 W.2.2.2.2.1 W.2.2.2.2.2 (zI_ix (by omega)) (by omega) hx2 dL_law_493 ?_
  refine zv_aload_n C 3 dL_law_494 rfl rfl ?_
  refine zv_cH (st := []) C (w_c_X10_body hfl E σ U S n1 2 hR.1.2.2.1 hR.1.2.2.2.1.1 (by first | assumption | omega) (by first | assumption | omega)) mL_body kL_203 rfl ⟨rfl, rfl⟩ (show zfit (zrm 3 67) 5 room_1 = true from rfl) (Nat.le_of_ble_eq_true rfl) dL_law_495 ⟨by omega, by omega⟩ (fun r495 τ495 hp495 => ?_)
  obtain ⟨hr0, v9, υ9, hP9, hτ9⟩ := hp495
  refine zv_eqi (y := zI 0) hr0 ?_
  obtain ⟨hv9, hW9⟩ := hP9
  have hF9 : zFr 318 327 σ υ9 := by first | exact hW9 | (rw [hW9]; exact (by first | exact zFr_refl _ _ _ | exact zFr_rW (zFr_refl _ _ _) (by omega) | exact zFr_rW (zFr_rW (zFr_refl _ _ _) (by omega)) (by omega) | exact qW_f _ _ _ _ | exact qM_f _ _ _ _ _ | exact rW2_f _ _ _ _ _ | exact rW3_f _ _ _ _ _ | exact alW_f _ _ _ _ _ | (split <;> first | exact zFr_refl _ _ _ | exact bW_f _ _ _ _) | assumption))
  have hR1 : zRel τ495 (zDv.mk ni tx ec eo U S hh kp ou) := by rw [hτ9]; exact zRel_J (zRel_c hR hF9) _
  have ho9 : gJ τ495 339 0 = v9.toInt64 := by rw [hτ9, gJ_sJ, if_pos ⟨rfl, rfl⟩]
  rw [hv9] at ho9
  refine zv_istore (lv' := [(6, .int (zI 0)), (0, .ref b0), (1, .ref (ob E 0)), (2, .ref (ob E 327)), (3, .ref (ob E 339)), (4, .ref (ob E 340)), (5, .int (zI (i : Int)))]) C dL_law_498  (by decide) rfl ?_
  refine zv_aload_n C 3 dL_law_500 rfl rfl ?_
  refine zv_aload_n C 1 dL_law_501 rfl rfl ?_
  refine zv_iload C 6 dL_law_502 rfl ?_
  refine zv_iconst (v := zI 1) C dL_law_504 rfl ?_
  refine zv_iaddZ C dL_law_505 ?_
  refine zv_sld (j := i + 1) (v := (zI (n1 : Int))) C W.2.2.1 W.2.2.2.1 W.2.2.2.2.1 W.2.2.2.2.2 (zI_ix (by omega)) (by omega) hx1 dL_law_506 ?_
  refine zv_aload_n C 1 dL_law_507 rfl rfl ?_
  refine zv_iload C 6 dL_law_508 rfl ?_
  refine zv_iconst (v := zI 2) C dL_law_510 rfl ?_
  refine zv_iaddZ C dL_law_511 ?_
  refine zv_sld (j := i + 2) (v := (zI 2)) C W.2.2.1 W.2.2.2.1 W.2.2.2.2.1 W.2.2.2.2.2 (zI_ix (by omega)) (by omega) hx2 dL_law_512 ?_
  refine zv_cvi (st := []) C (c2_X11_body hfl E τ495 σ U S n1 hR1.2.2.2.1 hR.1.2.2.1 hR1.2.2.2.2.2.1.1 hR.1.2.2.2.1.1 (by first | assumption | omega)) mX11_body kL_206 (by decide : kd 327 = 10) rfl rfl rfl ⟨rfl, rfl⟩ (show zfit (zrm 2 46) 3 room_1 = true from rfl) (Nat.le_of_ble_eq_true rfl) dL_law_513 ⟨by omega, by omega⟩ (fun r513 τ513 hp513 => ?_)
  obtain ⟨hr2, hK2⟩ := hp513
  refine zv_eqi (y := zI (dBod U S n1 2)) hr2 ?_
  have hR2 : zRel τ513 (zDv.mk ni tx ec eo U S hh kp ou) := zRel_m hR1 hK2
  have ht2 : gI τ513 327 10 = zI 0 := hK2.2
  have hJ2 : gJ τ513 339 0 = gJ τ495 339 0 := hK2.1.2.1 339 0 (by decide)
  have hD2 : gD τ513 340 0 = gD τ495 340 0 := hK2.1.2.2 340 0
  refine zv_istore (lv' := [(7, .int (zI (dBod U S n1 2))), (6, .int (zI 0)), (0, .ref b0), (1, .ref (ob E 0)), (2, .ref (ob E 327)), (3, .ref (ob E 339)), (4, .ref (ob E 340)), (5, .int (zI (i : Int)))]) C dL_law_516  (by decide) rfl ?_
  refine zv_aload_n C 4 dL_law_518 rfl rfl ?_
  refine zv_cviD (st := []) C (c_X11_thrown hfl E τ513) mX11_thrown kL_200 (by decide : kd 327 = 10) rfl rfl rfl ⟨rfl, rfl⟩ (show zfit (zrm 0 0) 1 room_1 = true from rfl) (Nat.le_of_ble_eq_true rfl) dL_law_519 ⟨by omega, by omega⟩ ?_
  refine zv_eqi (y := (zI 0)) (ht2) ?_
  refine zv_iload C 1 dL_law_522 rfl ?_
  refine zv_icmp_eqZ (tgt := 529) C (by omega) (by omega) dL_law_524 (by decide) (fun h524 => ?_) (fun h524 => ?_)
  · skip
    refine zv_iload C 1 dL_law_529 rfl ?_
    refine zv_if_neZ (tgt := 546) C (by omega) dL_law_531 (by decide) (fun h531 => absurd h531 (by decide)) (fun h531 => ?_)
    refine zv_aload_n C 5 dL_law_534 rfl rfl ?_
    refine zv_iconst (v := zI 0) C dL_law_535 rfl ?_
    refine zv_lald (j := 0) C (by decide : kd 339 = _) (zI_ix (by omega)) (by decide) dL_law_536 ?_
    refine zv_eql (y := ((zI (dBod U S n1 2)).toInt64)) (hJ2.trans ho9) ?_
    refine zv_iload C 0 dL_law_537 rfl ?_
    refine zv_i2l C dL_law_539 ?_
    refine zv_lc_eq (tgt := 546) C dL_law_540 dL_law_541 (by decide) (fun h540 => ?_) (fun h540 => ?_)
    · skip
      refine zv_goto (tgt := 3624) C dL_law_546 (by decide) ?_
      refine zv_sub (lv' := [(0, .ref b0), (1, .ref (ob E 0)), (2, .ref (ob E 327)), (3, .ref (ob E 339)), (4, .ref (ob E 340)), (5, .int (zI (i : Int)))]) [2, 3, 4, 5, 6, 7] (zcons rfl (zcons rfl (zcons rfl (zcons rfl (zcons rfl (zcons rfl rfl)))))) ?_
      exact kk _ _ _ _ (by omega) (by omega) hR2
    · exfalso
      exact h540 rfl
  · exfalso
    omega
set_option maxRecDepth 20000 in
theorem lw_body_c_c3 {p : Program} {l : Launch} {e : Env} {s : State} {m : MethodId} {args : Array Value} {below : List Frame} {meth : Method} {c : Code} {E : zE} {Q : State → Prop} {b0 L i ce sl : Nat} {xs : Nat → Int32} {σ : zS} (ni : Nat) (tx : Nat → Int) (ec : Nat) (eo : Int) (U : zSU) (S : zST) (hh : List zST) (kp : Option zST) (ou : List Nat) (n1 : Nat) (v2 : Int) (W : zLW p l s m args meth c E b0 L xs) (hi : i + 6 ≤ L) (hcs : ce + 1 ≤ room_1.cells ∧ sl + 6 ≤ room_1.slots) (hR : zRel σ (zDv.mk ni tx ec eo U S hh kp ou)) (hx1 : xs (i + 1) = (zI (n1 : Int))) (hx2 : xs (i + 2) = (zI v2)) (hi0 : n1 < U.nb) (hy1 : 0 ≤ v2 ∧ v2 ≤ 5) (h39 : 3 ≤ v2) (kk : zNx p l e s m args below meth c E Q b0 i ce sl) : zV p l e room_1 s m args below meth c 9 E Q ce sl σ 481 (lwL b0 i E) [] := by
  refine (?_ : zV p l e room_1 s m args below meth c 9 E Q ce sl σ 481 [(0, .ref b0), (1, .ref (ob E 0)), (2, .ref (ob E 327)), (3, .ref (ob E 339)), (4, .ref (ob E 340)), (5, .int (zI (i : Int)))] [])
  have C := W.2.1
  have hfl := W.1
  have hroom : room_1.cells = 601024 ∧ room_1.slots = 7293034 := ⟨rfl, rfl⟩
  refine zv_aload_n C 1 dL_law_481 rfl rfl ?_
  refine zv_aload_n C 0 dL_law_482 rfl rfl ?_
  refine zv_iload C 5 dL_law_483 rfl ?_
  refine zv_iconst (v := zI 1) C dL_law_485 rfl ?_
  refine zv_iaddZ C dL_law_486 ?_
  refine zv_sld (j := i + 1) (v := (zI (n1 : Int))) C W.2.2.1 W.2.2.2.1 W.2.2.2.2.1 W.2.2.2.2.2 (zI_ix (by omega)) (by omega) hx1 dL_law_487 ?_
  refine zv_aload_n C 0 dL_law_488 rfl rfl ?_
  refine zv_iload C 5 dL_law_489 rfl ?_
  refine zv_iconst (v := zI 2) C dL_law_491 rfl ?_
  refine zv_iaddZ C dL_law_492 ?_
  refine zv_sld (j := i + 2) (v := (zI v2)) C W.2.2.1 W.2.2.2.1 W.2.2.2.2.1 W.2.2.2.2.2 (zI_ix (by omega)) (by omega) hx2 dL_law_493 ?_
  refine zv_aload_n C 3 dL_law_494 rfl rfl ?_
  refine zv_cH (st := []) C (w_c_X10_body hfl E σ U S n1 v2 hR.1.2.2.1 hR.1.2.2.2.1.1 (by first | assumption | omega) (by first | assumption | omega)) mL_body kL_203 rfl ⟨rfl, rfl⟩ (show zfit (zrm 3 67) 5 room_1 = true from rfl) (Nat.le_of_ble_eq_true rfl) dL_law_495 ⟨by omega, by omega⟩ (fun r495 τ495 hp495 => ?_)
  obtain ⟨hr0, v9, υ9, hP9, hτ9⟩ := hp495
  refine zv_eqi (y := zI 0) hr0 ?_
  obtain ⟨hv9, hW9⟩ := hP9
  have hF9 : zFr 318 327 σ υ9 := by first | exact hW9 | (rw [hW9]; exact (by first | exact zFr_refl _ _ _ | exact zFr_rW (zFr_refl _ _ _) (by omega) | exact zFr_rW (zFr_rW (zFr_refl _ _ _) (by omega)) (by omega) | exact qW_f _ _ _ _ | exact qM_f _ _ _ _ _ | exact rW2_f _ _ _ _ _ | exact rW3_f _ _ _ _ _ | exact alW_f _ _ _ _ _ | (split <;> first | exact zFr_refl _ _ _ | exact bW_f _ _ _ _) | assumption))
  have hR1 : zRel τ495 (zDv.mk ni tx ec eo U S hh kp ou) := by rw [hτ9]; exact zRel_J (zRel_c hR hF9) _
  have ho9 : gJ τ495 339 0 = v9.toInt64 := by rw [hτ9, gJ_sJ, if_pos ⟨rfl, rfl⟩]
  rw [hv9] at ho9
  refine zv_istore (lv' := [(6, .int (zI 0)), (0, .ref b0), (1, .ref (ob E 0)), (2, .ref (ob E 327)), (3, .ref (ob E 339)), (4, .ref (ob E 340)), (5, .int (zI (i : Int)))]) C dL_law_498  (by decide) rfl ?_
  refine zv_aload_n C 3 dL_law_500 rfl rfl ?_
  refine zv_aload_n C 1 dL_law_501 rfl rfl ?_
  refine zv_iload C 6 dL_law_502 rfl ?_
  refine zv_iconst (v := zI 1) C dL_law_504 rfl ?_
  refine zv_iaddZ C dL_law_505 ?_
  refine zv_sld (j := i + 1) (v := (zI (n1 : Int))) C W.2.2.1 W.2.2.2.1 W.2.2.2.2.1 W.2.2.2.2.2 (zI_ix (by omega)) (by omega) hx1 dL_law_506 ?_
  refine zv_aload_n C 1 dL_law_507 rfl rfl ?_
  refine zv_iload C 6 dL_law_508 rfl ?_
  refine zv_iconst (v := zI 2) C dL_law_510 rfl ?_
  refine zv_iaddZ C dL_law_511 ?_
  refine zv_sld (j := i + 2) (v := (zI v2)) C W.2.2.1 W.2.2.2.1 W.2.2.2.2.1 W.2.2.2.2.2 (zI_ix (by omega)) (by omega) hx2 dL_law_512 ?_
  refine zv_cvi (st := []) C (c3_X11_body hfl E τ495 σ U S n1 v2 hR1.2.2.2.1 hR.1.2.2.1 hR1.2.2.2.2.2.1.1 hR.1.2.2.2.1.1 (by first | assumption | omega) (by first | assumption | omega)) mX11_body kL_206 (by decide : kd 327 = 10) rfl rfl rfl ⟨rfl, rfl⟩ (show zfit (zrm 2 46) 3 room_1 = true from rfl) (Nat.le_of_ble_eq_true rfl) dL_law_513 ⟨by omega, by omega⟩ (fun r513 τ513 hp513 => ?_)
  obtain ⟨hr2, hK2⟩ := hp513
  refine zv_eqi (y := zI (dBod U S n1 v2)) hr2 ?_
  have hR2 : zRel τ513 (zDv.mk ni tx ec eo U S hh kp ou) := zRel_m hR1 hK2
  have ht2 : gI τ513 327 10 = zI 0 := hK2.2
  have hJ2 : gJ τ513 339 0 = gJ τ495 339 0 := hK2.1.2.1 339 0 (by decide)
  have hD2 : gD τ513 340 0 = gD τ495 340 0 := hK2.1.2.2 340 0
  refine zv_istore (lv' := [(7, .int (zI (dBod U S n1 v2))), (6, .int (zI 0)), (0, .ref b0), (1, .ref (ob E 0)), (2, .ref (ob E 327)), (3, .ref (ob E 339)), (4, .ref (ob E 340)), (5, .int (zI (i : Int)))]) C dL_law_516  (by decide) rfl ?_
  refine zv_aload_n C 4 dL_law_518 rfl rfl ?_
  refine zv_cviD (st := []) C (c_X11_thrown hfl E τ513) mX11_thrown kL_200 (by decide : kd 327 = 10) rfl rfl rfl ⟨rfl, rfl⟩ (show zfit (zrm 0 0) 1 room_1 = true from rfl) (Nat.le_of_ble_eq_true rfl) dL_law_519 ⟨by omega, by omega⟩ ?_
  refine zv_eqi (y := (zI 0)) (ht2) ?_
  refine zv_iload C 1 dL_law_522 rfl ?_
  refine zv_icmp_eqZ (tgt := 529) C (by omega) (by omega) dL_law_524 (by decide) (fun h524 => ?_) (fun h524 => ?_)
  · skip
    refine zv_iload C 1 dL_law_529 rfl ?_
    refine zv_if_neZ (tgt := 546) C (by omega) dL_law_531 (by decide) (fun h531 => absurd h531 (by decide)) (fun h531 => ?_)
    refine zv_aload_n C 5 dL_law_534 rfl rfl ?_
    refine zv_iconst (v := zI 0) C dL_law_535 rfl ?_
    refine zv_lald (j := 0) C (by decide : kd 339 = _) (zI_ix (by omega)) (by decide) dL_law_536 ?_
    refine zv_eql (y := ((zI (dBod U S n1 v2)).toInt64)) (hJ2.trans ho9) ?_
    refine zv_iload C 0 dL_law_537 rfl ?_
    refine zv_i2l C dL_law_539 ?_
    refine zv_lc_eq (tgt := 546) C dL_law_540 dL_law_541 (by decide) (fun h540 => ?_) (fun h540 => ?_)
    · skip
      refine zv_goto (tgt := 3624) C dL_law_546 (by decide) ?_
      refine zv_sub (lv' := [(0, .ref b0), (1, .ref (ob E 0)), (2, .ref (ob E 327)), (3, .ref (ob E 339)), (4, .ref (ob E 340)), (5, .int (zI (i : Int)))]) [2, 3, 4, 5, 6, 7] (zcons rfl (zcons rfl (zcons rfl (zcons rfl (zcons rfl (zcons rfl rfl)))))) ?_
      exact kk _ _ _ _ (by omega) (by omega) hR2
    · exfalso
      exact h540 rfl
  · exfalso
    omega
set_option maxRecDepth 20000 in
theorem lw_body_x1_x1 {p : Program} {l : Launch} {e : Env} {s : State} {m : MethodId} {args : Array Value} {below : List Frame} {meth : Method} {c : Code} {E : zE} {Q : State → Prop} {b0 L i ce sl : Nat} {xs : Nat → Int32} {σ : zS} (ni : Nat) (tx : Nat → Int) (ec : Nat) (eo : Int) (U : zSU) (S : zST) (hh : List zST) (kp : Option zST) (ou : List Nat) (v1 : Int) (v2 : Int) (W : zLW p l s m args meth c E b0 L xs) (hi : i + 6 ≤ L) (hcs : ce + 1 ≤ room_1.cells ∧ sl + 6 ≤ room_1.slots) (hR : zRel σ (zDv.mk ni tx ec eo U S hh kp ou)) (hx1 : xs (i + 1) = (zI v1)) (hx2 : xs (i + 2) = (zI v2)) (hbi0 : -2147483648 ≤ v1 ∧ v1 < 2147483648) (hno1 : ¬ (0 ≤ v1 ∧ v1 < U.nb))  (kk : zNx p l e s m args below meth c E Q b0 i ce sl) : zV p l e room_1 s m args below meth c 9 E Q ce sl σ 481 (lwL b0 i E) [] := by
  refine (?_ : zV p l e room_1 s m args below meth c 9 E Q ce sl σ 481 [(0, .ref b0), (1, .ref (ob E 0)), (2, .ref (ob E 327)), (3, .ref (ob E 339)), (4, .ref (ob E 340)), (5, .int (zI (i : Int)))] [])
  have C := W.2.1
  have hfl := W.1
  have hroom : room_1.cells = 601024 ∧ room_1.slots = 7293034 := ⟨rfl, rfl⟩
  refine zv_aload_n C 1 dL_law_481 rfl rfl ?_
  refine zv_aload_n C 0 dL_law_482 rfl rfl ?_
  refine zv_iload C 5 dL_law_483 rfl ?_
  refine zv_iconst (v := zI 1) C dL_law_485 rfl ?_
  refine zv_iaddZ C dL_law_486 ?_
  refine zv_sld (j := i + 1) (v := (zI v1)) C W.2.2.1 W.2.2.2.1 W.2.2.2.2.1 W.2.2.2.2.2 (zI_ix (by omega)) (by omega) hx1 dL_law_487 ?_
  refine zv_aload_n C 0 dL_law_488 rfl rfl ?_
  refine zv_iload C 5 dL_law_489 rfl ?_
  refine zv_iconst (v := zI 2) C dL_law_491 rfl ?_
  refine zv_iaddZ C dL_law_492 ?_
  refine zv_sld (j := i + 2) (v := (zI v2)) C W.2.2.1 W.2.2.2.1 W.2.2.2.2.1 W.2.2.2.2.2 (zI_ix (by omega)) (by omega) hx2 dL_law_493 ?_
  refine zv_aload_n C 3 dL_law_494 rfl rfl ?_
  refine zv_cH (st := []) C (w_x1_X10_body hfl E σ U v1 v2 hR.1.2.2.1 (by first | assumption | omega) (by first | assumption | omega)) mL_body kL_203 rfl ⟨rfl, rfl⟩ (show zfit (zrx 10 222) 5 room_1 = true from rfl) (Nat.le_of_ble_eq_true rfl) dL_law_495 ⟨by exact hcs.1, by exact hcs.2⟩ (fun r495 τ495 hp495 => ?_)
  obtain ⟨hr0, hP9⟩ := hp495
  refine zv_eqi (y := zI 1) hr0 ?_
  have hF9 : zFr 318 327 σ τ495 := by rw [hP9]; exact (by first | exact zFr_refl _ _ _ | exact zFr_rW (zFr_refl _ _ _) (by omega) | exact zFr_rW (zFr_rW (zFr_refl _ _ _) (by omega)) (by omega) | exact qW_f _ _ _ _ | exact qM_f _ _ _ _ _ | exact rW2_f _ _ _ _ _ | exact rW3_f _ _ _ _ _ | exact alW_f _ _ _ _ _ | (split <;> first | exact zFr_refl _ _ _ | exact bW_f _ _ _ _) | assumption)
  have hR1 : zRel τ495 (zDv.mk ni tx ec eo U S hh kp ou) := zRel_c hR hF9
  refine zv_istore (lv' := [(6, .int (zI 1)), (0, .ref b0), (1, .ref (ob E 0)), (2, .ref (ob E 327)), (3, .ref (ob E 339)), (4, .ref (ob E 340)), (5, .int (zI (i : Int)))]) C dL_law_498  (by decide) rfl ?_
  refine zv_aload_n C 3 dL_law_500 rfl rfl ?_
  refine zv_aload_n C 1 dL_law_501 rfl rfl ?_
  refine zv_iload C 6 dL_law_502 rfl ?_
  refine zv_iconst (v := zI 1) C dL_law_504 rfl ?_
  refine zv_iaddZ C dL_law_505 ?_
  refine zv_sld (j := i + 1) (v := (zI v1)) C W.2.2.1 W.2.2.2.1 W.2.2.2.2.1 W.2.2.2.2.2 (zI_ix (by omega)) (by omega) hx1 dL_law_506 ?_
  refine zv_aload_n C 1 dL_law_507 rfl rfl ?_
  refine zv_iload C 6 dL_law_508 rfl ?_
  refine zv_iconst (v := zI 2) C dL_law_510 rfl ?_
  refine zv_iaddZ C dL_law_511 ?_
  refine zv_sld (j := i + 2) (v := (zI v2)) C W.2.2.1 W.2.2.2.1 W.2.2.2.2.1 W.2.2.2.2.2 (zI_ix (by omega)) (by omega) hx2 dL_law_512 ?_
  refine zv_cvi (st := []) C (x1_X11_body hfl E τ495 σ U v1 v2 hR1.2.2.2.1 hR.1.2.2.1 (by first | assumption | omega) (by first | assumption | omega)) mX11_body kL_206 (by decide : kd 327 = 10) rfl rfl rfl ⟨rfl, rfl⟩ (show zfit (zrm 2 46) 3 room_1 = true from rfl) (Nat.le_of_ble_eq_true rfl) dL_law_513 ⟨by omega, by omega⟩ (fun r513 τ513 hp513 => ?_)
  obtain ⟨hr2, hK2⟩ := hp513
  refine zv_eqi (y := zI 0) hr2 ?_
  have hR2 : zRel τ513 (zDv.mk ni tx ec eo U S hh kp ou) := zRel_m hR1 hK2
  have ht2 : gI τ513 327 10 = zI 1 := hK2.2
  have hJ2 : gJ τ513 339 0 = gJ τ495 339 0 := hK2.1.2.1 339 0 (by decide)
  have hD2 : gD τ513 340 0 = gD τ495 340 0 := hK2.1.2.2 340 0
  refine zv_istore (lv' := [(7, .int (zI 0)), (6, .int (zI 1)), (0, .ref b0), (1, .ref (ob E 0)), (2, .ref (ob E 327)), (3, .ref (ob E 339)), (4, .ref (ob E 340)), (5, .int (zI (i : Int)))]) C dL_law_516  (by decide) rfl ?_
  refine zv_aload_n C 4 dL_law_518 rfl rfl ?_
  refine zv_cviD (st := []) C (c_X11_thrown hfl E τ513) mX11_thrown kL_200 (by decide : kd 327 = 10) rfl rfl rfl ⟨rfl, rfl⟩ (show zfit (zrm 0 0) 1 room_1 = true from rfl) (Nat.le_of_ble_eq_true rfl) dL_law_519 ⟨by omega, by omega⟩ ?_
  refine zv_eqi (y := (zI 1)) (ht2) ?_
  refine zv_iload C 1 dL_law_522 rfl ?_
  refine zv_icmp_eqZ (tgt := 529) C (by omega) (by omega) dL_law_524 (by decide) (fun h524 => ?_) (fun h524 => ?_)
  · skip
    refine zv_iload C 1 dL_law_529 rfl ?_
    refine zv_if_neZ (tgt := 546) C (by omega) dL_law_531 (by decide) (fun h531 => ?_) (fun h531 => absurd h531 (by decide))
    refine zv_goto (tgt := 3624) C dL_law_546 (by decide) ?_
    refine zv_sub (lv' := [(0, .ref b0), (1, .ref (ob E 0)), (2, .ref (ob E 327)), (3, .ref (ob E 339)), (4, .ref (ob E 340)), (5, .int (zI (i : Int)))]) [2, 3, 4, 5, 6, 7] (zcons rfl (zcons rfl (zcons rfl (zcons rfl (zcons rfl (zcons rfl rfl)))))) ?_
    exact kk _ _ _ _ (by omega) (by omega) hR2
  · exfalso
    omega
set_option maxRecDepth 20000 in
theorem lw_body_x2_x2 {p : Program} {l : Launch} {e : Env} {s : State} {m : MethodId} {args : Array Value} {below : List Frame} {meth : Method} {c : Code} {E : zE} {Q : State → Prop} {b0 L i ce sl : Nat} {xs : Nat → Int32} {σ : zS} (ni : Nat) (tx : Nat → Int) (ec : Nat) (eo : Int) (U : zSU) (S : zST) (hh : List zST) (kp : Option zST) (ou : List Nat) (n1 : Nat) (v2 : Int) (W : zLW p l s m args meth c E b0 L xs) (hi : i + 6 ≤ L) (hcs : ce + 1 ≤ room_1.cells ∧ sl + 6 ≤ room_1.slots) (hR : zRel σ (zDv.mk ni tx ec eo U S hh kp ou)) (hx1 : xs (i + 1) = (zI (n1 : Int))) (hx2 : xs (i + 2) = (zI v2)) (hi0 : n1 < U.nb) (hyi1 : -2147483648 ≤ v2 ∧ v2 < 2147483648) (hno2 : ¬ (0 ≤ v2 ∧ v2 ≤ 5))  (kk : zNx p l e s m args below meth c E Q b0 i ce sl) : zV p l e room_1 s m args below meth c 9 E Q ce sl σ 481 (lwL b0 i E) [] := by
  refine (?_ : zV p l e room_1 s m args below meth c 9 E Q ce sl σ 481 [(0, .ref b0), (1, .ref (ob E 0)), (2, .ref (ob E 327)), (3, .ref (ob E 339)), (4, .ref (ob E 340)), (5, .int (zI (i : Int)))] [])
  have C := W.2.1
  have hfl := W.1
  have hroom : room_1.cells = 601024 ∧ room_1.slots = 7293034 := ⟨rfl, rfl⟩
  refine zv_aload_n C 1 dL_law_481 rfl rfl ?_
  refine zv_aload_n C 0 dL_law_482 rfl rfl ?_
  refine zv_iload C 5 dL_law_483 rfl ?_
  refine zv_iconst (v := zI 1) C dL_law_485 rfl ?_
  refine zv_iaddZ C dL_law_486 ?_
  refine zv_sld (j := i + 1) (v := (zI (n1 : Int))) C W.2.2.1 W.2.2.2.1 W.2.2.2.2.1 W.2.2.2.2.2 (zI_ix (by omega)) (by omega) hx1 dL_law_487 ?_
  refine zv_aload_n C 0 dL_law_488 rfl rfl ?_
  refine zv_iload C 5 dL_law_489 rfl ?_
  refine zv_iconst (v := zI 2) C dL_law_491 rfl ?_
  refine zv_iaddZ C dL_law_492 ?_
  refine zv_sld (j := i + 2) (v := (zI v2)) C W.2.2.1 W.2.2.2.1 W.2.2.2.2.1 W.2.2.2.2.2 (zI_ix (by omega)) (by omega) hx2 dL_law_493 ?_
  refine zv_aload_n C 3 dL_law_494 rfl rfl ?_
  refine zv_cH (st := []) C (w_x2_X10_body hfl E σ U S n1 v2 hR.1.2.2.1 (by first | assumption | omega) (by first | assumption | omega) (by first | assumption | omega)) mL_body kL_203 rfl ⟨rfl, rfl⟩ (show zfit (zrx 10 222) 5 room_1 = true from rfl) (Nat.le_of_ble_eq_true rfl) dL_law_495 ⟨by exact hcs.1, by exact hcs.2⟩ (fun r495 τ495 hp495 => ?_)
  obtain ⟨hr0, hP9⟩ := hp495
  refine zv_eqi (y := zI 2) hr0 ?_
  have hF9 : zFr 318 327 σ τ495 := by rw [hP9]; exact (by first | exact zFr_refl _ _ _ | exact zFr_rW (zFr_refl _ _ _) (by omega) | exact zFr_rW (zFr_rW (zFr_refl _ _ _) (by omega)) (by omega) | exact qW_f _ _ _ _ | exact qM_f _ _ _ _ _ | exact rW2_f _ _ _ _ _ | exact rW3_f _ _ _ _ _ | exact alW_f _ _ _ _ _ | (split <;> first | exact zFr_refl _ _ _ | exact bW_f _ _ _ _) | assumption)
  have hR1 : zRel τ495 (zDv.mk ni tx ec eo U S hh kp ou) := zRel_c hR hF9
  refine zv_istore (lv' := [(6, .int (zI 2)), (0, .ref b0), (1, .ref (ob E 0)), (2, .ref (ob E 327)), (3, .ref (ob E 339)), (4, .ref (ob E 340)), (5, .int (zI (i : Int)))]) C dL_law_498  (by decide) rfl ?_
  refine zv_aload_n C 3 dL_law_500 rfl rfl ?_
  refine zv_aload_n C 1 dL_law_501 rfl rfl ?_
  refine zv_iload C 6 dL_law_502 rfl ?_
  refine zv_iconst (v := zI 1) C dL_law_504 rfl ?_
  refine zv_iaddZ C dL_law_505 ?_
  refine zv_sld (j := i + 1) (v := (zI (n1 : Int))) C W.2.2.1 W.2.2.2.1 W.2.2.2.2.1 W.2.2.2.2.2 (zI_ix (by omega)) (by omega) hx1 dL_law_506 ?_
  refine zv_aload_n C 1 dL_law_507 rfl rfl ?_
  refine zv_iload C 6 dL_law_508 rfl ?_
  refine zv_iconst (v := zI 2) C dL_law_510 rfl ?_
  refine zv_iaddZ C dL_law_511 ?_
  refine zv_sld (j := i + 2) (v := (zI v2)) C W.2.2.1 W.2.2.2.1 W.2.2.2.2.1 W.2.2.2.2.2 (zI_ix (by omega)) (by omega) hx2 dL_law_512 ?_
  refine zv_cvi (st := []) C (x2_X11_body hfl E τ495 σ U n1 v2 hR1.2.2.2.1 hR.1.2.2.1 (by first | assumption | omega) (by first | assumption | omega) (by first | assumption | omega)) mX11_body kL_206 (by decide : kd 327 = 10) rfl rfl rfl ⟨rfl, rfl⟩ (show zfit (zrm 2 46) 3 room_1 = true from rfl) (Nat.le_of_ble_eq_true rfl) dL_law_513 ⟨by omega, by omega⟩ (fun r513 τ513 hp513 => ?_)
  obtain ⟨hr2, hK2⟩ := hp513
  refine zv_eqi (y := zI 0) hr2 ?_
  have hR2 : zRel τ513 (zDv.mk ni tx ec eo U S hh kp ou) := zRel_m hR1 hK2
  have ht2 : gI τ513 327 10 = zI 2 := hK2.2
  have hJ2 : gJ τ513 339 0 = gJ τ495 339 0 := hK2.1.2.1 339 0 (by decide)
  have hD2 : gD τ513 340 0 = gD τ495 340 0 := hK2.1.2.2 340 0
  refine zv_istore (lv' := [(7, .int (zI 0)), (6, .int (zI 2)), (0, .ref b0), (1, .ref (ob E 0)), (2, .ref (ob E 327)), (3, .ref (ob E 339)), (4, .ref (ob E 340)), (5, .int (zI (i : Int)))]) C dL_law_516  (by decide) rfl ?_
  refine zv_aload_n C 4 dL_law_518 rfl rfl ?_
  refine zv_cviD (st := []) C (c_X11_thrown hfl E τ513) mX11_thrown kL_200 (by decide : kd 327 = 10) rfl rfl rfl ⟨rfl, rfl⟩ (show zfit (zrm 0 0) 1 room_1 = true from rfl) (Nat.le_of_ble_eq_true rfl) dL_law_519 ⟨by omega, by omega⟩ ?_
  refine zv_eqi (y := (zI 2)) (ht2) ?_
  refine zv_iload C 1 dL_law_522 rfl ?_
  refine zv_icmp_eqZ (tgt := 529) C (by omega) (by omega) dL_law_524 (by decide) (fun h524 => ?_) (fun h524 => ?_)
  · skip
    refine zv_iload C 1 dL_law_529 rfl ?_
    refine zv_if_neZ (tgt := 546) C (by omega) dL_law_531 (by decide) (fun h531 => ?_) (fun h531 => absurd h531 (by decide))
    refine zv_goto (tgt := 3624) C dL_law_546 (by decide) ?_
    refine zv_sub (lv' := [(0, .ref b0), (1, .ref (ob E 0)), (2, .ref (ob E 327)), (3, .ref (ob E 339)), (4, .ref (ob E 340)), (5, .int (zI (i : Int)))]) [2, 3, 4, 5, 6, 7] (zcons rfl (zcons rfl (zcons rfl (zcons rfl (zcons rfl (zcons rfl rfl)))))) ?_
    exact kk _ _ _ _ (by omega) (by omega) hR2
  · exfalso
    omega
theorem LK_6 {p : Program} {l : Launch} {e : Env} {s : State} {m : MethodId} {args : Array Value} {below : List Frame} {meth : Method} {c : Code} {E : zE} {Q : State → Prop} {b0 L i ce sl : Nat} {xs : Nat → Int32} {σ : zS} (ni : Nat) (tx : Nat → Int) (ec : Nat) (eo : Int) (U : zSU) (S : zST) (hh : List zST) (kp : Option zST) (ou : List Nat) (hFN : zFN) (W : zLW p l s m args meth c E b0 L xs) (hi : i + 6 ≤ L) (hcs : ce + 1 ≤ room_1.cells ∧ sl + 6 ≤ room_1.slots) (hR : zRel σ (zDv.mk ni tx ec eo U S hh kp ou)) (kk : zNx p l e s m args below meth c E Q b0 i ce sl) : zV p l e room_1 s m args below meth c 9 E Q ce sl σ 481 (lwL b0 i E) [] := by
  obtain ⟨v1, hx1, hv1⟩ := zI_cov (xs (i + 1))
  obtain ⟨v2, hx2, hv2⟩ := zI_cov (xs (i + 2))
  by_cases g1 : 0 ≤ v1 ∧ v1 < U.nb
  case neg =>
    exact lw_body_x1_x1 _ _ _ _ _ _ _ _ _ _ _ W hi hcs hR hx1 hx2 (by first | assumption | omega) (by first | assumption | omega) kk
  obtain ⟨n1, rfl⟩ := Int.eq_ofNat_of_zero_le (show 0 ≤ v1 by omega)
  by_cases g2 : 0 ≤ v2 ∧ v2 ≤ 5
  case neg =>
    exact lw_body_x2_x2 _ _ _ _ _ _ _ _ _ _ _ W hi hcs hR hx1 hx2 (by first | assumption | omega) (by first | assumption | omega) (by first | assumption | omega) kk
  by_cases g3 : ¬ v2 = 0
  case neg =>
    obtain rfl : v2 = 0 := by omega
    exact lw_body_c_c0 _ _ _ _ _ _ _ _ _ _ W hi hcs hR hx1 hx2 (by first | assumption | omega) (by first | assumption | omega) kk
  by_cases g4 : ¬ v2 = 1
  case neg =>
    obtain rfl : v2 = 1 := by omega
    exact lw_body_c_c1 _ _ _ _ _ _ _ _ _ _ W hi hcs hR hx1 hx2 (by first | assumption | omega) (by first | assumption | omega) kk
  by_cases g5 : ¬ v2 = 2
  case neg =>
    obtain rfl : v2 = 2 := by omega
    exact lw_body_c_c2 _ _ _ _ _ _ _ _ _ _ W hi hcs hR hx1 hx2 (by first | assumption | omega) (by first | assumption | omega) kk
  exact lw_body_c_c3 _ _ _ _ _ _ _ _ _ _ _ W hi hcs hR hx1 hx2 (by first | assumption | omega) (by first | assumption | omega) (by first | assumption | omega) kk
theorem dL_law_549 : decode cL_law 549 = .ok (.aload_n 1, 1) := by decide +kernel
theorem dL_law_550 : decode cL_law 550 = .ok (.aload_n 0, 1) := by decide +kernel
theorem dL_law_551 : decode cL_law 551 = .ok (.iload 5, 2) := by decide +kernel
theorem dL_law_553 : decode cL_law 553 = .ok (.iconst 1, 1) := by decide +kernel
theorem dL_law_554 : decode cL_law 554 = .ok (.iadd, 1) := by decide +kernel
theorem dL_law_555 : decode cL_law 555 = .ok (.iaload, 1) := by decide +kernel
theorem dL_law_556 : decode cL_law 556 = .ok (.aload_n 0, 1) := by decide +kernel
theorem dL_law_557 : decode cL_law 557 = .ok (.iload 5, 2) := by decide +kernel
theorem dL_law_559 : decode cL_law 559 = .ok (.iconst 2, 1) := by decide +kernel
theorem dL_law_560 : decode cL_law 560 = .ok (.iadd, 1) := by decide +kernel
theorem dL_law_561 : decode cL_law 561 = .ok (.iaload, 1) := by decide +kernel
theorem dL_law_562 : decode cL_law 562 = .ok (.aload_n 0, 1) := by decide +kernel
theorem dL_law_563 : decode cL_law 563 = .ok (.iload 5, 2) := by decide +kernel
theorem dL_law_565 : decode cL_law 565 = .ok (.iconst 3, 1) := by decide +kernel
theorem dL_law_566 : decode cL_law 566 = .ok (.iadd, 1) := by decide +kernel
theorem dL_law_567 : decode cL_law 567 = .ok (.iaload, 1) := by decide +kernel
theorem dL_law_568 : decode cL_law 568 = .ok (.aload_n 3, 1) := by decide +kernel
theorem dL_law_569 : decode cL_law 569 = .ok (.invokestatic 207, 3) := by decide +kernel
theorem dL_law_572 : decode cL_law 572 = .ok (.istore 6, 2) := by decide +kernel
theorem dL_law_574 : decode cL_law 574 = .ok (.aload_n 2, 1) := by decide +kernel
theorem dL_law_575 : decode cL_law 575 = .ok (.aload_n 0, 1) := by decide +kernel
theorem dL_law_576 : decode cL_law 576 = .ok (.iload 5, 2) := by decide +kernel
theorem dL_law_578 : decode cL_law 578 = .ok (.iconst 1, 1) := by decide +kernel
theorem dL_law_579 : decode cL_law 579 = .ok (.iadd, 1) := by decide +kernel
theorem dL_law_580 : decode cL_law 580 = .ok (.iaload, 1) := by decide +kernel
theorem dL_law_581 : decode cL_law 581 = .ok (.aload_n 0, 1) := by decide +kernel
theorem dL_law_582 : decode cL_law 582 = .ok (.iload 5, 2) := by decide +kernel
theorem dL_law_584 : decode cL_law 584 = .ok (.iconst 2, 1) := by decide +kernel
theorem dL_law_585 : decode cL_law 585 = .ok (.iadd, 1) := by decide +kernel
theorem dL_law_586 : decode cL_law 586 = .ok (.iaload, 1) := by decide +kernel
theorem dL_law_587 : decode cL_law 587 = .ok (.aload_n 0, 1) := by decide +kernel
theorem dL_law_588 : decode cL_law 588 = .ok (.iload 5, 2) := by decide +kernel
theorem dL_law_590 : decode cL_law 590 = .ok (.iconst 3, 1) := by decide +kernel
theorem dL_law_591 : decode cL_law 591 = .ok (.iadd, 1) := by decide +kernel
theorem dL_law_592 : decode cL_law 592 = .ok (.iaload, 1) := by decide +kernel
theorem dL_law_593 : decode cL_law 593 = .ok (.invokevirtual 210, 3) := by decide +kernel
theorem dL_law_596 : decode cL_law 596 = .ok (.istore 7, 2) := by decide +kernel
theorem dL_law_598 : decode cL_law 598 = .ok (.aload_n 2, 1) := by decide +kernel
theorem dL_law_599 : decode cL_law 599 = .ok (.invokevirtual 200, 3) := by decide +kernel
theorem dL_law_602 : decode cL_law 602 = .ok (.iload 6, 2) := by decide +kernel
theorem dL_law_604 : decode cL_law 604 = .ok (.if_icmp .eq 5, 3) := by decide +kernel
theorem dL_law_607 : decode cL_law 607 = .ok (.iconst 0, 1) := by decide +kernel
theorem dL_law_608 : decode cL_law 608 = .ok (.ireturn, 1) := by decide +kernel
theorem dL_law_609 : decode cL_law 609 = .ok (.iload 6, 2) := by decide +kernel
theorem dL_law_611 : decode cL_law 611 = .ok (.ifCond .ne 15, 3) := by decide +kernel
theorem dL_law_614 : decode cL_law 614 = .ok (.aload_n 3, 1) := by decide +kernel
theorem dL_law_615 : decode cL_law 615 = .ok (.iconst 0, 1) := by decide +kernel
theorem dL_law_616 : decode cL_law 616 = .ok (.laload, 1) := by decide +kernel
theorem dL_law_617 : decode cL_law 617 = .ok (.iload 7, 2) := by decide +kernel
theorem dL_law_619 : decode cL_law 619 = .ok (.i2l, 1) := by decide +kernel
theorem dL_law_620 : decode cL_law 620 = .ok (.lcmp, 1) := by decide +kernel
theorem dL_law_621 : decode cL_law 621 = .ok (.ifCond .eq 5, 3) := by decide +kernel
theorem dL_law_624 : decode cL_law 624 = .ok (.iconst 0, 1) := by decide +kernel
theorem dL_law_625 : decode cL_law 625 = .ok (.ireturn, 1) := by decide +kernel
theorem dL_law_626 : decode cL_law 626 = .ok (.goto 2998, 3) := by decide +kernel
set_option maxRecDepth 20000 in
theorem lw_part_c_c {p : Program} {l : Launch} {e : Env} {s : State} {m : MethodId} {args : Array Value} {below : List Frame} {meth : Method} {c : Code} {E : zE} {Q : State → Prop} {b0 L i ce sl : Nat} {xs : Nat → Int32} {σ : zS} (ni : Nat) (tx : Nat → Int) (ec : Nat) (eo : Int) (U : zSU) (S : zST) (hh : List zST) (kp : Option zST) (ou : List Nat) (n1 : Nat) (n2 : Nat) (n3 : Nat) (W : zLW p l s m args meth c E b0 L xs) (hi : i + 6 ≤ L) (hcs : ce + 1 ≤ room_1.cells ∧ sl + 6 ≤ room_1.slots) (hR : zRel σ (zDv.mk ni tx ec eo U S hh kp ou)) (hx1 : xs (i + 1) = (zI (n1 : Int))) (hx2 : xs (i + 2) = (zI (n2 : Int))) (hx3 : xs (i + 3) = (zI (n3 : Int))) (hi0 : n1 < U.nb) (hj1 : n2 < S.tn n1) (hw2 : n3 < 3)  (kk : zNx p l e s m args below meth c E Q b0 i ce sl) : zV p l e room_1 s m args below meth c 9 E Q ce sl σ 549 (lwL b0 i E) [] := by
  refine (?_ : zV p l e room_1 s m args below meth c 9 E Q ce sl σ 549 [(0, .ref b0), (1, .ref (ob E 0)), (2, .ref (ob E 327)), (3, .ref (ob E 339)), (4, .ref (ob E 340)), (5, .int (zI (i : Int)))] [])
  have C := W.2.1
  have hfl := W.1
  have hroom : room_1.cells = 601024 ∧ room_1.slots = 7293034 := ⟨rfl, rfl⟩
  refine zv_aload_n C 1 dL_law_549 rfl rfl ?_
  refine zv_aload_n C 0 dL_law_550 rfl rfl ?_
  refine zv_iload C 5 dL_law_551 rfl ?_
  refine zv_iconst (v := zI 1) C dL_law_553 rfl ?_
  refine zv_iaddZ C dL_law_554 ?_
  refine zv_sld (j := i + 1) (v := (zI (n1 : Int))) C W.2.2.1 W.2.2.2.1 W.2.2.2.2.1 W.2.2.2.2.2 (zI_ix (by omega)) (by omega) hx1 dL_law_555 ?_
  refine zv_aload_n C 0 dL_law_556 rfl rfl ?_
  refine zv_iload C 5 dL_law_557 rfl ?_
  refine zv_iconst (v := zI 2) C dL_law_559 rfl ?_
  refine zv_iaddZ C dL_law_560 ?_
  refine zv_sld (j := i + 2) (v := (zI (n2 : Int))) C W.2.2.1 W.2.2.2.1 W.2.2.2.2.1 W.2.2.2.2.2 (zI_ix (by omega)) (by omega) hx2 dL_law_561 ?_
  refine zv_aload_n C 0 dL_law_562 rfl rfl ?_
  refine zv_iload C 5 dL_law_563 rfl ?_
  refine zv_iconst (v := zI 3) C dL_law_565 rfl ?_
  refine zv_iaddZ C dL_law_566 ?_
  refine zv_sld (j := i + 3) (v := (zI (n3 : Int))) C W.2.2.1 W.2.2.2.1 W.2.2.2.2.1 W.2.2.2.2.2 (zI_ix (by omega)) (by omega) hx3 dL_law_567 ?_
  refine zv_aload_n C 3 dL_law_568 rfl rfl ?_
  refine zv_cH (st := []) C (w_c_X10_part hfl E σ U S n1 n2 n3 hR.1.2.2.1 hR.1.2.2.2.1.1 (by first | assumption | omega) (by first | assumption | omega) (by first | assumption | omega)) mL_part kL_207 rfl ⟨rfl, rfl⟩ (show zfit (zrm 2 47) 6 room_1 = true from rfl) (Nat.le_of_ble_eq_true rfl) dL_law_569 ⟨by omega, by omega⟩ (fun r569 τ569 hp569 => ?_)
  obtain ⟨hr0, v9, υ9, hP9, hτ9⟩ := hp569
  refine zv_eqi (y := zI 0) hr0 ?_
  obtain ⟨hv9, hW9⟩ := hP9
  have hF9 : zFr 318 327 σ υ9 := by first | exact hW9 | (rw [hW9]; exact (by first | exact zFr_refl _ _ _ | exact zFr_rW (zFr_refl _ _ _) (by omega) | exact zFr_rW (zFr_rW (zFr_refl _ _ _) (by omega)) (by omega) | exact qW_f _ _ _ _ | exact qM_f _ _ _ _ _ | exact rW2_f _ _ _ _ _ | exact rW3_f _ _ _ _ _ | exact alW_f _ _ _ _ _ | (split <;> first | exact zFr_refl _ _ _ | exact bW_f _ _ _ _) | assumption))
  have hR1 : zRel τ569 (zDv.mk ni tx ec eo U S hh kp ou) := by rw [hτ9]; exact zRel_J (zRel_c hR hF9) _
  have ho9 : gJ τ569 339 0 = v9.toInt64 := by rw [hτ9, gJ_sJ, if_pos ⟨rfl, rfl⟩]
  rw [hv9] at ho9
  refine zv_istore (lv' := [(6, .int (zI 0)), (0, .ref b0), (1, .ref (ob E 0)), (2, .ref (ob E 327)), (3, .ref (ob E 339)), (4, .ref (ob E 340)), (5, .int (zI (i : Int)))]) C dL_law_572  (by decide) rfl ?_
  refine zv_aload_n C 3 dL_law_574 rfl rfl ?_
  refine zv_aload_n C 1 dL_law_575 rfl rfl ?_
  refine zv_iload C 6 dL_law_576 rfl ?_
  refine zv_iconst (v := zI 1) C dL_law_578 rfl ?_
  refine zv_iaddZ C dL_law_579 ?_
  refine zv_sld (j := i + 1) (v := (zI (n1 : Int))) C W.2.2.1 W.2.2.2.1 W.2.2.2.2.1 W.2.2.2.2.2 (zI_ix (by omega)) (by omega) hx1 dL_law_580 ?_
  refine zv_aload_n C 1 dL_law_581 rfl rfl ?_
  refine zv_iload C 6 dL_law_582 rfl ?_
  refine zv_iconst (v := zI 2) C dL_law_584 rfl ?_
  refine zv_iaddZ C dL_law_585 ?_
  refine zv_sld (j := i + 2) (v := (zI (n2 : Int))) C W.2.2.1 W.2.2.2.1 W.2.2.2.2.1 W.2.2.2.2.2 (zI_ix (by omega)) (by omega) hx2 dL_law_586 ?_
  refine zv_aload_n C 1 dL_law_587 rfl rfl ?_
  refine zv_iload C 6 dL_law_588 rfl ?_
  refine zv_iconst (v := zI 3) C dL_law_590 rfl ?_
  refine zv_iaddZ C dL_law_591 ?_
  refine zv_sld (j := i + 3) (v := (zI (n3 : Int))) C W.2.2.1 W.2.2.2.1 W.2.2.2.2.1 W.2.2.2.2.2 (zI_ix (by omega)) (by omega) hx3 dL_law_592 ?_
  refine zv_cvi (st := []) C (c_X11_part hfl E τ569 σ U S n1 n2 n3 hR1.2.2.2.1 hR.1.2.2.1 hR1.2.2.2.2.2.1.1 hR.1.2.2.2.1.1 (by first | assumption | omega) (by first | assumption | omega) (by first | assumption | omega)) mX11_part kL_210 (by decide : kd 327 = 10) rfl rfl rfl ⟨rfl, rfl⟩ (show zfit (zrm 2 46) 4 room_1 = true from rfl) (Nat.le_of_ble_eq_true rfl) dL_law_593 ⟨by omega, by omega⟩ (fun r593 τ593 hp593 => ?_)
  obtain ⟨hr2, hK2⟩ := hp593
  refine zv_eqi (y := zI (S.tr n1 n2 n3 : Int)) hr2 ?_
  have hR2 : zRel τ593 (zDv.mk ni tx ec eo U S hh kp ou) := zRel_m hR1 hK2
  have ht2 : gI τ593 327 10 = zI 0 := hK2.2
  have hJ2 : gJ τ593 339 0 = gJ τ569 339 0 := hK2.1.2.1 339 0 (by decide)
  have hD2 : gD τ593 340 0 = gD τ569 340 0 := hK2.1.2.2 340 0
  refine zv_istore (lv' := [(7, .int (zI (S.tr n1 n2 n3 : Int))), (6, .int (zI 0)), (0, .ref b0), (1, .ref (ob E 0)), (2, .ref (ob E 327)), (3, .ref (ob E 339)), (4, .ref (ob E 340)), (5, .int (zI (i : Int)))]) C dL_law_596  (by decide) rfl ?_
  refine zv_aload_n C 4 dL_law_598 rfl rfl ?_
  refine zv_cviD (st := []) C (c_X11_thrown hfl E τ593) mX11_thrown kL_200 (by decide : kd 327 = 10) rfl rfl rfl ⟨rfl, rfl⟩ (show zfit (zrm 0 0) 1 room_1 = true from rfl) (Nat.le_of_ble_eq_true rfl) dL_law_599 ⟨by omega, by omega⟩ ?_
  refine zv_eqi (y := (zI 0)) (ht2) ?_
  refine zv_iload C 1 dL_law_602 rfl ?_
  refine zv_icmp_eqZ (tgt := 609) C (by omega) (by omega) dL_law_604 (by decide) (fun h604 => ?_) (fun h604 => ?_)
  · skip
    refine zv_iload C 1 dL_law_609 rfl ?_
    refine zv_if_neZ (tgt := 626) C (by omega) dL_law_611 (by decide) (fun h611 => absurd h611 (by decide)) (fun h611 => ?_)
    refine zv_aload_n C 5 dL_law_614 rfl rfl ?_
    refine zv_iconst (v := zI 0) C dL_law_615 rfl ?_
    refine zv_lald (j := 0) C (by decide : kd 339 = _) (zI_ix (by omega)) (by decide) dL_law_616 ?_
    refine zv_eql (y := ((zI (S.tr n1 n2 n3 : Int)).toInt64)) (hJ2.trans ho9) ?_
    refine zv_iload C 0 dL_law_617 rfl ?_
    refine zv_i2l C dL_law_619 ?_
    refine zv_lc_eq (tgt := 626) C dL_law_620 dL_law_621 (by decide) (fun h620 => ?_) (fun h620 => ?_)
    · skip
      refine zv_goto (tgt := 3624) C dL_law_626 (by decide) ?_
      refine zv_sub (lv' := [(0, .ref b0), (1, .ref (ob E 0)), (2, .ref (ob E 327)), (3, .ref (ob E 339)), (4, .ref (ob E 340)), (5, .int (zI (i : Int)))]) [2, 3, 4, 5, 6, 7] (zcons rfl (zcons rfl (zcons rfl (zcons rfl (zcons rfl (zcons rfl rfl)))))) ?_
      exact kk _ _ _ _ (by omega) (by omega) hR2
    · exfalso
      exact h620 rfl
  · exfalso
    omega
set_option maxRecDepth 20000 in
theorem lw_part_x1_x1 {p : Program} {l : Launch} {e : Env} {s : State} {m : MethodId} {args : Array Value} {below : List Frame} {meth : Method} {c : Code} {E : zE} {Q : State → Prop} {b0 L i ce sl : Nat} {xs : Nat → Int32} {σ : zS} (ni : Nat) (tx : Nat → Int) (ec : Nat) (eo : Int) (U : zSU) (S : zST) (hh : List zST) (kp : Option zST) (ou : List Nat) (v1 : Int) (v2 : Int) (v3 : Int) (W : zLW p l s m args meth c E b0 L xs) (hi : i + 6 ≤ L) (hcs : ce + 1 ≤ room_1.cells ∧ sl + 6 ≤ room_1.slots) (hR : zRel σ (zDv.mk ni tx ec eo U S hh kp ou)) (hx1 : xs (i + 1) = (zI v1)) (hx2 : xs (i + 2) = (zI v2)) (hx3 : xs (i + 3) = (zI v3)) (hbi0 : -2147483648 ≤ v1 ∧ v1 < 2147483648) (hno1 : ¬ (0 ≤ v1 ∧ v1 < U.nb))  (kk : zNx p l e s m args below meth c E Q b0 i ce sl) : zV p l e room_1 s m args below meth c 9 E Q ce sl σ 549 (lwL b0 i E) [] := by
  refine (?_ : zV p l e room_1 s m args below meth c 9 E Q ce sl σ 549 [(0, .ref b0), (1, .ref (ob E 0)), (2, .ref (ob E 327)), (3, .ref (ob E 339)), (4, .ref (ob E 340)), (5, .int (zI (i : Int)))] [])
  have C := W.2.1
  have hfl := W.1
  have hroom : room_1.cells = 601024 ∧ room_1.slots = 7293034 := ⟨rfl, rfl⟩
  refine zv_aload_n C 1 dL_law_549 rfl rfl ?_
  refine zv_aload_n C 0 dL_law_550 rfl rfl ?_
  refine zv_iload C 5 dL_law_551 rfl ?_
  refine zv_iconst (v := zI 1) C dL_law_553 rfl ?_
  refine zv_iaddZ C dL_law_554 ?_
  refine zv_sld (j := i + 1) (v := (zI v1)) C W.2.2.1 W.2.2.2.1 W.2.2.2.2.1 W.2.2.2.2.2 (zI_ix (by omega)) (by omega) hx1 dL_law_555 ?_
  refine zv_aload_n C 0 dL_law_556 rfl rfl ?_
  refine zv_iload C 5 dL_law_557 rfl ?_
  refine zv_iconst (v := zI 2) C dL_law_559 rfl ?_
  refine zv_iaddZ C dL_law_560 ?_
  refine zv_sld (j := i + 2) (v := (zI v2)) C W.2.2.1 W.2.2.2.1 W.2.2.2.2.1 W.2.2.2.2.2 (zI_ix (by omega)) (by omega) hx2 dL_law_561 ?_
  refine zv_aload_n C 0 dL_law_562 rfl rfl ?_
  refine zv_iload C 5 dL_law_563 rfl ?_
  refine zv_iconst (v := zI 3) C dL_law_565 rfl ?_
  refine zv_iaddZ C dL_law_566 ?_
  refine zv_sld (j := i + 3) (v := (zI v3)) C W.2.2.1 W.2.2.2.1 W.2.2.2.2.1 W.2.2.2.2.2 (zI_ix (by omega)) (by omega) hx3 dL_law_567 ?_
  refine zv_aload_n C 3 dL_law_568 rfl rfl ?_
  refine zv_cH (st := []) C (w_x1_X10_part hfl E σ U v1 v2 v3 hR.1.2.2.1 (by first | assumption | omega) (by first | assumption | omega)) mL_part kL_207 rfl ⟨rfl, rfl⟩ (show zfit (zrx 10 224) 6 room_1 = true from rfl) (Nat.le_of_ble_eq_true rfl) dL_law_569 ⟨by exact hcs.1, by exact hcs.2⟩ (fun r569 τ569 hp569 => ?_)
  obtain ⟨hr0, hP9⟩ := hp569
  refine zv_eqi (y := zI 1) hr0 ?_
  have hF9 : zFr 318 327 σ τ569 := by rw [hP9]; exact (by first | exact zFr_refl _ _ _ | exact zFr_rW (zFr_refl _ _ _) (by omega) | exact zFr_rW (zFr_rW (zFr_refl _ _ _) (by omega)) (by omega) | exact qW_f _ _ _ _ | exact qM_f _ _ _ _ _ | exact rW2_f _ _ _ _ _ | exact rW3_f _ _ _ _ _ | exact alW_f _ _ _ _ _ | (split <;> first | exact zFr_refl _ _ _ | exact bW_f _ _ _ _) | assumption)
  have hR1 : zRel τ569 (zDv.mk ni tx ec eo U S hh kp ou) := zRel_c hR hF9
  refine zv_istore (lv' := [(6, .int (zI 1)), (0, .ref b0), (1, .ref (ob E 0)), (2, .ref (ob E 327)), (3, .ref (ob E 339)), (4, .ref (ob E 340)), (5, .int (zI (i : Int)))]) C dL_law_572  (by decide) rfl ?_
  refine zv_aload_n C 3 dL_law_574 rfl rfl ?_
  refine zv_aload_n C 1 dL_law_575 rfl rfl ?_
  refine zv_iload C 6 dL_law_576 rfl ?_
  refine zv_iconst (v := zI 1) C dL_law_578 rfl ?_
  refine zv_iaddZ C dL_law_579 ?_
  refine zv_sld (j := i + 1) (v := (zI v1)) C W.2.2.1 W.2.2.2.1 W.2.2.2.2.1 W.2.2.2.2.2 (zI_ix (by omega)) (by omega) hx1 dL_law_580 ?_
  refine zv_aload_n C 1 dL_law_581 rfl rfl ?_
  refine zv_iload C 6 dL_law_582 rfl ?_
  refine zv_iconst (v := zI 2) C dL_law_584 rfl ?_
  refine zv_iaddZ C dL_law_585 ?_
  refine zv_sld (j := i + 2) (v := (zI v2)) C W.2.2.1 W.2.2.2.1 W.2.2.2.2.1 W.2.2.2.2.2 (zI_ix (by omega)) (by omega) hx2 dL_law_586 ?_
  refine zv_aload_n C 1 dL_law_587 rfl rfl ?_
  refine zv_iload C 6 dL_law_588 rfl ?_
  refine zv_iconst (v := zI 3) C dL_law_590 rfl ?_
  refine zv_iaddZ C dL_law_591 ?_
  refine zv_sld (j := i + 3) (v := (zI v3)) C W.2.2.1 W.2.2.2.1 W.2.2.2.2.1 W.2.2.2.2.2 (zI_ix (by omega)) (by omega) hx3 dL_law_592 ?_
  refine zv_cvi (st := []) C (x1_X11_part hfl E τ569 σ U v1 v2 v3 hR1.2.2.2.1 hR.1.2.2.1 (by first | assumption | omega) (by first | assumption | omega)) mX11_part kL_210 (by decide : kd 327 = 10) rfl rfl rfl ⟨rfl, rfl⟩ (show zfit (zrm 2 46) 4 room_1 = true from rfl) (Nat.le_of_ble_eq_true rfl) dL_law_593 ⟨by omega, by omega⟩ (fun r593 τ593 hp593 => ?_)
  obtain ⟨hr2, hK2⟩ := hp593
  refine zv_eqi (y := zI 0) hr2 ?_
  have hR2 : zRel τ593 (zDv.mk ni tx ec eo U S hh kp ou) := zRel_m hR1 hK2
  have ht2 : gI τ593 327 10 = zI 1 := hK2.2
  have hJ2 : gJ τ593 339 0 = gJ τ569 339 0 := hK2.1.2.1 339 0 (by decide)
  have hD2 : gD τ593 340 0 = gD τ569 340 0 := hK2.1.2.2 340 0
  refine zv_istore (lv' := [(7, .int (zI 0)), (6, .int (zI 1)), (0, .ref b0), (1, .ref (ob E 0)), (2, .ref (ob E 327)), (3, .ref (ob E 339)), (4, .ref (ob E 340)), (5, .int (zI (i : Int)))]) C dL_law_596  (by decide) rfl ?_
  refine zv_aload_n C 4 dL_law_598 rfl rfl ?_
  refine zv_cviD (st := []) C (c_X11_thrown hfl E τ593) mX11_thrown kL_200 (by decide : kd 327 = 10) rfl rfl rfl ⟨rfl, rfl⟩ (show zfit (zrm 0 0) 1 room_1 = true from rfl) (Nat.le_of_ble_eq_true rfl) dL_law_599 ⟨by omega, by omega⟩ ?_
  refine zv_eqi (y := (zI 1)) (ht2) ?_
  refine zv_iload C 1 dL_law_602 rfl ?_
  refine zv_icmp_eqZ (tgt := 609) C (by omega) (by omega) dL_law_604 (by decide) (fun h604 => ?_) (fun h604 => ?_)
  · skip
    refine zv_iload C 1 dL_law_609 rfl ?_
    refine zv_if_neZ (tgt := 626) C (by omega) dL_law_611 (by decide) (fun h611 => ?_) (fun h611 => absurd h611 (by decide))
    refine zv_goto (tgt := 3624) C dL_law_626 (by decide) ?_
    refine zv_sub (lv' := [(0, .ref b0), (1, .ref (ob E 0)), (2, .ref (ob E 327)), (3, .ref (ob E 339)), (4, .ref (ob E 340)), (5, .int (zI (i : Int)))]) [2, 3, 4, 5, 6, 7] (zcons rfl (zcons rfl (zcons rfl (zcons rfl (zcons rfl (zcons rfl rfl)))))) ?_
    exact kk _ _ _ _ (by omega) (by omega) hR2
  · exfalso
    omega
set_option maxRecDepth 20000 in
theorem lw_part_x2_x2 {p : Program} {l : Launch} {e : Env} {s : State} {m : MethodId} {args : Array Value} {below : List Frame} {meth : Method} {c : Code} {E : zE} {Q : State → Prop} {b0 L i ce sl : Nat} {xs : Nat → Int32} {σ : zS} (ni : Nat) (tx : Nat → Int) (ec : Nat) (eo : Int) (U : zSU) (S : zST) (hh : List zST) (kp : Option zST) (ou : List Nat) (n1 : Nat) (v2 : Int) (v3 : Int) (W : zLW p l s m args meth c E b0 L xs) (hi : i + 6 ≤ L) (hcs : ce + 1 ≤ room_1.cells ∧ sl + 6 ≤ room_1.slots) (hR : zRel σ (zDv.mk ni tx ec eo U S hh kp ou)) (hx1 : xs (i + 1) = (zI (n1 : Int))) (hx2 : xs (i + 2) = (zI v2)) (hx3 : xs (i + 3) = (zI v3)) (hi0 : n1 < U.nb) (hyi1 : -2147483648 ≤ v2 ∧ v2 < 2147483648) (hno2 : ¬ (0 ≤ v2 ∧ v2 < S.tn n1))  (kk : zNx p l e s m args below meth c E Q b0 i ce sl) : zV p l e room_1 s m args below meth c 9 E Q ce sl σ 549 (lwL b0 i E) [] := by
  refine (?_ : zV p l e room_1 s m args below meth c 9 E Q ce sl σ 549 [(0, .ref b0), (1, .ref (ob E 0)), (2, .ref (ob E 327)), (3, .ref (ob E 339)), (4, .ref (ob E 340)), (5, .int (zI (i : Int)))] [])
  have C := W.2.1
  have hfl := W.1
  have hroom : room_1.cells = 601024 ∧ room_1.slots = 7293034 := ⟨rfl, rfl⟩
  refine zv_aload_n C 1 dL_law_549 rfl rfl ?_
  refine zv_aload_n C 0 dL_law_550 rfl rfl ?_
  refine zv_iload C 5 dL_law_551 rfl ?_
  refine zv_iconst (v := zI 1) C dL_law_553 rfl ?_
  refine zv_iaddZ C dL_law_554 ?_
  refine zv_sld (j := i + 1) (v := (zI (n1 : Int))) C W.2.2.1 W.2.2.2.1 W.2.2.2.2.1 W.2.2.2.2.2 (zI_ix (by omega)) (by omega) hx1 dL_law_555 ?_
  refine zv_aload_n C 0 dL_law_556 rfl rfl ?_
  refine zv_iload C 5 dL_law_557 rfl ?_
  refine zv_iconst (v := zI 2) C dL_law_559 rfl ?_
  refine zv_iaddZ C dL_law_560 ?_
  refine zv_sld (j := i + 2) (v := (zI v2)) C W.2.2.1 W.2.2.2.1 W.2.2.2.2.1 W.2.2.2.2.2 (zI_ix (by omega)) (by omega) hx2 dL_law_561 ?_
  refine zv_aload_n C 0 dL_law_562 rfl rfl ?_
  refine zv_iload C 5 dL_law_563 rfl ?_
  refine zv_iconst (v := zI 3) C dL_law_565 rfl ?_
  refine zv_iaddZ C dL_law_566 ?_
  refine zv_sld (j := i + 3) (v := (zI v3)) C W.2.2.1 W.2.2.2.1 W.2.2.2.2.1 W.2.2.2.2.2 (zI_ix (by omega)) (by omega) hx3 dL_law_567 ?_
  refine zv_aload_n C 3 dL_law_568 rfl rfl ?_
  refine zv_cH (st := []) C (w_x2_X10_part hfl E σ U S n1 v2 v3 hR.1.2.2.1 hR.1.2.2.2.1.1 (by first | assumption | omega) (by first | assumption | omega) (by first | assumption | omega)) mL_part kL_207 rfl ⟨rfl, rfl⟩ (show zfit (zrx 10 224) 6 room_1 = true from rfl) (Nat.le_of_ble_eq_true rfl) dL_law_569 ⟨by exact hcs.1, by exact hcs.2⟩ (fun r569 τ569 hp569 => ?_)
  obtain ⟨hr0, hP9⟩ := hp569
  refine zv_eqi (y := zI 2) hr0 ?_
  have hF9 : zFr 318 327 σ τ569 := by rw [hP9]; exact (by first | exact zFr_refl _ _ _ | exact zFr_rW (zFr_refl _ _ _) (by omega) | exact zFr_rW (zFr_rW (zFr_refl _ _ _) (by omega)) (by omega) | exact qW_f _ _ _ _ | exact qM_f _ _ _ _ _ | exact rW2_f _ _ _ _ _ | exact rW3_f _ _ _ _ _ | exact alW_f _ _ _ _ _ | (split <;> first | exact zFr_refl _ _ _ | exact bW_f _ _ _ _) | assumption)
  have hR1 : zRel τ569 (zDv.mk ni tx ec eo U S hh kp ou) := zRel_c hR hF9
  refine zv_istore (lv' := [(6, .int (zI 2)), (0, .ref b0), (1, .ref (ob E 0)), (2, .ref (ob E 327)), (3, .ref (ob E 339)), (4, .ref (ob E 340)), (5, .int (zI (i : Int)))]) C dL_law_572  (by decide) rfl ?_
  refine zv_aload_n C 3 dL_law_574 rfl rfl ?_
  refine zv_aload_n C 1 dL_law_575 rfl rfl ?_
  refine zv_iload C 6 dL_law_576 rfl ?_
  refine zv_iconst (v := zI 1) C dL_law_578 rfl ?_
  refine zv_iaddZ C dL_law_579 ?_
  refine zv_sld (j := i + 1) (v := (zI (n1 : Int))) C W.2.2.1 W.2.2.2.1 W.2.2.2.2.1 W.2.2.2.2.2 (zI_ix (by omega)) (by omega) hx1 dL_law_580 ?_
  refine zv_aload_n C 1 dL_law_581 rfl rfl ?_
  refine zv_iload C 6 dL_law_582 rfl ?_
  refine zv_iconst (v := zI 2) C dL_law_584 rfl ?_
  refine zv_iaddZ C dL_law_585 ?_
  refine zv_sld (j := i + 2) (v := (zI v2)) C W.2.2.1 W.2.2.2.1 W.2.2.2.2.1 W.2.2.2.2.2 (zI_ix (by omega)) (by omega) hx2 dL_law_586 ?_
  refine zv_aload_n C 1 dL_law_587 rfl rfl ?_
  refine zv_iload C 6 dL_law_588 rfl ?_
  refine zv_iconst (v := zI 3) C dL_law_590 rfl ?_
  refine zv_iaddZ C dL_law_591 ?_
  refine zv_sld (j := i + 3) (v := (zI v3)) C W.2.2.1 W.2.2.2.1 W.2.2.2.2.1 W.2.2.2.2.2 (zI_ix (by omega)) (by omega) hx3 dL_law_592 ?_
  refine zv_cvi (st := []) C (x2_X11_part hfl E τ569 σ U S n1 v2 v3 hR1.2.2.2.1 hR.1.2.2.1 hR1.2.2.2.2.2.1.1 hR.1.2.2.2.1.1 (by first | assumption | omega) (by first | assumption | omega) (by first | assumption | omega)) mX11_part kL_210 (by decide : kd 327 = 10) rfl rfl rfl ⟨rfl, rfl⟩ (show zfit (zrm 2 46) 4 room_1 = true from rfl) (Nat.le_of_ble_eq_true rfl) dL_law_593 ⟨by omega, by omega⟩ (fun r593 τ593 hp593 => ?_)
  obtain ⟨hr2, hK2⟩ := hp593
  refine zv_eqi (y := zI 0) hr2 ?_
  have hR2 : zRel τ593 (zDv.mk ni tx ec eo U S hh kp ou) := zRel_m hR1 hK2
  have ht2 : gI τ593 327 10 = zI 2 := hK2.2
  have hJ2 : gJ τ593 339 0 = gJ τ569 339 0 := hK2.1.2.1 339 0 (by decide)
  have hD2 : gD τ593 340 0 = gD τ569 340 0 := hK2.1.2.2 340 0
  refine zv_istore (lv' := [(7, .int (zI 0)), (6, .int (zI 2)), (0, .ref b0), (1, .ref (ob E 0)), (2, .ref (ob E 327)), (3, .ref (ob E 339)), (4, .ref (ob E 340)), (5, .int (zI (i : Int)))]) C dL_law_596  (by decide) rfl ?_
  refine zv_aload_n C 4 dL_law_598 rfl rfl ?_
  refine zv_cviD (st := []) C (c_X11_thrown hfl E τ593) mX11_thrown kL_200 (by decide : kd 327 = 10) rfl rfl rfl ⟨rfl, rfl⟩ (show zfit (zrm 0 0) 1 room_1 = true from rfl) (Nat.le_of_ble_eq_true rfl) dL_law_599 ⟨by omega, by omega⟩ ?_
  refine zv_eqi (y := (zI 2)) (ht2) ?_
  refine zv_iload C 1 dL_law_602 rfl ?_
  refine zv_icmp_eqZ (tgt := 609) C (by omega) (by omega) dL_law_604 (by decide) (fun h604 => ?_) (fun h604 => ?_)
  · skip
    refine zv_iload C 1 dL_law_609 rfl ?_
    refine zv_if_neZ (tgt := 626) C (by omega) dL_law_611 (by decide) (fun h611 => ?_) (fun h611 => absurd h611 (by decide))
    refine zv_goto (tgt := 3624) C dL_law_626 (by decide) ?_
    refine zv_sub (lv' := [(0, .ref b0), (1, .ref (ob E 0)), (2, .ref (ob E 327)), (3, .ref (ob E 339)), (4, .ref (ob E 340)), (5, .int (zI (i : Int)))]) [2, 3, 4, 5, 6, 7] (zcons rfl (zcons rfl (zcons rfl (zcons rfl (zcons rfl (zcons rfl rfl)))))) ?_
    exact kk _ _ _ _ (by omega) (by omega) hR2
  · exfalso
    omega
set_option maxRecDepth 20000 in
theorem lw_part_x3_x3 {p : Program} {l : Launch} {e : Env} {s : State} {m : MethodId} {args : Array Value} {below : List Frame} {meth : Method} {c : Code} {E : zE} {Q : State → Prop} {b0 L i ce sl : Nat} {xs : Nat → Int32} {σ : zS} (ni : Nat) (tx : Nat → Int) (ec : Nat) (eo : Int) (U : zSU) (S : zST) (hh : List zST) (kp : Option zST) (ou : List Nat) (n1 : Nat) (n2 : Nat) (v3 : Int) (W : zLW p l s m args meth c E b0 L xs) (hi : i + 6 ≤ L) (hcs : ce + 1 ≤ room_1.cells ∧ sl + 6 ≤ room_1.slots) (hR : zRel σ (zDv.mk ni tx ec eo U S hh kp ou)) (hx1 : xs (i + 1) = (zI (n1 : Int))) (hx2 : xs (i + 2) = (zI (n2 : Int))) (hx3 : xs (i + 3) = (zI v3)) (hi0 : n1 < U.nb) (hj1 : n2 < S.tn n1) (hzi2 : -2147483648 ≤ v3 ∧ v3 < 2147483648) (hno3 : ¬ (0 ≤ v3 ∧ v3 ≤ 2))  (kk : zNx p l e s m args below meth c E Q b0 i ce sl) : zV p l e room_1 s m args below meth c 9 E Q ce sl σ 549 (lwL b0 i E) [] := by
  refine (?_ : zV p l e room_1 s m args below meth c 9 E Q ce sl σ 549 [(0, .ref b0), (1, .ref (ob E 0)), (2, .ref (ob E 327)), (3, .ref (ob E 339)), (4, .ref (ob E 340)), (5, .int (zI (i : Int)))] [])
  have C := W.2.1
  have hfl := W.1
  have hroom : room_1.cells = 601024 ∧ room_1.slots = 7293034 := ⟨rfl, rfl⟩
  refine zv_aload_n C 1 dL_law_549 rfl rfl ?_
  refine zv_aload_n C 0 dL_law_550 rfl rfl ?_
  refine zv_iload C 5 dL_law_551 rfl ?_
  refine zv_iconst (v := zI 1) C dL_law_553 rfl ?_
  refine zv_iaddZ C dL_law_554 ?_
  refine zv_sld (j := i + 1) (v := (zI (n1 : Int))) C W.2.2.1 W.2.2.2.1 W.2.2.2.2.1 W.2.2.2.2.2 (zI_ix (by omega)) (by omega) hx1 dL_law_555 ?_
  refine zv_aload_n C 0 dL_law_556 rfl rfl ?_
  refine zv_iload C 5 dL_law_557 rfl ?_
  refine zv_iconst (v := zI 2) C dL_law_559 rfl ?_
  refine zv_iaddZ C dL_law_560 ?_
  refine zv_sld (j := i + 2) (v := (zI (n2 : Int))) C W.2.2.1 W.2.2.2.1 W.2.2.2.2.1 W.2.2.2.2.2 (zI_ix (by omega)) (by omega) hx2 dL_law_561 ?_
  refine zv_aload_n C 0 dL_law_562 rfl rfl ?_
  refine zv_iload C 5 dL_law_563 rfl ?_
  refine zv_iconst (v := zI 3) C dL_law_565 rfl ?_
  refine zv_iaddZ C dL_law_566 ?_
  refine zv_sld (j := i + 3) (v := (zI v3)) C W.2.2.1 W.2.2.2.1 W.2.2.2.2.1 W.2.2.2.2.2 (zI_ix (by omega)) (by omega) hx3 dL_law_567 ?_
  refine zv_aload_n C 3 dL_law_568 rfl rfl ?_
  refine zv_cH (st := []) C (w_x3_X10_part hfl E σ U S n1 n2 v3 hR.1.2.2.1 hR.1.2.2.2.1.1 (by first | assumption | omega) (by first | assumption | omega) (by first | assumption | omega) (by first | assumption | omega)) mL_part kL_207 rfl ⟨rfl, rfl⟩ (show zfit (zrx 10 224) 6 room_1 = true from rfl) (Nat.le_of_ble_eq_true rfl) dL_law_569 ⟨by exact hcs.1, by exact hcs.2⟩ (fun r569 τ569 hp569 => ?_)
  obtain ⟨hr0, hP9⟩ := hp569
  refine zv_eqi (y := zI 3) hr0 ?_
  have hF9 : zFr 318 327 σ τ569 := by rw [hP9]; exact (by first | exact zFr_refl _ _ _ | exact zFr_rW (zFr_refl _ _ _) (by omega) | exact zFr_rW (zFr_rW (zFr_refl _ _ _) (by omega)) (by omega) | exact qW_f _ _ _ _ | exact qM_f _ _ _ _ _ | exact rW2_f _ _ _ _ _ | exact rW3_f _ _ _ _ _ | exact alW_f _ _ _ _ _ | (split <;> first | exact zFr_refl _ _ _ | exact bW_f _ _ _ _) | assumption)
  have hR1 : zRel τ569 (zDv.mk ni tx ec eo U S hh kp ou) := zRel_c hR hF9
  refine zv_istore (lv' := [(6, .int (zI 3)), (0, .ref b0), (1, .ref (ob E 0)), (2, .ref (ob E 327)), (3, .ref (ob E 339)), (4, .ref (ob E 340)), (5, .int (zI (i : Int)))]) C dL_law_572  (by decide) rfl ?_
  refine zv_aload_n C 3 dL_law_574 rfl rfl ?_
  refine zv_aload_n C 1 dL_law_575 rfl rfl ?_
  refine zv_iload C 6 dL_law_576 rfl ?_
  refine zv_iconst (v := zI 1) C dL_law_578 rfl ?_
  refine zv_iaddZ C dL_law_579 ?_
  refine zv_sld (j := i + 1) (v := (zI (n1 : Int))) C W.2.2.1 W.2.2.2.1 W.2.2.2.2.1 W.2.2.2.2.2 (zI_ix (by omega)) (by omega) hx1 dL_law_580 ?_
  refine zv_aload_n C 1 dL_law_581 rfl rfl ?_
  refine zv_iload C 6 dL_law_582 rfl ?_
  refine zv_iconst (v := zI 2) C dL_law_584 rfl ?_
  refine zv_iaddZ C dL_law_585 ?_
  refine zv_sld (j := i + 2) (v := (zI (n2 : Int))) C W.2.2.1 W.2.2.2.1 W.2.2.2.2.1 W.2.2.2.2.2 (zI_ix (by omega)) (by omega) hx2 dL_law_586 ?_
  refine zv_aload_n C 1 dL_law_587 rfl rfl ?_
  refine zv_iload C 6 dL_law_588 rfl ?_
  refine zv_iconst (v := zI 3) C dL_law_590 rfl ?_
  refine zv_iaddZ C dL_law_591 ?_
  refine zv_sld (j := i + 3) (v := (zI v3)) C W.2.2.1 W.2.2.2.1 W.2.2.2.2.1 W.2.2.2.2.2 (zI_ix (by omega)) (by omega) hx3 dL_law_592 ?_
  refine zv_cvi (st := []) C (x3_X11_part hfl E τ569 σ U S n1 n2 v3 hR1.2.2.2.1 hR.1.2.2.1 hR1.2.2.2.2.2.1.1 hR.1.2.2.2.1.1 (by first | assumption | omega) (by first | assumption | omega) (by first | assumption | omega) (by first | assumption | omega)) mX11_part kL_210 (by decide : kd 327 = 10) rfl rfl rfl ⟨rfl, rfl⟩ (show zfit (zrm 2 46) 4 room_1 = true from rfl) (Nat.le_of_ble_eq_true rfl) dL_law_593 ⟨by omega, by omega⟩ (fun r593 τ593 hp593 => ?_)
  obtain ⟨hr2, hK2⟩ := hp593
  refine zv_eqi (y := zI 0) hr2 ?_
  have hR2 : zRel τ593 (zDv.mk ni tx ec eo U S hh kp ou) := zRel_m hR1 hK2
  have ht2 : gI τ593 327 10 = zI 3 := hK2.2
  have hJ2 : gJ τ593 339 0 = gJ τ569 339 0 := hK2.1.2.1 339 0 (by decide)
  have hD2 : gD τ593 340 0 = gD τ569 340 0 := hK2.1.2.2 340 0
  refine zv_istore (lv' := [(7, .int (zI 0)), (6, .int (zI 3)), (0, .ref b0), (1, .ref (ob E 0)), (2, .ref (ob E 327)), (3, .ref (ob E 339)), (4, .ref (ob E 340)), (5, .int (zI (i : Int)))]) C dL_law_596  (by decide) rfl ?_
  refine zv_aload_n C 4 dL_law_598 rfl rfl ?_
  refine zv_cviD (st := []) C (c_X11_thrown hfl E τ593) mX11_thrown kL_200 (by decide : kd 327 = 10) rfl rfl rfl ⟨rfl, rfl⟩ (show zfit (zrm 0 0) 1 room_1 = true from rfl) (Nat.le_of_ble_eq_true rfl) dL_law_599 ⟨by omega, by omega⟩ ?_
  refine zv_eqi (y := (zI 3)) (ht2) ?_
  refine zv_iload C 1 dL_law_602 rfl ?_
  refine zv_icmp_eqZ (tgt := 609) C (by omega) (by omega) dL_law_604 (by decide) (fun h604 => ?_) (fun h604 => ?_)
  · skip
    refine zv_iload C 1 dL_law_609 rfl ?_
    refine zv_if_neZ (tgt := 626) C (by omega) dL_law_611 (by decide) (fun h611 => ?_) (fun h611 => absurd h611 (by decide))
    refine zv_goto (tgt := 3624) C dL_law_626 (by decide) ?_
    refine zv_sub (lv' := [(0, .ref b0), (1, .ref (ob E 0)), (2, .ref (ob E 327)), (3, .ref (ob E 339)), (4, .ref (ob E 340)), (5, .int (zI (i : Int)))]) [2, 3, 4, 5, 6, 7] (zcons rfl (zcons rfl (zcons rfl (zcons rfl (zcons rfl (zcons rfl rfl)))))) ?_
    exact kk _ _ _ _ (by omega) (by omega) hR2
  · exfalso
    omega
theorem LK_7 {p : Program} {l : Launch} {e : Env} {s : State} {m : MethodId} {args : Array Value} {below : List Frame} {meth : Method} {c : Code} {E : zE} {Q : State → Prop} {b0 L i ce sl : Nat} {xs : Nat → Int32} {σ : zS} (ni : Nat) (tx : Nat → Int) (ec : Nat) (eo : Int) (U : zSU) (S : zST) (hh : List zST) (kp : Option zST) (ou : List Nat) (hFN : zFN) (W : zLW p l s m args meth c E b0 L xs) (hi : i + 6 ≤ L) (hcs : ce + 1 ≤ room_1.cells ∧ sl + 6 ≤ room_1.slots) (hR : zRel σ (zDv.mk ni tx ec eo U S hh kp ou)) (kk : zNx p l e s m args below meth c E Q b0 i ce sl) : zV p l e room_1 s m args below meth c 9 E Q ce sl σ 549 (lwL b0 i E) [] := by
  obtain ⟨v1, hx1, hv1⟩ := zI_cov (xs (i + 1))
  obtain ⟨v2, hx2, hv2⟩ := zI_cov (xs (i + 2))
  obtain ⟨v3, hx3, hv3⟩ := zI_cov (xs (i + 3))
  by_cases g1 : 0 ≤ v1 ∧ v1 < U.nb
  case neg =>
    exact lw_part_x1_x1 _ _ _ _ _ _ _ _ _ _ _ _ W hi hcs hR hx1 hx2 hx3 (by first | assumption | omega) (by first | assumption | omega) kk
  obtain ⟨n1, rfl⟩ := Int.eq_ofNat_of_zero_le (show 0 ≤ v1 by omega)
  by_cases g2 : 0 ≤ v2 ∧ v2 < S.tn n1
  case neg =>
    exact lw_part_x2_x2 _ _ _ _ _ _ _ _ _ _ _ _ W hi hcs hR hx1 hx2 hx3 (by first | assumption | omega) (by first | assumption | omega) (by first | assumption | omega) kk
  obtain ⟨n2, rfl⟩ := Int.eq_ofNat_of_zero_le (show 0 ≤ v2 by omega)
  by_cases g3 : 0 ≤ v3 ∧ v3 ≤ 2
  case neg =>
    exact lw_part_x3_x3 _ _ _ _ _ _ _ _ _ _ _ _ W hi hcs hR hx1 hx2 hx3 (by first | assumption | omega) (by first | assumption | omega) (by first | assumption | omega) (by first | assumption | omega) kk
  obtain ⟨n3, rfl⟩ := Int.eq_ofNat_of_zero_le (show 0 ≤ v3 by omega)
  exact lw_part_c_c _ _ _ _ _ _ _ _ _ _ _ _ W hi hcs hR hx1 hx2 hx3 (by first | assumption | omega) (by first | assumption | omega) (by first | assumption | omega) kk
theorem dL_law_629 : decode cL_law 629 = .ok (.aload_n 1, 1) := by decide +kernel
theorem dL_law_630 : decode cL_law 630 = .ok (.aload_n 0, 1) := by decide +kernel
theorem dL_law_631 : decode cL_law 631 = .ok (.iload 5, 2) := by decide +kernel
theorem dL_law_633 : decode cL_law 633 = .ok (.iconst 1, 1) := by decide +kernel
theorem dL_law_634 : decode cL_law 634 = .ok (.iadd, 1) := by decide +kernel
theorem dL_law_635 : decode cL_law 635 = .ok (.iaload, 1) := by decide +kernel
theorem dL_law_636 : decode cL_law 636 = .ok (.aload_n 3, 1) := by decide +kernel
theorem dL_law_637 : decode cL_law 637 = .ok (.invokestatic 211, 3) := by decide +kernel
theorem dL_law_640 : decode cL_law 640 = .ok (.istore 6, 2) := by decide +kernel
theorem dL_law_642 : decode cL_law 642 = .ok (.aload_n 2, 1) := by decide +kernel
theorem dL_law_643 : decode cL_law 643 = .ok (.aload_n 0, 1) := by decide +kernel
theorem dL_law_644 : decode cL_law 644 = .ok (.iload 5, 2) := by decide +kernel
theorem dL_law_646 : decode cL_law 646 = .ok (.iconst 1, 1) := by decide +kernel
theorem dL_law_647 : decode cL_law 647 = .ok (.iadd, 1) := by decide +kernel
theorem dL_law_648 : decode cL_law 648 = .ok (.iaload, 1) := by decide +kernel
theorem dL_law_649 : decode cL_law 649 = .ok (.invokevirtual 213, 3) := by decide +kernel
theorem dL_law_652 : decode cL_law 652 = .ok (.istore 7, 2) := by decide +kernel
theorem dL_law_654 : decode cL_law 654 = .ok (.aload_n 2, 1) := by decide +kernel
theorem dL_law_655 : decode cL_law 655 = .ok (.invokevirtual 200, 3) := by decide +kernel
theorem dL_law_658 : decode cL_law 658 = .ok (.iload 6, 2) := by decide +kernel
theorem dL_law_660 : decode cL_law 660 = .ok (.if_icmp .eq 5, 3) := by decide +kernel
theorem dL_law_663 : decode cL_law 663 = .ok (.iconst 0, 1) := by decide +kernel
theorem dL_law_664 : decode cL_law 664 = .ok (.ireturn, 1) := by decide +kernel
theorem dL_law_665 : decode cL_law 665 = .ok (.iload 6, 2) := by decide +kernel
theorem dL_law_667 : decode cL_law 667 = .ok (.ifCond .ne 15, 3) := by decide +kernel
theorem dL_law_670 : decode cL_law 670 = .ok (.aload_n 3, 1) := by decide +kernel
theorem dL_law_671 : decode cL_law 671 = .ok (.iconst 0, 1) := by decide +kernel
theorem dL_law_672 : decode cL_law 672 = .ok (.laload, 1) := by decide +kernel
theorem dL_law_673 : decode cL_law 673 = .ok (.iload 7, 2) := by decide +kernel
theorem dL_law_675 : decode cL_law 675 = .ok (.i2l, 1) := by decide +kernel
theorem dL_law_676 : decode cL_law 676 = .ok (.lcmp, 1) := by decide +kernel
theorem dL_law_677 : decode cL_law 677 = .ok (.ifCond .eq 5, 3) := by decide +kernel
theorem dL_law_680 : decode cL_law 680 = .ok (.iconst 0, 1) := by decide +kernel
theorem dL_law_681 : decode cL_law 681 = .ok (.ireturn, 1) := by decide +kernel
theorem dL_law_682 : decode cL_law 682 = .ok (.goto 2942, 3) := by decide +kernel
set_option maxRecDepth 20000 in
theorem lw_stock_c_c {p : Program} {l : Launch} {e : Env} {s : State} {m : MethodId} {args : Array Value} {below : List Frame} {meth : Method} {c : Code} {E : zE} {Q : State → Prop} {b0 L i ce sl : Nat} {xs : Nat → Int32} {σ : zS} (ni : Nat) (tx : Nat → Int) (ec : Nat) (eo : Int) (U : zSU) (S : zST) (hh : List zST) (kp : Option zST) (ou : List Nat) (n1 : Nat) (W : zLW p l s m args meth c E b0 L xs) (hi : i + 6 ≤ L) (hcs : ce + 1 ≤ room_1.cells ∧ sl + 6 ≤ room_1.slots) (hR : zRel σ (zDv.mk ni tx ec eo U S hh kp ou)) (hx1 : xs (i + 1) = (zI (n1 : Int))) (hj0 : n1 < S.n)  (kk : zNx p l e s m args below meth c E Q b0 i ce sl) : zV p l e room_1 s m args below meth c 9 E Q ce sl σ 629 (lwL b0 i E) [] := by
  refine (?_ : zV p l e room_1 s m args below meth c 9 E Q ce sl σ 629 [(0, .ref b0), (1, .ref (ob E 0)), (2, .ref (ob E 327)), (3, .ref (ob E 339)), (4, .ref (ob E 340)), (5, .int (zI (i : Int)))] [])
  have C := W.2.1
  have hfl := W.1
  have hroom : room_1.cells = 601024 ∧ room_1.slots = 7293034 := ⟨rfl, rfl⟩
  refine zv_aload_n C 1 dL_law_629 rfl rfl ?_
  refine zv_aload_n C 0 dL_law_630 rfl rfl ?_
  refine zv_iload C 5 dL_law_631 rfl ?_
  refine zv_iconst (v := zI 1) C dL_law_633 rfl ?_
  refine zv_iaddZ C dL_law_634 ?_
  refine zv_sld (j := i + 1) (v := (zI (n1 : Int))) C W.2.2.1 W.2.2.2.1 W.2.2.2.2.1 W.2.2.2.2.2 (zI_ix (by omega)) (by omega) hx1 dL_law_635 ?_
  refine zv_aload_n C 3 dL_law_636 rfl rfl ?_
  refine zv_cH (st := []) C (w_c_X10_stock hfl E σ S n1 hR.1.2.2.2.1.1 (by first | assumption | omega)) mL_stock kL_211 rfl ⟨rfl, rfl⟩ (show zfit (zrm 1 21) 4 room_1 = true from rfl) (Nat.le_of_ble_eq_true rfl) dL_law_637 ⟨by omega, by omega⟩ (fun r637 τ637 hp637 => ?_)
  obtain ⟨hr0, v9, υ9, hP9, hτ9⟩ := hp637
  refine zv_eqi (y := zI 0) hr0 ?_
  obtain ⟨hv9, hW9⟩ := hP9
  have hF9 : zFr 318 327 σ υ9 := by first | exact hW9 | (rw [hW9]; exact (by first | exact zFr_refl _ _ _ | exact zFr_rW (zFr_refl _ _ _) (by omega) | exact zFr_rW (zFr_rW (zFr_refl _ _ _) (by omega)) (by omega) | exact qW_f _ _ _ _ | exact qM_f _ _ _ _ _ | exact rW2_f _ _ _ _ _ | exact rW3_f _ _ _ _ _ | exact alW_f _ _ _ _ _ | (split <;> first | exact zFr_refl _ _ _ | exact bW_f _ _ _ _) | assumption))
  have hR1 : zRel τ637 (zDv.mk ni tx ec eo U S hh kp ou) := by rw [hτ9]; exact zRel_J (zRel_c hR hF9) _
  have ho9 : gJ τ637 339 0 = v9.toInt64 := by rw [hτ9, gJ_sJ, if_pos ⟨rfl, rfl⟩]
  rw [hv9] at ho9
  refine zv_istore (lv' := [(6, .int (zI 0)), (0, .ref b0), (1, .ref (ob E 0)), (2, .ref (ob E 327)), (3, .ref (ob E 339)), (4, .ref (ob E 340)), (5, .int (zI (i : Int)))]) C dL_law_640  (by decide) rfl ?_
  refine zv_aload_n C 3 dL_law_642 rfl rfl ?_
  refine zv_aload_n C 1 dL_law_643 rfl rfl ?_
  refine zv_iload C 6 dL_law_644 rfl ?_
  refine zv_iconst (v := zI 1) C dL_law_646 rfl ?_
  refine zv_iaddZ C dL_law_647 ?_
  refine zv_sld (j := i + 1) (v := (zI (n1 : Int))) C W.2.2.1 W.2.2.2.1 W.2.2.2.2.1 W.2.2.2.2.2 (zI_ix (by omega)) (by omega) hx1 dL_law_648 ?_
  refine zv_cvi (st := []) C (c_X11_stock hfl E τ637 U.nb S n1 hR1.2.2.2.2.2.1.1 hR1.2.2.2.2.2.1.2.1 (by first | assumption | omega)) mX11_stock kL_213 (by decide : kd 327 = 10) rfl rfl rfl ⟨rfl, rfl⟩ (show zfit (zrm 1 25) 2 room_1 = true from rfl) (Nat.le_of_ble_eq_true rfl) dL_law_649 ⟨by omega, by omega⟩ (fun r649 τ649 hp649 => ?_)
  obtain ⟨hr2, hK2⟩ := hp649
  refine zv_eqi (y := zI (S.f n1 : Int)) hr2 ?_
  have hR2 : zRel τ649 (zDv.mk ni tx ec eo U S hh kp ou) := zRel_m hR1 hK2
  have ht2 : gI τ649 327 10 = zI 0 := hK2.2
  have hJ2 : gJ τ649 339 0 = gJ τ637 339 0 := hK2.1.2.1 339 0 (by decide)
  have hD2 : gD τ649 340 0 = gD τ637 340 0 := hK2.1.2.2 340 0
  refine zv_istore (lv' := [(7, .int (zI (S.f n1 : Int))), (6, .int (zI 0)), (0, .ref b0), (1, .ref (ob E 0)), (2, .ref (ob E 327)), (3, .ref (ob E 339)), (4, .ref (ob E 340)), (5, .int (zI (i : Int)))]) C dL_law_652  (by decide) rfl ?_
  refine zv_aload_n C 4 dL_law_654 rfl rfl ?_
  refine zv_cviD (st := []) C (c_X11_thrown hfl E τ649) mX11_thrown kL_200 (by decide : kd 327 = 10) rfl rfl rfl ⟨rfl, rfl⟩ (show zfit (zrm 0 0) 1 room_1 = true from rfl) (Nat.le_of_ble_eq_true rfl) dL_law_655 ⟨by omega, by omega⟩ ?_
  refine zv_eqi (y := (zI 0)) (ht2) ?_
  refine zv_iload C 1 dL_law_658 rfl ?_
  refine zv_icmp_eqZ (tgt := 665) C (by omega) (by omega) dL_law_660 (by decide) (fun h660 => ?_) (fun h660 => ?_)
  · skip
    refine zv_iload C 1 dL_law_665 rfl ?_
    refine zv_if_neZ (tgt := 682) C (by omega) dL_law_667 (by decide) (fun h667 => absurd h667 (by decide)) (fun h667 => ?_)
    refine zv_aload_n C 5 dL_law_670 rfl rfl ?_
    refine zv_iconst (v := zI 0) C dL_law_671 rfl ?_
    refine zv_lald (j := 0) C (by decide : kd 339 = _) (zI_ix (by omega)) (by decide) dL_law_672 ?_
    refine zv_eql (y := ((zI (S.f n1 : Int)).toInt64)) (hJ2.trans ho9) ?_
    refine zv_iload C 0 dL_law_673 rfl ?_
    refine zv_i2l C dL_law_675 ?_
    refine zv_lc_eq (tgt := 682) C dL_law_676 dL_law_677 (by decide) (fun h676 => ?_) (fun h676 => ?_)
    · skip
      refine zv_goto (tgt := 3624) C dL_law_682 (by decide) ?_
      refine zv_sub (lv' := [(0, .ref b0), (1, .ref (ob E 0)), (2, .ref (ob E 327)), (3, .ref (ob E 339)), (4, .ref (ob E 340)), (5, .int (zI (i : Int)))]) [2, 3, 4, 5, 6, 7] (zcons rfl (zcons rfl (zcons rfl (zcons rfl (zcons rfl (zcons rfl rfl)))))) ?_
      exact kk _ _ _ _ (by omega) (by omega) hR2
    · exfalso
      exact h676 rfl
  · exfalso
    omega
set_option maxRecDepth 20000 in
theorem lw_stock_x1_x1 {p : Program} {l : Launch} {e : Env} {s : State} {m : MethodId} {args : Array Value} {below : List Frame} {meth : Method} {c : Code} {E : zE} {Q : State → Prop} {b0 L i ce sl : Nat} {xs : Nat → Int32} {σ : zS} (ni : Nat) (tx : Nat → Int) (ec : Nat) (eo : Int) (U : zSU) (S : zST) (hh : List zST) (kp : Option zST) (ou : List Nat) (v1 : Int) (W : zLW p l s m args meth c E b0 L xs) (hi : i + 6 ≤ L) (hcs : ce + 1 ≤ room_1.cells ∧ sl + 6 ≤ room_1.slots) (hR : zRel σ (zDv.mk ni tx ec eo U S hh kp ou)) (hx1 : xs (i + 1) = (zI v1)) (hyi0 : -2147483648 ≤ v1 ∧ v1 < 2147483648) (hno1 : ¬ (0 ≤ v1 ∧ v1 < S.n))  (kk : zNx p l e s m args below meth c E Q b0 i ce sl) : zV p l e room_1 s m args below meth c 9 E Q ce sl σ 629 (lwL b0 i E) [] := by
  refine (?_ : zV p l e room_1 s m args below meth c 9 E Q ce sl σ 629 [(0, .ref b0), (1, .ref (ob E 0)), (2, .ref (ob E 327)), (3, .ref (ob E 339)), (4, .ref (ob E 340)), (5, .int (zI (i : Int)))] [])
  have C := W.2.1
  have hfl := W.1
  have hroom : room_1.cells = 601024 ∧ room_1.slots = 7293034 := ⟨rfl, rfl⟩
  refine zv_aload_n C 1 dL_law_629 rfl rfl ?_
  refine zv_aload_n C 0 dL_law_630 rfl rfl ?_
  refine zv_iload C 5 dL_law_631 rfl ?_
  refine zv_iconst (v := zI 1) C dL_law_633 rfl ?_
  refine zv_iaddZ C dL_law_634 ?_
  refine zv_sld (j := i + 1) (v := (zI v1)) C W.2.2.1 W.2.2.2.1 W.2.2.2.2.1 W.2.2.2.2.2 (zI_ix (by omega)) (by omega) hx1 dL_law_635 ?_
  refine zv_aload_n C 3 dL_law_636 rfl rfl ?_
  refine zv_cH (st := []) C (w_x1_X10_stock hfl E σ S v1 hR.1.2.2.2.1.1 (by first | assumption | omega) (by first | assumption | omega)) mL_stock kL_211 rfl ⟨rfl, rfl⟩ (show zfit (zrx 10 221) 4 room_1 = true from rfl) (Nat.le_of_ble_eq_true rfl) dL_law_637 ⟨by exact hcs.1, by exact hcs.2⟩ (fun r637 τ637 hp637 => ?_)
  obtain ⟨hr0, hP9⟩ := hp637
  refine zv_eqi (y := zI 1) hr0 ?_
  have hF9 : zFr 318 327 σ τ637 := by rw [hP9]; exact (by first | exact zFr_refl _ _ _ | exact zFr_rW (zFr_refl _ _ _) (by omega) | exact zFr_rW (zFr_rW (zFr_refl _ _ _) (by omega)) (by omega) | exact qW_f _ _ _ _ | exact qM_f _ _ _ _ _ | exact rW2_f _ _ _ _ _ | exact rW3_f _ _ _ _ _ | exact alW_f _ _ _ _ _ | (split <;> first | exact zFr_refl _ _ _ | exact bW_f _ _ _ _) | assumption)
  have hR1 : zRel τ637 (zDv.mk ni tx ec eo U S hh kp ou) := zRel_c hR hF9
  refine zv_istore (lv' := [(6, .int (zI 1)), (0, .ref b0), (1, .ref (ob E 0)), (2, .ref (ob E 327)), (3, .ref (ob E 339)), (4, .ref (ob E 340)), (5, .int (zI (i : Int)))]) C dL_law_640  (by decide) rfl ?_
  refine zv_aload_n C 3 dL_law_642 rfl rfl ?_
  refine zv_aload_n C 1 dL_law_643 rfl rfl ?_
  refine zv_iload C 6 dL_law_644 rfl ?_
  refine zv_iconst (v := zI 1) C dL_law_646 rfl ?_
  refine zv_iaddZ C dL_law_647 ?_
  refine zv_sld (j := i + 1) (v := (zI v1)) C W.2.2.1 W.2.2.2.1 W.2.2.2.2.1 W.2.2.2.2.2 (zI_ix (by omega)) (by omega) hx1 dL_law_648 ?_
  refine zv_cvi (st := []) C (x1_X11_stock hfl E τ637 U.nb S v1 hR1.2.2.2.2.2.1.1 hR1.2.2.2.2.2.1.2.1 (by first | assumption | omega) (by first | assumption | omega)) mX11_stock kL_213 (by decide : kd 327 = 10) rfl rfl rfl ⟨rfl, rfl⟩ (show zfit (zrm 1 25) 2 room_1 = true from rfl) (Nat.le_of_ble_eq_true rfl) dL_law_649 ⟨by omega, by omega⟩ (fun r649 τ649 hp649 => ?_)
  obtain ⟨hr2, hK2⟩ := hp649
  refine zv_eqi (y := zI 0) hr2 ?_
  have hR2 : zRel τ649 (zDv.mk ni tx ec eo U S hh kp ou) := zRel_m hR1 hK2
  have ht2 : gI τ649 327 10 = zI 1 := hK2.2
  have hJ2 : gJ τ649 339 0 = gJ τ637 339 0 := hK2.1.2.1 339 0 (by decide)
  have hD2 : gD τ649 340 0 = gD τ637 340 0 := hK2.1.2.2 340 0
  refine zv_istore (lv' := [(7, .int (zI 0)), (6, .int (zI 1)), (0, .ref b0), (1, .ref (ob E 0)), (2, .ref (ob E 327)), (3, .ref (ob E 339)), (4, .ref (ob E 340)), (5, .int (zI (i : Int)))]) C dL_law_652  (by decide) rfl ?_
  refine zv_aload_n C 4 dL_law_654 rfl rfl ?_
  refine zv_cviD (st := []) C (c_X11_thrown hfl E τ649) mX11_thrown kL_200 (by decide : kd 327 = 10) rfl rfl rfl ⟨rfl, rfl⟩ (show zfit (zrm 0 0) 1 room_1 = true from rfl) (Nat.le_of_ble_eq_true rfl) dL_law_655 ⟨by omega, by omega⟩ ?_
  refine zv_eqi (y := (zI 1)) (ht2) ?_
  refine zv_iload C 1 dL_law_658 rfl ?_
  refine zv_icmp_eqZ (tgt := 665) C (by omega) (by omega) dL_law_660 (by decide) (fun h660 => ?_) (fun h660 => ?_)
  · skip
    refine zv_iload C 1 dL_law_665 rfl ?_
    refine zv_if_neZ (tgt := 682) C (by omega) dL_law_667 (by decide) (fun h667 => ?_) (fun h667 => absurd h667 (by decide))
    refine zv_goto (tgt := 3624) C dL_law_682 (by decide) ?_
    refine zv_sub (lv' := [(0, .ref b0), (1, .ref (ob E 0)), (2, .ref (ob E 327)), (3, .ref (ob E 339)), (4, .ref (ob E 340)), (5, .int (zI (i : Int)))]) [2, 3, 4, 5, 6, 7] (zcons rfl (zcons rfl (zcons rfl (zcons rfl (zcons rfl (zcons rfl rfl)))))) ?_
    exact kk _ _ _ _ (by omega) (by omega) hR2
  · exfalso
    omega
theorem LK_8 {p : Program} {l : Launch} {e : Env} {s : State} {m : MethodId} {args : Array Value} {below : List Frame} {meth : Method} {c : Code} {E : zE} {Q : State → Prop} {b0 L i ce sl : Nat} {xs : Nat → Int32} {σ : zS} (ni : Nat) (tx : Nat → Int) (ec : Nat) (eo : Int) (U : zSU) (S : zST) (hh : List zST) (kp : Option zST) (ou : List Nat) (hFN : zFN) (W : zLW p l s m args meth c E b0 L xs) (hi : i + 6 ≤ L) (hcs : ce + 1 ≤ room_1.cells ∧ sl + 6 ≤ room_1.slots) (hR : zRel σ (zDv.mk ni tx ec eo U S hh kp ou)) (kk : zNx p l e s m args below meth c E Q b0 i ce sl) : zV p l e room_1 s m args below meth c 9 E Q ce sl σ 629 (lwL b0 i E) [] := by
  obtain ⟨v1, hx1, hv1⟩ := zI_cov (xs (i + 1))
  by_cases g1 : 0 ≤ v1 ∧ v1 < S.n
  case neg =>
    exact lw_stock_x1_x1 _ _ _ _ _ _ _ _ _ _ W hi hcs hR hx1 (by first | assumption | omega) (by first | assumption | omega) kk
  obtain ⟨n1, rfl⟩ := Int.eq_ofNat_of_zero_le (show 0 ≤ v1 by omega)
  exact lw_stock_c_c _ _ _ _ _ _ _ _ _ _ W hi hcs hR hx1 (by first | assumption | omega) kk
theorem dL_law_685 : decode cL_law 685 = .ok (.aload_n 1, 1) := by decide +kernel
theorem dL_law_686 : decode cL_law 686 = .ok (.aload_n 0, 1) := by decide +kernel
theorem dL_law_687 : decode cL_law 687 = .ok (.iload 5, 2) := by decide +kernel
theorem dL_law_689 : decode cL_law 689 = .ok (.iconst 1, 1) := by decide +kernel
theorem dL_law_690 : decode cL_law 690 = .ok (.iadd, 1) := by decide +kernel
theorem dL_law_691 : decode cL_law 691 = .ok (.iaload, 1) := by decide +kernel
theorem dL_law_692 : decode cL_law 692 = .ok (.aload_n 3, 1) := by decide +kernel
theorem dL_law_693 : decode cL_law 693 = .ok (.invokestatic 214, 3) := by decide +kernel
theorem dL_law_696 : decode cL_law 696 = .ok (.istore 6, 2) := by decide +kernel
theorem dL_law_698 : decode cL_law 698 = .ok (.aload_n 2, 1) := by decide +kernel
theorem dL_law_699 : decode cL_law 699 = .ok (.aload_n 0, 1) := by decide +kernel
theorem dL_law_700 : decode cL_law 700 = .ok (.iload 5, 2) := by decide +kernel
theorem dL_law_702 : decode cL_law 702 = .ok (.iconst 1, 1) := by decide +kernel
theorem dL_law_703 : decode cL_law 703 = .ok (.iadd, 1) := by decide +kernel
theorem dL_law_704 : decode cL_law 704 = .ok (.iaload, 1) := by decide +kernel
theorem dL_law_705 : decode cL_law 705 = .ok (.invokevirtual 216, 3) := by decide +kernel
theorem dL_law_708 : decode cL_law 708 = .ok (.lstore 7, 2) := by decide +kernel
theorem dL_law_710 : decode cL_law 710 = .ok (.aload_n 2, 1) := by decide +kernel
theorem dL_law_711 : decode cL_law 711 = .ok (.invokevirtual 200, 3) := by decide +kernel
theorem dL_law_714 : decode cL_law 714 = .ok (.iload 6, 2) := by decide +kernel
theorem dL_law_716 : decode cL_law 716 = .ok (.if_icmp .eq 5, 3) := by decide +kernel
theorem dL_law_719 : decode cL_law 719 = .ok (.iconst 0, 1) := by decide +kernel
theorem dL_law_720 : decode cL_law 720 = .ok (.ireturn, 1) := by decide +kernel
theorem dL_law_721 : decode cL_law 721 = .ok (.iload 6, 2) := by decide +kernel
theorem dL_law_723 : decode cL_law 723 = .ok (.ifCond .ne 14, 3) := by decide +kernel
theorem dL_law_726 : decode cL_law 726 = .ok (.aload_n 3, 1) := by decide +kernel
theorem dL_law_727 : decode cL_law 727 = .ok (.iconst 0, 1) := by decide +kernel
theorem dL_law_728 : decode cL_law 728 = .ok (.laload, 1) := by decide +kernel
theorem dL_law_729 : decode cL_law 729 = .ok (.lload 7, 2) := by decide +kernel
theorem dL_law_731 : decode cL_law 731 = .ok (.lcmp, 1) := by decide +kernel
theorem dL_law_732 : decode cL_law 732 = .ok (.ifCond .eq 5, 3) := by decide +kernel
theorem dL_law_735 : decode cL_law 735 = .ok (.iconst 0, 1) := by decide +kernel
theorem dL_law_736 : decode cL_law 736 = .ok (.ireturn, 1) := by decide +kernel
theorem dL_law_737 : decode cL_law 737 = .ok (.goto 2887, 3) := by decide +kernel
set_option maxRecDepth 20000 in
theorem lw_numerator_c_c {p : Program} {l : Launch} {e : Env} {s : State} {m : MethodId} {args : Array Value} {below : List Frame} {meth : Method} {c : Code} {E : zE} {Q : State → Prop} {b0 L i ce sl : Nat} {xs : Nat → Int32} {σ : zS} (ni : Nat) (tx : Nat → Int) (ec : Nat) (eo : Int) (U : zSU) (S : zST) (hh : List zST) (kp : Option zST) (ou : List Nat) (n1 : Nat) (W : zLW p l s m args meth c E b0 L xs) (hi : i + 6 ≤ L) (hcs : ce + 1 ≤ room_1.cells ∧ sl + 6 ≤ room_1.slots) (hR : zRel σ (zDv.mk ni tx ec eo U S hh kp ou)) (hx1 : xs (i + 1) = (zI (n1 : Int))) (hi0 : n1 < U.nb)  (kk : zNx p l e s m args below meth c E Q b0 i ce sl) : zV p l e room_1 s m args below meth c 9 E Q ce sl σ 685 (lwL b0 i E) [] := by
  refine (?_ : zV p l e room_1 s m args below meth c 9 E Q ce sl σ 685 [(0, .ref b0), (1, .ref (ob E 0)), (2, .ref (ob E 327)), (3, .ref (ob E 339)), (4, .ref (ob E 340)), (5, .int (zI (i : Int)))] [])
  have C := W.2.1
  have hfl := W.1
  have hroom : room_1.cells = 601024 ∧ room_1.slots = 7293034 := ⟨rfl, rfl⟩
  refine zv_aload_n C 1 dL_law_685 rfl rfl ?_
  refine zv_aload_n C 0 dL_law_686 rfl rfl ?_
  refine zv_iload C 5 dL_law_687 rfl ?_
  refine zv_iconst (v := zI 1) C dL_law_689 rfl ?_
  refine zv_iaddZ C dL_law_690 ?_
  refine zv_sld (j := i + 1) (v := (zI (n1 : Int))) C W.2.2.1 W.2.2.2.1 W.2.2.2.2.1 W.2.2.2.2.2 (zI_ix (by omega)) (by omega) hx1 dL_law_691 ?_
  refine zv_aload_n C 3 dL_law_692 rfl rfl ?_
  refine zv_cH (st := []) C (w_c_X10_numerator hfl E σ U S n1 hR.1.2.2.1 hR.1.2.2.2.1.1 (by first | assumption | omega)) mL_numerator kL_214 rfl ⟨rfl, rfl⟩ (show zfit (zrm 5 126) 4 room_1 = true from rfl) (Nat.le_of_ble_eq_true rfl) dL_law_693 ⟨by omega, by omega⟩ (fun r693 τ693 hp693 => ?_)
  obtain ⟨hr0, v9, υ9, hP9, hτ9⟩ := hp693
  refine zv_eqi (y := zI 0) hr0 ?_
  obtain ⟨hv9, hW9⟩ := hP9
  have hF9 : zFr 318 327 σ υ9 := by first | exact hW9 | (rw [hW9]; exact (by first | exact zFr_refl _ _ _ | exact zFr_rW (zFr_refl _ _ _) (by omega) | exact zFr_rW (zFr_rW (zFr_refl _ _ _) (by omega)) (by omega) | exact qW_f _ _ _ _ | exact qM_f _ _ _ _ _ | exact rW2_f _ _ _ _ _ | exact rW3_f _ _ _ _ _ | exact alW_f _ _ _ _ _ | (split <;> first | exact zFr_refl _ _ _ | exact bW_f _ _ _ _) | assumption))
  have hR1 : zRel τ693 (zDv.mk ni tx ec eo U S hh kp ou) := by rw [hτ9]; exact zRel_J (zRel_c hR hF9) _
  have ho9 : gJ τ693 339 0 = v9 := by rw [hτ9, gJ_sJ, if_pos ⟨rfl, rfl⟩]
  rw [hv9] at ho9
  refine zv_istore (lv' := [(6, .int (zI 0)), (0, .ref b0), (1, .ref (ob E 0)), (2, .ref (ob E 327)), (3, .ref (ob E 339)), (4, .ref (ob E 340)), (5, .int (zI (i : Int)))]) C dL_law_696  (by decide) rfl ?_
  refine zv_aload_n C 3 dL_law_698 rfl rfl ?_
  refine zv_aload_n C 1 dL_law_699 rfl rfl ?_
  refine zv_iload C 6 dL_law_700 rfl ?_
  refine zv_iconst (v := zI 1) C dL_law_702 rfl ?_
  refine zv_iaddZ C dL_law_703 ?_
  refine zv_sld (j := i + 1) (v := (zI (n1 : Int))) C W.2.2.1 W.2.2.2.1 W.2.2.2.2.1 W.2.2.2.2.2 (zI_ix (by omega)) (by omega) hx1 dL_law_704 ?_
  refine zv_cvl (st := []) C (c_X11_numerator hfl E τ693 σ U S n1 hR1.2.2.2.1 hR.1.2.2.1 hR1.2.2.2.2.2.1.1 hR.1.2.2.2.1.1 (by first | assumption | omega)) mX11_numerator kL_216 (by decide : kd 327 = 10) rfl rfl rfl ⟨rfl, rfl⟩ (show zfit (zrm 2 46) 2 room_1 = true from rfl) (Nat.le_of_ble_eq_true rfl) dL_law_705 ⟨by omega, by omega⟩ (fun r705 τ705 hp705 => ?_)
  obtain ⟨hr2, hK2⟩ := hp705
  refine zv_eql (y := zL (qPtr U S n1).1) hr2 ?_
  have hR2 : zRel τ705 (zDv.mk ni tx ec eo U S hh kp ou) := zRel_m hR1 hK2
  have ht2 : gI τ705 327 10 = zI 0 := hK2.2
  have hJ2 : gJ τ705 339 0 = gJ τ693 339 0 := hK2.1.2.1 339 0 (by decide)
  have hD2 : gD τ705 340 0 = gD τ693 340 0 := hK2.1.2.2 340 0
  refine zv_lstore (lv' := [(7, .long (zL (qPtr U S n1).1)), (6, .int (zI 0)), (0, .ref b0), (1, .ref (ob E 0)), (2, .ref (ob E 327)), (3, .ref (ob E 339)), (4, .ref (ob E 340)), (5, .int (zI (i : Int)))]) C dL_law_708  (by decide) rfl ?_
  refine zv_aload_n C 4 dL_law_710 rfl rfl ?_
  refine zv_cviD (st := []) C (c_X11_thrown hfl E τ705) mX11_thrown kL_200 (by decide : kd 327 = 10) rfl rfl rfl ⟨rfl, rfl⟩ (show zfit (zrm 0 0) 1 room_1 = true from rfl) (Nat.le_of_ble_eq_true rfl) dL_law_711 ⟨by omega, by omega⟩ ?_
  refine zv_eqi (y := (zI 0)) (ht2) ?_
  refine zv_iload C 1 dL_law_714 rfl ?_
  refine zv_icmp_eqZ (tgt := 721) C (by omega) (by omega) dL_law_716 (by decide) (fun h716 => ?_) (fun h716 => ?_)
  · skip
    refine zv_iload C 1 dL_law_721 rfl ?_
    refine zv_if_neZ (tgt := 737) C (by omega) dL_law_723 (by decide) (fun h723 => absurd h723 (by decide)) (fun h723 => ?_)
    refine zv_aload_n C 5 dL_law_726 rfl rfl ?_
    refine zv_iconst (v := zI 0) C dL_law_727 rfl ?_
    refine zv_lald (j := 0) C (by decide : kd 339 = _) (zI_ix (by omega)) (by decide) dL_law_728 ?_
    refine zv_eql (y := (zL (qPtr U S n1).1)) (hJ2.trans ho9) ?_
    refine zv_lload C 0 dL_law_729 rfl ?_
    refine zv_lc_eq (tgt := 737) C dL_law_731 dL_law_732 (by decide) (fun h731 => ?_) (fun h731 => ?_)
    · skip
      refine zv_goto (tgt := 3624) C dL_law_737 (by decide) ?_
      refine zv_sub (lv' := [(0, .ref b0), (1, .ref (ob E 0)), (2, .ref (ob E 327)), (3, .ref (ob E 339)), (4, .ref (ob E 340)), (5, .int (zI (i : Int)))]) [2, 3, 4, 5, 6, 7] (zcons rfl (zcons rfl (zcons rfl (zcons rfl (zcons rfl (zcons rfl rfl)))))) ?_
      exact kk _ _ _ _ (by omega) (by omega) hR2
    · exfalso
      exact h731 rfl
  · exfalso
    omega
set_option maxRecDepth 20000 in
theorem lw_numerator_x1_x1 {p : Program} {l : Launch} {e : Env} {s : State} {m : MethodId} {args : Array Value} {below : List Frame} {meth : Method} {c : Code} {E : zE} {Q : State → Prop} {b0 L i ce sl : Nat} {xs : Nat → Int32} {σ : zS} (ni : Nat) (tx : Nat → Int) (ec : Nat) (eo : Int) (U : zSU) (S : zST) (hh : List zST) (kp : Option zST) (ou : List Nat) (v1 : Int) (W : zLW p l s m args meth c E b0 L xs) (hi : i + 6 ≤ L) (hcs : ce + 1 ≤ room_1.cells ∧ sl + 6 ≤ room_1.slots) (hR : zRel σ (zDv.mk ni tx ec eo U S hh kp ou)) (hx1 : xs (i + 1) = (zI v1)) (hbi0 : -2147483648 ≤ v1 ∧ v1 < 2147483648) (hno1 : ¬ (0 ≤ v1 ∧ v1 < U.nb))  (kk : zNx p l e s m args below meth c E Q b0 i ce sl) : zV p l e room_1 s m args below meth c 9 E Q ce sl σ 685 (lwL b0 i E) [] := by
  refine (?_ : zV p l e room_1 s m args below meth c 9 E Q ce sl σ 685 [(0, .ref b0), (1, .ref (ob E 0)), (2, .ref (ob E 327)), (3, .ref (ob E 339)), (4, .ref (ob E 340)), (5, .int (zI (i : Int)))] [])
  have C := W.2.1
  have hfl := W.1
  have hroom : room_1.cells = 601024 ∧ room_1.slots = 7293034 := ⟨rfl, rfl⟩
  refine zv_aload_n C 1 dL_law_685 rfl rfl ?_
  refine zv_aload_n C 0 dL_law_686 rfl rfl ?_
  refine zv_iload C 5 dL_law_687 rfl ?_
  refine zv_iconst (v := zI 1) C dL_law_689 rfl ?_
  refine zv_iaddZ C dL_law_690 ?_
  refine zv_sld (j := i + 1) (v := (zI v1)) C W.2.2.1 W.2.2.2.1 W.2.2.2.2.1 W.2.2.2.2.2 (zI_ix (by omega)) (by omega) hx1 dL_law_691 ?_
  refine zv_aload_n C 3 dL_law_692 rfl rfl ?_
  refine zv_cH (st := []) C (w_x1_X10_numerator hfl E σ U v1 hR.1.2.2.1 (by first | assumption | omega) (by first | assumption | omega)) mL_numerator kL_214 rfl ⟨rfl, rfl⟩ (show zfit (zrx 10 221) 4 room_1 = true from rfl) (Nat.le_of_ble_eq_true rfl) dL_law_693 ⟨by exact hcs.1, by exact hcs.2⟩ (fun r693 τ693 hp693 => ?_)
  obtain ⟨hr0, hP9⟩ := hp693
  refine zv_eqi (y := zI 1) hr0 ?_
  have hF9 : zFr 318 327 σ τ693 := by rw [hP9]; exact (by first | exact zFr_refl _ _ _ | exact zFr_rW (zFr_refl _ _ _) (by omega) | exact zFr_rW (zFr_rW (zFr_refl _ _ _) (by omega)) (by omega) | exact qW_f _ _ _ _ | exact qM_f _ _ _ _ _ | exact rW2_f _ _ _ _ _ | exact rW3_f _ _ _ _ _ | exact alW_f _ _ _ _ _ | (split <;> first | exact zFr_refl _ _ _ | exact bW_f _ _ _ _) | assumption)
  have hR1 : zRel τ693 (zDv.mk ni tx ec eo U S hh kp ou) := zRel_c hR hF9
  refine zv_istore (lv' := [(6, .int (zI 1)), (0, .ref b0), (1, .ref (ob E 0)), (2, .ref (ob E 327)), (3, .ref (ob E 339)), (4, .ref (ob E 340)), (5, .int (zI (i : Int)))]) C dL_law_696  (by decide) rfl ?_
  refine zv_aload_n C 3 dL_law_698 rfl rfl ?_
  refine zv_aload_n C 1 dL_law_699 rfl rfl ?_
  refine zv_iload C 6 dL_law_700 rfl ?_
  refine zv_iconst (v := zI 1) C dL_law_702 rfl ?_
  refine zv_iaddZ C dL_law_703 ?_
  refine zv_sld (j := i + 1) (v := (zI v1)) C W.2.2.1 W.2.2.2.1 W.2.2.2.2.1 W.2.2.2.2.2 (zI_ix (by omega)) (by omega) hx1 dL_law_704 ?_
  refine zv_cvl (st := []) C (x1_X11_numerator hfl E τ693 σ U v1 hR1.2.2.2.1 hR.1.2.2.1 (by first | assumption | omega) (by first | assumption | omega)) mX11_numerator kL_216 (by decide : kd 327 = 10) rfl rfl rfl ⟨rfl, rfl⟩ (show zfit (zrm 2 46) 2 room_1 = true from rfl) (Nat.le_of_ble_eq_true rfl) dL_law_705 ⟨by omega, by omega⟩ (fun r705 τ705 hp705 => ?_)
  obtain ⟨hr2, hK2⟩ := hp705
  refine zv_eql (y := zL 0) hr2 ?_
  have hR2 : zRel τ705 (zDv.mk ni tx ec eo U S hh kp ou) := zRel_m hR1 hK2
  have ht2 : gI τ705 327 10 = zI 1 := hK2.2
  have hJ2 : gJ τ705 339 0 = gJ τ693 339 0 := hK2.1.2.1 339 0 (by decide)
  have hD2 : gD τ705 340 0 = gD τ693 340 0 := hK2.1.2.2 340 0
  refine zv_lstore (lv' := [(7, .long (zL 0)), (6, .int (zI 1)), (0, .ref b0), (1, .ref (ob E 0)), (2, .ref (ob E 327)), (3, .ref (ob E 339)), (4, .ref (ob E 340)), (5, .int (zI (i : Int)))]) C dL_law_708  (by decide) rfl ?_
  refine zv_aload_n C 4 dL_law_710 rfl rfl ?_
  refine zv_cviD (st := []) C (c_X11_thrown hfl E τ705) mX11_thrown kL_200 (by decide : kd 327 = 10) rfl rfl rfl ⟨rfl, rfl⟩ (show zfit (zrm 0 0) 1 room_1 = true from rfl) (Nat.le_of_ble_eq_true rfl) dL_law_711 ⟨by omega, by omega⟩ ?_
  refine zv_eqi (y := (zI 1)) (ht2) ?_
  refine zv_iload C 1 dL_law_714 rfl ?_
  refine zv_icmp_eqZ (tgt := 721) C (by omega) (by omega) dL_law_716 (by decide) (fun h716 => ?_) (fun h716 => ?_)
  · skip
    refine zv_iload C 1 dL_law_721 rfl ?_
    refine zv_if_neZ (tgt := 737) C (by omega) dL_law_723 (by decide) (fun h723 => ?_) (fun h723 => absurd h723 (by decide))
    refine zv_goto (tgt := 3624) C dL_law_737 (by decide) ?_
    refine zv_sub (lv' := [(0, .ref b0), (1, .ref (ob E 0)), (2, .ref (ob E 327)), (3, .ref (ob E 339)), (4, .ref (ob E 340)), (5, .int (zI (i : Int)))]) [2, 3, 4, 5, 6, 7] (zcons rfl (zcons rfl (zcons rfl (zcons rfl (zcons rfl (zcons rfl rfl)))))) ?_
    exact kk _ _ _ _ (by omega) (by omega) hR2
  · exfalso
    omega
theorem LK_9 {p : Program} {l : Launch} {e : Env} {s : State} {m : MethodId} {args : Array Value} {below : List Frame} {meth : Method} {c : Code} {E : zE} {Q : State → Prop} {b0 L i ce sl : Nat} {xs : Nat → Int32} {σ : zS} (ni : Nat) (tx : Nat → Int) (ec : Nat) (eo : Int) (U : zSU) (S : zST) (hh : List zST) (kp : Option zST) (ou : List Nat) (hFN : zFN) (W : zLW p l s m args meth c E b0 L xs) (hi : i + 6 ≤ L) (hcs : ce + 1 ≤ room_1.cells ∧ sl + 6 ≤ room_1.slots) (hR : zRel σ (zDv.mk ni tx ec eo U S hh kp ou)) (kk : zNx p l e s m args below meth c E Q b0 i ce sl) : zV p l e room_1 s m args below meth c 9 E Q ce sl σ 685 (lwL b0 i E) [] := by
  obtain ⟨v1, hx1, hv1⟩ := zI_cov (xs (i + 1))
  by_cases g1 : 0 ≤ v1 ∧ v1 < U.nb
  case neg =>
    exact lw_numerator_x1_x1 _ _ _ _ _ _ _ _ _ _ W hi hcs hR hx1 (by first | assumption | omega) (by first | assumption | omega) kk
  obtain ⟨n1, rfl⟩ := Int.eq_ofNat_of_zero_le (show 0 ≤ v1 by omega)
  exact lw_numerator_c_c _ _ _ _ _ _ _ _ _ _ W hi hcs hR hx1 (by first | assumption | omega) kk
theorem dL_law_740 : decode cL_law 740 = .ok (.aload_n 1, 1) := by decide +kernel
theorem dL_law_741 : decode cL_law 741 = .ok (.aload_n 0, 1) := by decide +kernel
theorem dL_law_742 : decode cL_law 742 = .ok (.iload 5, 2) := by decide +kernel
theorem dL_law_744 : decode cL_law 744 = .ok (.iconst 1, 1) := by decide +kernel
theorem dL_law_745 : decode cL_law 745 = .ok (.iadd, 1) := by decide +kernel
theorem dL_law_746 : decode cL_law 746 = .ok (.iaload, 1) := by decide +kernel
theorem dL_law_747 : decode cL_law 747 = .ok (.aload_n 3, 1) := by decide +kernel
theorem dL_law_748 : decode cL_law 748 = .ok (.invokestatic 217, 3) := by decide +kernel
theorem dL_law_751 : decode cL_law 751 = .ok (.istore 6, 2) := by decide +kernel
theorem dL_law_753 : decode cL_law 753 = .ok (.aload_n 2, 1) := by decide +kernel
theorem dL_law_754 : decode cL_law 754 = .ok (.aload_n 0, 1) := by decide +kernel
theorem dL_law_755 : decode cL_law 755 = .ok (.iload 5, 2) := by decide +kernel
theorem dL_law_757 : decode cL_law 757 = .ok (.iconst 1, 1) := by decide +kernel
theorem dL_law_758 : decode cL_law 758 = .ok (.iadd, 1) := by decide +kernel
theorem dL_law_759 : decode cL_law 759 = .ok (.iaload, 1) := by decide +kernel
theorem dL_law_760 : decode cL_law 760 = .ok (.invokevirtual 219, 3) := by decide +kernel
theorem dL_law_763 : decode cL_law 763 = .ok (.lstore 7, 2) := by decide +kernel
theorem dL_law_765 : decode cL_law 765 = .ok (.aload_n 2, 1) := by decide +kernel
theorem dL_law_766 : decode cL_law 766 = .ok (.invokevirtual 200, 3) := by decide +kernel
theorem dL_law_769 : decode cL_law 769 = .ok (.iload 6, 2) := by decide +kernel
theorem dL_law_771 : decode cL_law 771 = .ok (.if_icmp .eq 5, 3) := by decide +kernel
theorem dL_law_774 : decode cL_law 774 = .ok (.iconst 0, 1) := by decide +kernel
theorem dL_law_775 : decode cL_law 775 = .ok (.ireturn, 1) := by decide +kernel
theorem dL_law_776 : decode cL_law 776 = .ok (.iload 6, 2) := by decide +kernel
theorem dL_law_778 : decode cL_law 778 = .ok (.ifCond .ne 14, 3) := by decide +kernel
theorem dL_law_781 : decode cL_law 781 = .ok (.aload_n 3, 1) := by decide +kernel
theorem dL_law_782 : decode cL_law 782 = .ok (.iconst 0, 1) := by decide +kernel
theorem dL_law_783 : decode cL_law 783 = .ok (.laload, 1) := by decide +kernel
theorem dL_law_784 : decode cL_law 784 = .ok (.lload 7, 2) := by decide +kernel
theorem dL_law_786 : decode cL_law 786 = .ok (.lcmp, 1) := by decide +kernel
theorem dL_law_787 : decode cL_law 787 = .ok (.ifCond .eq 5, 3) := by decide +kernel
theorem dL_law_790 : decode cL_law 790 = .ok (.iconst 0, 1) := by decide +kernel
theorem dL_law_791 : decode cL_law 791 = .ok (.ireturn, 1) := by decide +kernel
theorem dL_law_792 : decode cL_law 792 = .ok (.goto 2832, 3) := by decide +kernel
set_option maxRecDepth 20000 in
theorem lw_denominator_c_c {p : Program} {l : Launch} {e : Env} {s : State} {m : MethodId} {args : Array Value} {below : List Frame} {meth : Method} {c : Code} {E : zE} {Q : State → Prop} {b0 L i ce sl : Nat} {xs : Nat → Int32} {σ : zS} (ni : Nat) (tx : Nat → Int) (ec : Nat) (eo : Int) (U : zSU) (S : zST) (hh : List zST) (kp : Option zST) (ou : List Nat) (n1 : Nat) (W : zLW p l s m args meth c E b0 L xs) (hi : i + 6 ≤ L) (hcs : ce + 1 ≤ room_1.cells ∧ sl + 6 ≤ room_1.slots) (hR : zRel σ (zDv.mk ni tx ec eo U S hh kp ou)) (hx1 : xs (i + 1) = (zI (n1 : Int))) (hi0 : n1 < U.nb)  (kk : zNx p l e s m args below meth c E Q b0 i ce sl) : zV p l e room_1 s m args below meth c 9 E Q ce sl σ 740 (lwL b0 i E) [] := by
  refine (?_ : zV p l e room_1 s m args below meth c 9 E Q ce sl σ 740 [(0, .ref b0), (1, .ref (ob E 0)), (2, .ref (ob E 327)), (3, .ref (ob E 339)), (4, .ref (ob E 340)), (5, .int (zI (i : Int)))] [])
  have C := W.2.1
  have hfl := W.1
  have hroom : room_1.cells = 601024 ∧ room_1.slots = 7293034 := ⟨rfl, rfl⟩
  refine zv_aload_n C 1 dL_law_740 rfl rfl ?_
  refine zv_aload_n C 0 dL_law_741 rfl rfl ?_
  refine zv_iload C 5 dL_law_742 rfl ?_
  refine zv_iconst (v := zI 1) C dL_law_744 rfl ?_
  refine zv_iaddZ C dL_law_745 ?_
  refine zv_sld (j := i + 1) (v := (zI (n1 : Int))) C W.2.2.1 W.2.2.2.1 W.2.2.2.2.1 W.2.2.2.2.2 (zI_ix (by omega)) (by omega) hx1 dL_law_746 ?_
  refine zv_aload_n C 3 dL_law_747 rfl rfl ?_
  refine zv_cH (st := []) C (w_c_X10_denominator hfl E σ U S n1 hR.1.2.2.1 hR.1.2.2.2.1.1 (by first | assumption | omega)) mL_denominator kL_217 rfl ⟨rfl, rfl⟩ (show zfit (zrm 5 126) 4 room_1 = true from rfl) (Nat.le_of_ble_eq_true rfl) dL_law_748 ⟨by omega, by omega⟩ (fun r748 τ748 hp748 => ?_)
  obtain ⟨hr0, v9, υ9, hP9, hτ9⟩ := hp748
  refine zv_eqi (y := zI 0) hr0 ?_
  obtain ⟨hv9, hW9⟩ := hP9
  have hF9 : zFr 318 327 σ υ9 := by first | exact hW9 | (rw [hW9]; exact (by first | exact zFr_refl _ _ _ | exact zFr_rW (zFr_refl _ _ _) (by omega) | exact zFr_rW (zFr_rW (zFr_refl _ _ _) (by omega)) (by omega) | exact qW_f _ _ _ _ | exact qM_f _ _ _ _ _ | exact rW2_f _ _ _ _ _ | exact rW3_f _ _ _ _ _ | exact alW_f _ _ _ _ _ | (split <;> first | exact zFr_refl _ _ _ | exact bW_f _ _ _ _) | assumption))
  have hR1 : zRel τ748 (zDv.mk ni tx ec eo U S hh kp ou) := by rw [hτ9]; exact zRel_J (zRel_c hR hF9) _
  have ho9 : gJ τ748 339 0 = v9 := by rw [hτ9, gJ_sJ, if_pos ⟨rfl, rfl⟩]
  rw [hv9] at ho9
  refine zv_istore (lv' := [(6, .int (zI 0)), (0, .ref b0), (1, .ref (ob E 0)), (2, .ref (ob E 327)), (3, .ref (ob E 339)), (4, .ref (ob E 340)), (5, .int (zI (i : Int)))]) C dL_law_751  (by decide) rfl ?_
  refine zv_aload_n C 3 dL_law_753 rfl rfl ?_
  refine zv_aload_n C 1 dL_law_754 rfl rfl ?_
  refine zv_iload C 6 dL_law_755 rfl ?_
  refine zv_iconst (v := zI 1) C dL_law_757 rfl ?_
  refine zv_iaddZ C dL_law_758 ?_
  refine zv_sld (j := i + 1) (v := (zI (n1 : Int))) C W.2.2.1 W.2.2.2.1 W.2.2.2.2.1 W.2.2.2.2.2 (zI_ix (by omega)) (by omega) hx1 dL_law_759 ?_
  refine zv_cvl (st := []) C (c_X11_denominator hfl E τ748 σ U S n1 hR1.2.2.2.1 hR.1.2.2.1 hR1.2.2.2.2.2.1.1 hR.1.2.2.2.1.1 (by first | assumption | omega)) mX11_denominator kL_219 (by decide : kd 327 = 10) rfl rfl rfl ⟨rfl, rfl⟩ (show zfit (zrm 2 46) 2 room_1 = true from rfl) (Nat.le_of_ble_eq_true rfl) dL_law_760 ⟨by omega, by omega⟩ (fun r760 τ760 hp760 => ?_)
  obtain ⟨hr2, hK2⟩ := hp760
  refine zv_eql (y := zL (qPtr U S n1).2) hr2 ?_
  have hR2 : zRel τ760 (zDv.mk ni tx ec eo U S hh kp ou) := zRel_m hR1 hK2
  have ht2 : gI τ760 327 10 = zI 0 := hK2.2
  have hJ2 : gJ τ760 339 0 = gJ τ748 339 0 := hK2.1.2.1 339 0 (by decide)
  have hD2 : gD τ760 340 0 = gD τ748 340 0 := hK2.1.2.2 340 0
  refine zv_lstore (lv' := [(7, .long (zL (qPtr U S n1).2)), (6, .int (zI 0)), (0, .ref b0), (1, .ref (ob E 0)), (2, .ref (ob E 327)), (3, .ref (ob E 339)), (4, .ref (ob E 340)), (5, .int (zI (i : Int)))]) C dL_law_763  (by decide) rfl ?_
  refine zv_aload_n C 4 dL_law_765 rfl rfl ?_
  refine zv_cviD (st := []) C (c_X11_thrown hfl E τ760) mX11_thrown kL_200 (by decide : kd 327 = 10) rfl rfl rfl ⟨rfl, rfl⟩ (show zfit (zrm 0 0) 1 room_1 = true from rfl) (Nat.le_of_ble_eq_true rfl) dL_law_766 ⟨by omega, by omega⟩ ?_
  refine zv_eqi (y := (zI 0)) (ht2) ?_
  refine zv_iload C 1 dL_law_769 rfl ?_
  refine zv_icmp_eqZ (tgt := 776) C (by omega) (by omega) dL_law_771 (by decide) (fun h771 => ?_) (fun h771 => ?_)
  · skip
    refine zv_iload C 1 dL_law_776 rfl ?_
    refine zv_if_neZ (tgt := 792) C (by omega) dL_law_778 (by decide) (fun h778 => absurd h778 (by decide)) (fun h778 => ?_)
    refine zv_aload_n C 5 dL_law_781 rfl rfl ?_
    refine zv_iconst (v := zI 0) C dL_law_782 rfl ?_
    refine zv_lald (j := 0) C (by decide : kd 339 = _) (zI_ix (by omega)) (by decide) dL_law_783 ?_
    refine zv_eql (y := (zL (qPtr U S n1).2)) (hJ2.trans ho9) ?_
    refine zv_lload C 0 dL_law_784 rfl ?_
    refine zv_lc_eq (tgt := 792) C dL_law_786 dL_law_787 (by decide) (fun h786 => ?_) (fun h786 => ?_)
    · skip
      refine zv_goto (tgt := 3624) C dL_law_792 (by decide) ?_
      refine zv_sub (lv' := [(0, .ref b0), (1, .ref (ob E 0)), (2, .ref (ob E 327)), (3, .ref (ob E 339)), (4, .ref (ob E 340)), (5, .int (zI (i : Int)))]) [2, 3, 4, 5, 6, 7] (zcons rfl (zcons rfl (zcons rfl (zcons rfl (zcons rfl (zcons rfl rfl)))))) ?_
      exact kk _ _ _ _ (by omega) (by omega) hR2
    · exfalso
      exact h786 rfl
  · exfalso
    omega
set_option maxRecDepth 20000 in
theorem lw_denominator_x1_x1 {p : Program} {l : Launch} {e : Env} {s : State} {m : MethodId} {args : Array Value} {below : List Frame} {meth : Method} {c : Code} {E : zE} {Q : State → Prop} {b0 L i ce sl : Nat} {xs : Nat → Int32} {σ : zS} (ni : Nat) (tx : Nat → Int) (ec : Nat) (eo : Int) (U : zSU) (S : zST) (hh : List zST) (kp : Option zST) (ou : List Nat) (v1 : Int) (W : zLW p l s m args meth c E b0 L xs) (hi : i + 6 ≤ L) (hcs : ce + 1 ≤ room_1.cells ∧ sl + 6 ≤ room_1.slots) (hR : zRel σ (zDv.mk ni tx ec eo U S hh kp ou)) (hx1 : xs (i + 1) = (zI v1)) (hbi0 : -2147483648 ≤ v1 ∧ v1 < 2147483648) (hno1 : ¬ (0 ≤ v1 ∧ v1 < U.nb))  (kk : zNx p l e s m args below meth c E Q b0 i ce sl) : zV p l e room_1 s m args below meth c 9 E Q ce sl σ 740 (lwL b0 i E) [] := by
  refine (?_ : zV p l e room_1 s m args below meth c 9 E Q ce sl σ 740 [(0, .ref b0), (1, .ref (ob E 0)), (2, .ref (ob E 327)), (3, .ref (ob E 339)), (4, .ref (ob E 340)), (5, .int (zI (i : Int)))] [])
  have C := W.2.1
  have hfl := W.1
  have hroom : room_1.cells = 601024 ∧ room_1.slots = 7293034 := ⟨rfl, rfl⟩
  refine zv_aload_n C 1 dL_law_740 rfl rfl ?_
  refine zv_aload_n C 0 dL_law_741 rfl rfl ?_
  refine zv_iload C 5 dL_law_742 rfl ?_
  refine zv_iconst (v := zI 1) C dL_law_744 rfl ?_
  refine zv_iaddZ C dL_law_745 ?_
  refine zv_sld (j := i + 1) (v := (zI v1)) C W.2.2.1 W.2.2.2.1 W.2.2.2.2.1 W.2.2.2.2.2 (zI_ix (by omega)) (by omega) hx1 dL_law_746 ?_
  refine zv_aload_n C 3 dL_law_747 rfl rfl ?_
  refine zv_cH (st := []) C (w_x1_X10_denominator hfl E σ U v1 hR.1.2.2.1 (by first | assumption | omega) (by first | assumption | omega)) mL_denominator kL_217 rfl ⟨rfl, rfl⟩ (show zfit (zrx 10 221) 4 room_1 = true from rfl) (Nat.le_of_ble_eq_true rfl) dL_law_748 ⟨by exact hcs.1, by exact hcs.2⟩ (fun r748 τ748 hp748 => ?_)
  obtain ⟨hr0, hP9⟩ := hp748
  refine zv_eqi (y := zI 1) hr0 ?_
  have hF9 : zFr 318 327 σ τ748 := by rw [hP9]; exact (by first | exact zFr_refl _ _ _ | exact zFr_rW (zFr_refl _ _ _) (by omega) | exact zFr_rW (zFr_rW (zFr_refl _ _ _) (by omega)) (by omega) | exact qW_f _ _ _ _ | exact qM_f _ _ _ _ _ | exact rW2_f _ _ _ _ _ | exact rW3_f _ _ _ _ _ | exact alW_f _ _ _ _ _ | (split <;> first | exact zFr_refl _ _ _ | exact bW_f _ _ _ _) | assumption)
  have hR1 : zRel τ748 (zDv.mk ni tx ec eo U S hh kp ou) := zRel_c hR hF9
  refine zv_istore (lv' := [(6, .int (zI 1)), (0, .ref b0), (1, .ref (ob E 0)), (2, .ref (ob E 327)), (3, .ref (ob E 339)), (4, .ref (ob E 340)), (5, .int (zI (i : Int)))]) C dL_law_751  (by decide) rfl ?_
  refine zv_aload_n C 3 dL_law_753 rfl rfl ?_
  refine zv_aload_n C 1 dL_law_754 rfl rfl ?_
  refine zv_iload C 6 dL_law_755 rfl ?_
  refine zv_iconst (v := zI 1) C dL_law_757 rfl ?_
  refine zv_iaddZ C dL_law_758 ?_
  refine zv_sld (j := i + 1) (v := (zI v1)) C W.2.2.1 W.2.2.2.1 W.2.2.2.2.1 W.2.2.2.2.2 (zI_ix (by omega)) (by omega) hx1 dL_law_759 ?_
  refine zv_cvl (st := []) C (x1_X11_denominator hfl E τ748 σ U v1 hR1.2.2.2.1 hR.1.2.2.1 (by first | assumption | omega) (by first | assumption | omega)) mX11_denominator kL_219 (by decide : kd 327 = 10) rfl rfl rfl ⟨rfl, rfl⟩ (show zfit (zrm 2 46) 2 room_1 = true from rfl) (Nat.le_of_ble_eq_true rfl) dL_law_760 ⟨by omega, by omega⟩ (fun r760 τ760 hp760 => ?_)
  obtain ⟨hr2, hK2⟩ := hp760
  refine zv_eql (y := zL 0) hr2 ?_
  have hR2 : zRel τ760 (zDv.mk ni tx ec eo U S hh kp ou) := zRel_m hR1 hK2
  have ht2 : gI τ760 327 10 = zI 1 := hK2.2
  have hJ2 : gJ τ760 339 0 = gJ τ748 339 0 := hK2.1.2.1 339 0 (by decide)
  have hD2 : gD τ760 340 0 = gD τ748 340 0 := hK2.1.2.2 340 0
  refine zv_lstore (lv' := [(7, .long (zL 0)), (6, .int (zI 1)), (0, .ref b0), (1, .ref (ob E 0)), (2, .ref (ob E 327)), (3, .ref (ob E 339)), (4, .ref (ob E 340)), (5, .int (zI (i : Int)))]) C dL_law_763  (by decide) rfl ?_
  refine zv_aload_n C 4 dL_law_765 rfl rfl ?_
  refine zv_cviD (st := []) C (c_X11_thrown hfl E τ760) mX11_thrown kL_200 (by decide : kd 327 = 10) rfl rfl rfl ⟨rfl, rfl⟩ (show zfit (zrm 0 0) 1 room_1 = true from rfl) (Nat.le_of_ble_eq_true rfl) dL_law_766 ⟨by omega, by omega⟩ ?_
  refine zv_eqi (y := (zI 1)) (ht2) ?_
  refine zv_iload C 1 dL_law_769 rfl ?_
  refine zv_icmp_eqZ (tgt := 776) C (by omega) (by omega) dL_law_771 (by decide) (fun h771 => ?_) (fun h771 => ?_)
  · skip
    refine zv_iload C 1 dL_law_776 rfl ?_
    refine zv_if_neZ (tgt := 792) C (by omega) dL_law_778 (by decide) (fun h778 => ?_) (fun h778 => absurd h778 (by decide))
    refine zv_goto (tgt := 3624) C dL_law_792 (by decide) ?_
    refine zv_sub (lv' := [(0, .ref b0), (1, .ref (ob E 0)), (2, .ref (ob E 327)), (3, .ref (ob E 339)), (4, .ref (ob E 340)), (5, .int (zI (i : Int)))]) [2, 3, 4, 5, 6, 7] (zcons rfl (zcons rfl (zcons rfl (zcons rfl (zcons rfl (zcons rfl rfl)))))) ?_
    exact kk _ _ _ _ (by omega) (by omega) hR2
  · exfalso
    omega
theorem LK_10 {p : Program} {l : Launch} {e : Env} {s : State} {m : MethodId} {args : Array Value} {below : List Frame} {meth : Method} {c : Code} {E : zE} {Q : State → Prop} {b0 L i ce sl : Nat} {xs : Nat → Int32} {σ : zS} (ni : Nat) (tx : Nat → Int) (ec : Nat) (eo : Int) (U : zSU) (S : zST) (hh : List zST) (kp : Option zST) (ou : List Nat) (hFN : zFN) (W : zLW p l s m args meth c E b0 L xs) (hi : i + 6 ≤ L) (hcs : ce + 1 ≤ room_1.cells ∧ sl + 6 ≤ room_1.slots) (hR : zRel σ (zDv.mk ni tx ec eo U S hh kp ou)) (kk : zNx p l e s m args below meth c E Q b0 i ce sl) : zV p l e room_1 s m args below meth c 9 E Q ce sl σ 740 (lwL b0 i E) [] := by
  obtain ⟨v1, hx1, hv1⟩ := zI_cov (xs (i + 1))
  by_cases g1 : 0 ≤ v1 ∧ v1 < U.nb
  case neg =>
    exact lw_denominator_x1_x1 _ _ _ _ _ _ _ _ _ _ W hi hcs hR hx1 (by first | assumption | omega) (by first | assumption | omega) kk
  obtain ⟨n1, rfl⟩ := Int.eq_ofNat_of_zero_le (show 0 ≤ v1 by omega)
  exact lw_denominator_c_c _ _ _ _ _ _ _ _ _ _ W hi hcs hR hx1 (by first | assumption | omega) kk
