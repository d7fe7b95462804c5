/-! the law's cases -/
def zLW (p : Program) (l : Launch) (s : State) (m : MethodId) (args : Array Value) (meth : Method) (c : Code) (E : zE) (b0 L : Nat) (xs : Nat → Int32) : Prop := l.stackTraces = false ∧ zX p l s m args meth c cL_law RL 9 E ∧ va_X b0 L xs s s.heap ∧ b0 < s.heap.size ∧ ¬ zA E b0 ∧ L ≤ 3072
def lwL (b0 i : Nat) (E : zE) : List (Nat × Value) := [(0, .ref b0), (1, .ref (ob E 0)), (2, .ref (ob E 327)), (3, .ref (ob E 339)), (4, .ref (ob E 340)), (5, .int (zI (i : Int)))]
/-- the law goes on behind a case -/
def zNx (p : Program) (l : Launch) (e : Env) (s : State) (m : MethodId) (args : Array Value) (below : List Frame) (meth : Method) (c : Code) (E : zE) (Q : State → Prop) (b0 i ce sl : Nat) : Prop := ∀ (σ' : zS) (D' : zDv) (ce' sl' : Nat), ce' ≤ ce + 1 → sl' ≤ sl + 6 → zRel σ' D' → zV p l e room_1 s m args below meth c 9 E Q ce' sl' σ' 3624 (lwL b0 i E) []
theorem dL_law_425 : decode cL_law 425 = .ok (.aload_n 1, 1) := by decide +kernel
theorem dL_law_426 : decode cL_law 426 = .ok (.aload_n 0, 1) := by decide +kernel
theorem dL_law_427 : decode cL_law 427 = .ok (.iload 5, 2) := by decide +kernel
theorem dL_law_429 : decode cL_law 429 = .ok (.iconst 1, 1) := by decide +kernel
theorem dL_law_430 : decode cL_law 430 = .ok (.iadd, 1) := by decide +kernel
theorem dL_law_431 : decode cL_law 431 = .ok (.iaload, 1) := by decide +kernel
theorem dL_law_432 : decode cL_law 432 = .ok (.aload_n 3, 1) := by decide +kernel
theorem dL_law_433 : decode cL_law 433 = .ok (.invokestatic 194, 3) := by decide +kernel
theorem dL_law_436 : decode cL_law 436 = .ok (.istore 6, 2) := by decide +kernel
theorem dL_law_438 : decode cL_law 438 = .ok (.aload_n 2, 1) := by decide +kernel
theorem dL_law_439 : decode cL_law 439 = .ok (.aload_n 0, 1) := by decide +kernel
theorem dL_law_440 : decode cL_law 440 = .ok (.iload 5, 2) := by decide +kernel
theorem dL_law_442 : decode cL_law 442 = .ok (.iconst 1, 1) := by decide +kernel
theorem dL_law_443 : decode cL_law 443 = .ok (.iadd, 1) := by decide +kernel
theorem dL_law_444 : decode cL_law 444 = .ok (.iaload, 1) := by decide +kernel
theorem dL_law_445 : decode cL_law 445 = .ok (.invokevirtual 199, 3) := by decide +kernel
theorem dL_law_448 : decode cL_law 448 = .ok (.istore 7, 2) := by decide +kernel
theorem dL_law_450 : decode cL_law 450 = .ok (.aload_n 2, 1) := by decide +kernel
theorem dL_law_451 : decode cL_law 451 = .ok (.invokevirtual 200, 3) := by decide +kernel
theorem dL_law_454 : decode cL_law 454 = .ok (.iload 6, 2) := by decide +kernel
theorem dL_law_456 : decode cL_law 456 = .ok (.if_icmp .eq 5, 3) := by decide +kernel
theorem dL_law_459 : decode cL_law 459 = .ok (.iconst 0, 1) := by decide +kernel
theorem dL_law_460 : decode cL_law 460 = .ok (.ireturn, 1) := by decide +kernel
theorem dL_law_461 : decode cL_law 461 = .ok (.iload 6, 2) := by decide +kernel
theorem dL_law_463 : decode cL_law 463 = .ok (.ifCond .ne 15, 3) := by decide +kernel
theorem dL_law_466 : decode cL_law 466 = .ok (.aload_n 3, 1) := by decide +kernel
theorem dL_law_467 : decode cL_law 467 = .ok (.iconst 0, 1) := by decide +kernel
theorem dL_law_468 : decode cL_law 468 = .ok (.laload, 1) := by decide +kernel
theorem dL_law_469 : decode cL_law 469 = .ok (.iload 7, 2) := by decide +kernel
theorem dL_law_471 : decode cL_law 471 = .ok (.i2l, 1) := by decide +kernel
theorem dL_law_472 : decode cL_law 472 = .ok (.lcmp, 1) := by decide +kernel
theorem dL_law_473 : decode cL_law 473 = .ok (.ifCond .eq 5, 3) := by decide +kernel
theorem dL_law_476 : decode cL_law 476 = .ok (.iconst 0, 1) := by decide +kernel
theorem dL_law_477 : decode cL_law 477 = .ok (.ireturn, 1) := by decide +kernel
theorem dL_law_478 : decode cL_law 478 = .ok (.goto 3146, 3) := by decide +kernel
set_option maxRecDepth 20000 in
theorem lw_count_c_c {p : Program} {l : Launch} {e : Env} {s : State} {m : MethodId} {args : Array Value} {below : List Frame} {meth : Method} {c : Code} {E : zE} {Q : State → Prop} {b0 L i ce sl : Nat} {xs : Nat → Int32} {σ : zS} (ni : Nat) (tx : Nat → Int) (ec : Nat) (eo : Int) (U : zSU) (S : zST) (hh : List zST) (kp : Option zST) (ou : List Nat) (v1 : Int) (W : zLW p l s m args meth c E b0 L xs) (hi : i + 6 ≤ L) (hcs : ce + 1 ≤ room_1.cells ∧ sl + 6 ≤ room_1.slots) (hR : zRel σ (zDv.mk ni tx ec eo U S hh kp ou)) (hx1 : xs (i + 1) = (zI v1)) (hy0 : 0 ≤ v1 ∧ v1 ≤ 6)  (kk : zNx p l e s m args below meth c E Q b0 i ce sl) : zV p l e room_1 s m args below meth c 9 E Q ce sl σ 425 (lwL b0 i E) [] := by
  refine (?_ : zV p l e room_1 s m args below meth c 9 E Q ce sl σ 425 [(0, .ref b0), (1, .ref (ob E 0)), (2, .ref (ob E 327)), (3, .ref (ob E 339)), (4, .ref (ob E 340)), (5, .int (zI (i : Int)))] [])
  have C := W.2.1
  have hfl := W.1
  have hroom : room_1.cells = 601024 ∧ room_1.slots = 7293034 := ⟨rfl, rfl⟩
  refine zv_aload_n C 1 dL_law_425 rfl rfl ?_
  refine zv_aload_n C 0 dL_law_426 rfl rfl ?_
  refine zv_iload C 5 dL_law_427 rfl ?_
  refine zv_iconst (v := zI 1) C dL_law_429 rfl ?_
  refine zv_iaddZ C dL_law_430 ?_
  refine zv_sld (j := i + 1) (v := (zI v1)) C W.2.2.1 W.2.2.2.1 W.2.2.2.2.1 W.2.2.2.2.2 (zI_ix (by omega)) (by omega) hx1 dL_law_431 ?_
  refine zv_aload_n C 3 dL_law_432 rfl rfl ?_
  refine zv_cH (st := []) C (w_c_X10_count hfl E σ U S hh.length v1 hR.1.2.2.1 hR.1.2.2.2.1.1 (by obtain ⟨q9, -, -, g9, -⟩ := hR.1.2.2.2.2.1; exact g9) (by first | assumption | omega)) mL_count kL_194 rfl ⟨rfl, rfl⟩ (show zfit (zrm 4 88) 4 room_1 = true from rfl) (Nat.le_of_ble_eq_true rfl) dL_law_433 ⟨by omega, by omega⟩ (fun r433 τ433 hp433 => ?_)
  obtain ⟨hr0, v9, υ9, hP9, hτ9⟩ := hp433
  refine zv_eqi (y := zI 0) hr0 ?_
  obtain ⟨hv9, hW9⟩ := hP9
  have hF9 : zFr 318 327 σ υ9 := by first | exact hW9 | (rw [hW9]; exact (by first | exact zFr_refl _ _ _ | exact zFr_rW (zFr_refl _ _ _) (by omega) | exact zFr_rW (zFr_rW (zFr_refl _ _ _) (by omega)) (by omega) | exact qW_f _ _ _ _ | exact qM_f _ _ _ _ _ | exact rW2_f _ _ _ _ _ | exact rW3_f _ _ _ _ _ | exact alW_f _ _ _ _ _ | (split <;> first | exact zFr_refl _ _ _ | exact bW_f _ _ _ _) | assumption))
  have hR1 : zRel τ433 (zDv.mk ni tx ec eo U S hh kp ou) := by rw [hτ9]; exact zRel_J (zRel_c hR hF9) _
  have ho9 : gJ τ433 339 0 = v9.toInt64 := by rw [hτ9, gJ_sJ, if_pos ⟨rfl, rfl⟩]
  rw [hv9] at ho9
  refine zv_istore (lv' := [(6, .int (zI 0)), (0, .ref b0), (1, .ref (ob E 0)), (2, .ref (ob E 327)), (3, .ref (ob E 339)), (4, .ref (ob E 340)), (5, .int (zI (i : Int)))]) C dL_law_436  (by decide) rfl ?_
  refine zv_aload_n C 3 dL_law_438 rfl rfl ?_
  refine zv_aload_n C 1 dL_law_439 rfl rfl ?_
  refine zv_iload C 6 dL_law_440 rfl ?_
  refine zv_iconst (v := zI 1) C dL_law_442 rfl ?_
  refine zv_iaddZ C dL_law_443 ?_
  refine zv_sld (j := i + 1) (v := (zI v1)) C W.2.2.1 W.2.2.2.1 W.2.2.2.2.1 W.2.2.2.2.2 (zI_ix (by omega)) (by omega) hx1 dL_law_444 ?_
  refine zv_cvi (st := []) C (c_X11_count hfl E τ433 σ U S hh.length v1 hR1.2.2.2.1 hR.1.2.2.1 hR1.2.2.2.2.2.1.1 hR.1.2.2.2.1.1 hR1.2.2.2.2.2.2.1.1 (by first | assumption | omega)) mX11_count kL_199 (by decide : kd 327 = 10) rfl rfl rfl ⟨rfl, rfl⟩ (show zfit (zrm 1 22) 2 room_1 = true from rfl) (Nat.le_of_ble_eq_true rfl) dL_law_445 ⟨by omega, by omega⟩ (fun r445 τ445 hp445 => ?_)
  obtain ⟨hr2, hK2⟩ := hp445
  refine zv_eqi (y := zI (dCnt U S hh.length v1)) hr2 ?_
  have hR2 : zRel τ445 (zDv.mk ni tx ec eo U S hh kp ou) := zRel_m hR1 hK2
  have ht2 : gI τ445 327 10 = zI 0 := hK2.2
  have hJ2 : gJ τ445 339 0 = gJ τ433 339 0 := hK2.1.2.1 339 0 (by decide)
  have hD2 : gD τ445 340 0 = gD τ433 340 0 := hK2.1.2.2 340 0
  refine zv_istore (lv' := [(7, .int (zI (dCnt U S hh.length v1))), (6, .int (zI 0)), (0, .ref b0), (1, .ref (ob E 0)), (2, .ref (ob E 327)), (3, .ref (ob E 339)), (4, .ref (ob E 340)), (5, .int (zI (i : Int)))]) C dL_law_448  (by decide) rfl ?_
  refine zv_aload_n C 4 dL_law_450 rfl rfl ?_
  refine zv_cviD (st := []) C (c_X11_thrown hfl E τ445) mX11_thrown kL_200 (by decide : kd 327 = 10) rfl rfl rfl ⟨rfl, rfl⟩ (show zfit (zrm 0 0) 1 room_1 = true from rfl) (Nat.le_of_ble_eq_true rfl) dL_law_451 ⟨by omega, by omega⟩ ?_
  refine zv_eqi (y := (zI 0)) (ht2) ?_
  refine zv_iload C 1 dL_law_454 rfl ?_
  refine zv_icmp_eqZ (tgt := 461) C (by omega) (by omega) dL_law_456 (by decide) (fun h456 => ?_) (fun h456 => ?_)
  · skip
    refine zv_iload C 1 dL_law_461 rfl ?_
    refine zv_if_neZ (tgt := 478) C (by omega) dL_law_463 (by decide) (fun h463 => absurd h463 (by decide)) (fun h463 => ?_)
    refine zv_aload_n C 5 dL_law_466 rfl rfl ?_
    refine zv_iconst (v := zI 0) C dL_law_467 rfl ?_
    refine zv_lald (j := 0) C (by decide : kd 339 = _) (zI_ix (by omega)) (by decide) dL_law_468 ?_
    refine zv_eql (y := ((zI (dCnt U S hh.length v1)).toInt64)) (hJ2.trans ho9) ?_
    refine zv_iload C 0 dL_law_469 rfl ?_
    refine zv_i2l C dL_law_471 ?_
    refine zv_lc_eq (tgt := 478) C dL_law_472 dL_law_473 (by decide) (fun h472 => ?_) (fun h472 => ?_)
    · skip
      refine zv_goto (tgt := 3624) C dL_law_478 (by decide) ?_
      refine zv_sub (lv' := [(0, .ref b0), (1, .ref (ob E 0)), (2, .ref (ob E 327)), (3, .ref (ob E 339)), (4, .ref (ob E 340)), (5, .int (zI (i : Int)))]) [2, 3, 4, 5, 6, 7] (zcons rfl (zcons rfl (zcons rfl (zcons rfl (zcons rfl (zcons rfl rfl)))))) ?_
      exact kk _ _ _ _ (by omega) (by omega) hR2
    · exfalso
      exact h472 rfl
  · exfalso
    omega
set_option maxRecDepth 20000 in
theorem lw_count_x1_x1 {p : Program} {l : Launch} {e : Env} {s : State} {m : MethodId} {args : Array Value} {below : List Frame} {meth : Method} {c : Code} {E : zE} {Q : State → Prop} {b0 L i ce sl : Nat} {xs : Nat → Int32} {σ : zS} (ni : Nat) (tx : Nat → Int) (ec : Nat) (eo : Int) (U : zSU) (S : zST) (hh : List zST) (kp : Option zST) (ou : List Nat) (v1 : Int) (W : zLW p l s m args meth c E b0 L xs) (hi : i + 6 ≤ L) (hcs : ce + 1 ≤ room_1.cells ∧ sl + 6 ≤ room_1.slots) (hR : zRel σ (zDv.mk ni tx ec eo U S hh kp ou)) (hx1 : xs (i + 1) = (zI v1)) (hyi0 : -2147483648 ≤ v1 ∧ v1 < 2147483648) (hno1 : ¬ (0 ≤ v1 ∧ v1 ≤ 6))  (kk : zNx p l e s m args below meth c E Q b0 i ce sl) : zV p l e room_1 s m args below meth c 9 E Q ce sl σ 425 (lwL b0 i E) [] := by
  refine (?_ : zV p l e room_1 s m args below meth c 9 E Q ce sl σ 425 [(0, .ref b0), (1, .ref (ob E 0)), (2, .ref (ob E 327)), (3, .ref (ob E 339)), (4, .ref (ob E 340)), (5, .int (zI (i : Int)))] [])
  have C := W.2.1
  have hfl := W.1
  have hroom : room_1.cells = 601024 ∧ room_1.slots = 7293034 := ⟨rfl, rfl⟩
  refine zv_aload_n C 1 dL_law_425 rfl rfl ?_
  refine zv_aload_n C 0 dL_law_426 rfl rfl ?_
  refine zv_iload C 5 dL_law_427 rfl ?_
  refine zv_iconst (v := zI 1) C dL_law_429 rfl ?_
  refine zv_iaddZ C dL_law_430 ?_
  refine zv_sld (j := i + 1) (v := (zI v1)) C W.2.2.1 W.2.2.2.1 W.2.2.2.2.1 W.2.2.2.2.2 (zI_ix (by omega)) (by omega) hx1 dL_law_431 ?_
  refine zv_aload_n C 3 dL_law_432 rfl rfl ?_
  refine zv_cH (st := []) C (w_x1_X10_count hfl E σ U v1 (by first | assumption | omega) (by first | assumption | omega)) mL_count kL_194 rfl ⟨rfl, rfl⟩ (show zfit (zrx 10 221) 4 room_1 = true from rfl) (Nat.le_of_ble_eq_true rfl) dL_law_433 ⟨by exact hcs.1, by exact hcs.2⟩ (fun r433 τ433 hp433 => ?_)
  obtain ⟨hr0, hP9⟩ := hp433
  refine zv_eqi (y := zI 1) hr0 ?_
  have hF9 : zFr 318 327 σ τ433 := by rw [hP9]; exact (by first | exact zFr_refl _ _ _ | exact zFr_rW (zFr_refl _ _ _) (by omega) | exact zFr_rW (zFr_rW (zFr_refl _ _ _) (by omega)) (by omega) | exact qW_f _ _ _ _ | exact qM_f _ _ _ _ _ | exact rW2_f _ _ _ _ _ | exact rW3_f _ _ _ _ _ | exact alW_f _ _ _ _ _ | (split <;> first | exact zFr_refl _ _ _ | exact bW_f _ _ _ _) | assumption)
  have hR1 : zRel τ433 (zDv.mk ni tx ec eo U S hh kp ou) := zRel_c hR hF9
  refine zv_istore (lv' := [(6, .int (zI 1)), (0, .ref b0), (1, .ref (ob E 0)), (2, .ref (ob E 327)), (3, .ref (ob E 339)), (4, .ref (ob E 340)), (5, .int (zI (i : Int)))]) C dL_law_436  (by decide) rfl ?_
  refine zv_aload_n C 3 dL_law_438 rfl rfl ?_
  refine zv_aload_n C 1 dL_law_439 rfl rfl ?_
  refine zv_iload C 6 dL_law_440 rfl ?_
  refine zv_iconst (v := zI 1) C dL_law_442 rfl ?_
  refine zv_iaddZ C dL_law_443 ?_
  refine zv_sld (j := i + 1) (v := (zI v1)) C W.2.2.1 W.2.2.2.1 W.2.2.2.2.1 W.2.2.2.2.2 (zI_ix (by omega)) (by omega) hx1 dL_law_444 ?_
  refine zv_cvi (st := []) C (x1_X11_count hfl E τ433 v1 (by first | assumption | omega) (by first | assumption | omega)) mX11_count kL_199 (by decide : kd 327 = 10) rfl rfl rfl ⟨rfl, rfl⟩ (show zfit (zrm 1 22) 2 room_1 = true from rfl) (Nat.le_of_ble_eq_true rfl) dL_law_445 ⟨by omega, by omega⟩ (fun r445 τ445 hp445 => ?_)
  obtain ⟨hr2, hK2⟩ := hp445
  refine zv_eqi (y := zI 0) hr2 ?_
  have hR2 : zRel τ445 (zDv.mk ni tx ec eo U S hh kp ou) := zRel_m hR1 hK2
  have ht2 : gI τ445 327 10 = zI 1 := hK2.2
  have hJ2 : gJ τ445 339 0 = gJ τ433 339 0 := hK2.1.2.1 339 0 (by decide)
  have hD2 : gD τ445 340 0 = gD τ433 340 0 := hK2.1.2.2 340 0
  refine zv_istore (lv' := [(7, .int (zI 0)), (6, .int (zI 1)), (0, .ref b0), (1, .ref (ob E 0)), (2, .ref (ob E 327)), (3, .ref (ob E 339)), (4, .ref (ob E 340)), (5, .int (zI (i : Int)))]) C dL_law_448  (by decide) rfl ?_
  refine zv_aload_n C 4 dL_law_450 rfl rfl ?_
  refine zv_cviD (st := []) C (c_X11_thrown hfl E τ445) mX11_thrown kL_200 (by decide : kd 327 = 10) rfl rfl rfl ⟨rfl, rfl⟩ (show zfit (zrm 0 0) 1 room_1 = true from rfl) (Nat.le_of_ble_eq_true rfl) dL_law_451 ⟨by omega, by omega⟩ ?_
  refine zv_eqi (y := (zI 1)) (ht2) ?_
  refine zv_iload C 1 dL_law_454 rfl ?_
  refine zv_icmp_eqZ (tgt := 461) C (by omega) (by omega) dL_law_456 (by decide) (fun h456 => ?_) (fun h456 => ?_)
  · skip
    refine zv_iload C 1 dL_law_461 rfl ?_
    refine zv_if_neZ (tgt := 478) C (by omega) dL_law_463 (by decide) (fun h463 => ?_) (fun h463 => absurd h463 (by decide))
    refine zv_goto (tgt := 3624) C dL_law_478 (by decide) ?_
    refine zv_sub (lv' := [(0, .ref b0), (1, .ref (ob E 0)), (2, .ref (ob E 327)), (3, .ref (ob E 339)), (4, .ref (ob E 340)), (5, .int (zI (i : Int)))]) [2, 3, 4, 5, 6, 7] (zcons rfl (zcons rfl (zcons rfl (zcons rfl (zcons rfl (zcons rfl rfl)))))) ?_
    exact kk _ _ _ _ (by omega) (by omega) hR2
  · exfalso
    omega
