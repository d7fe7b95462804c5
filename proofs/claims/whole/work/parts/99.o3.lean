/-! the law's cases -/
theorem dL_law_1289 : decode cL_law 1289 = .ok (.aload_n 1, 1) := by decide +kernel
theorem dL_law_1290 : decode cL_law 1290 = .ok (.aload_n 0, 1) := by decide +kernel
theorem dL_law_1291 : decode cL_law 1291 = .ok (.iload 5, 2) := by decide +kernel
theorem dL_law_1293 : decode cL_law 1293 = .ok (.iconst 1, 1) := by decide +kernel
theorem dL_law_1294 : decode cL_law 1294 = .ok (.iadd, 1) := by decide +kernel
theorem dL_law_1295 : decode cL_law 1295 = .ok (.iaload, 1) := by decide +kernel
theorem dL_law_1296 : decode cL_law 1296 = .ok (.aload_n 0, 1) := by decide +kernel
theorem dL_law_1297 : decode cL_law 1297 = .ok (.iload 5, 2) := by decide +kernel
theorem dL_law_1299 : decode cL_law 1299 = .ok (.iconst 2, 1) := by decide +kernel
theorem dL_law_1300 : decode cL_law 1300 = .ok (.iadd, 1) := by decide +kernel
theorem dL_law_1301 : decode cL_law 1301 = .ok (.iaload, 1) := by decide +kernel
theorem dL_law_1302 : decode cL_law 1302 = .ok (.aload_n 3, 1) := by decide +kernel
theorem dL_law_1303 : decode cL_law 1303 = .ok (.invokestatic 244, 3) := by decide +kernel
theorem dL_law_1306 : decode cL_law 1306 = .ok (.istore 6, 2) := by decide +kernel
theorem dL_law_1308 : decode cL_law 1308 = .ok (.aload_n 2, 1) := by decide +kernel
theorem dL_law_1309 : decode cL_law 1309 = .ok (.aload_n 0, 1) := by decide +kernel
theorem dL_law_1310 : decode cL_law 1310 = .ok (.iload 5, 2) := by decide +kernel
theorem dL_law_1312 : decode cL_law 1312 = .ok (.iconst 1, 1) := by decide +kernel
theorem dL_law_1313 : decode cL_law 1313 = .ok (.iadd, 1) := by decide +kernel
theorem dL_law_1314 : decode cL_law 1314 = .ok (.iaload, 1) := by decide +kernel
theorem dL_law_1315 : decode cL_law 1315 = .ok (.aload_n 0, 1) := by decide +kernel
theorem dL_law_1316 : decode cL_law 1316 = .ok (.iload 5, 2) := by decide +kernel
theorem dL_law_1318 : decode cL_law 1318 = .ok (.iconst 2, 1) := by decide +kernel
theorem dL_law_1319 : decode cL_law 1319 = .ok (.iadd, 1) := by decide +kernel
theorem dL_law_1320 : decode cL_law 1320 = .ok (.iaload, 1) := by decide +kernel
theorem dL_law_1321 : decode cL_law 1321 = .ok (.invokevirtual 246, 3) := by decide +kernel
theorem dL_law_1324 : decode cL_law 1324 = .ok (.istore 7, 2) := by decide +kernel
theorem dL_law_1326 : decode cL_law 1326 = .ok (.aload_n 2, 1) := by decide +kernel
theorem dL_law_1327 : decode cL_law 1327 = .ok (.invokevirtual 200, 3) := by decide +kernel
theorem dL_law_1330 : decode cL_law 1330 = .ok (.iload 6, 2) := by decide +kernel
theorem dL_law_1332 : decode cL_law 1332 = .ok (.if_icmp .eq 5, 3) := by decide +kernel
theorem dL_law_1335 : decode cL_law 1335 = .ok (.iconst 0, 1) := by decide +kernel
theorem dL_law_1336 : decode cL_law 1336 = .ok (.ireturn, 1) := by decide +kernel
theorem dL_law_1337 : decode cL_law 1337 = .ok (.iload 6, 2) := by decide +kernel
theorem dL_law_1339 : decode cL_law 1339 = .ok (.ifCond .ne 15, 3) := by decide +kernel
theorem dL_law_1342 : decode cL_law 1342 = .ok (.aload_n 3, 1) := by decide +kernel
theorem dL_law_1343 : decode cL_law 1343 = .ok (.iconst 0, 1) := by decide +kernel
theorem dL_law_1344 : decode cL_law 1344 = .ok (.laload, 1) := by decide +kernel
theorem dL_law_1345 : decode cL_law 1345 = .ok (.iload 7, 2) := by decide +kernel
theorem dL_law_1347 : decode cL_law 1347 = .ok (.i2l, 1) := by decide +kernel
theorem dL_law_1348 : decode cL_law 1348 = .ok (.lcmp, 1) := by decide +kernel
theorem dL_law_1349 : decode cL_law 1349 = .ok (.ifCond .eq 5, 3) := by decide +kernel
theorem dL_law_1352 : decode cL_law 1352 = .ok (.iconst 0, 1) := by decide +kernel
theorem dL_law_1353 : decode cL_law 1353 = .ok (.ireturn, 1) := by decide +kernel
theorem dL_law_1354 : decode cL_law 1354 = .ok (.goto 2270, 3) := by decide +kernel
set_option maxRecDepth 20000 in
theorem lw_ranked_c_c {p : Program} {l : Launch} {e : Env} {s : State} {m : MethodId} {args : Array Value} {below : List Frame} {meth : Method} {c : Code} {E : zE} {Q : State → Prop} {b0 L i ce sl : Nat} {xs : Nat → Int32} {σ : zS} (ni : Nat) (tx : Nat → Int) (ec : Nat) (eo : Int) (U : zSU) (S : zST) (hh : List zST) (kp : Option zST) (ou : List Nat) (v1 : Int) (n2 : Nat) (W : zLW p l s m args meth c E b0 L xs) (hi : i + 6 ≤ L) (hcs : ce + 1 ≤ room_1.cells ∧ sl + 6 ≤ room_1.slots) (hR : zRel σ (zDv.mk ni tx ec eo U S hh kp ou)) (hx1 : xs (i + 1) = (zI v1)) (hx2 : xs (i + 2) = (zI (n2 : Int))) (hy0 : U.s0 ≤ v1 ∧ v1 ≤ U.s0 + 999) (hrk1 : -2147483648 ≤ (n2 : Int) ∧ (n2 : Int) < 2147483648) (hfi2 : 0 ≤ fi (dRk U S v1 (n2 : Int)) U.nb) (hrn : n2 < U.nb) (kk : zNx p l e s m args below meth c E Q b0 i ce sl) : zV p l e room_1 s m args below meth c 9 E Q ce sl σ 1289 (lwL b0 i E) [] := by
  refine (?_ : zV p l e room_1 s m args below meth c 9 E Q ce sl σ 1289 [(0, .ref b0), (1, .ref (ob E 0)), (2, .ref (ob E 327)), (3, .ref (ob E 339)), (4, .ref (ob E 340)), (5, .int (zI (i : Int)))] [])
  have C := W.2.1
  have hfl := W.1
  have hroom : room_1.cells = 601024 ∧ room_1.slots = 7293034 := ⟨rfl, rfl⟩
  refine zv_aload_n C 1 dL_law_1289 rfl rfl ?_
  refine zv_aload_n C 0 dL_law_1290 rfl rfl ?_
  refine zv_iload C 5 dL_law_1291 rfl ?_
  refine zv_iconst (v := zI 1) C dL_law_1293 rfl ?_
  refine zv_iaddZ C dL_law_1294 ?_
  refine zv_sld (j := i + 1) (v := (zI v1)) C W.2.2.1 W.2.2.2.1 W.2.2.2.2.1 W.2.2.2.2.2 (zI_ix (by omega)) (by omega) hx1 dL_law_1295 ?_
  refine zv_aload_n C 0 dL_law_1296 rfl rfl ?_
  refine zv_iload C 5 dL_law_1297 rfl ?_
  refine zv_iconst (v := zI 2) C dL_law_1299 rfl ?_
  refine zv_iaddZ C dL_law_1300 ?_
  refine zv_sld (j := i + 2) (v := (zI (n2 : Int))) C W.2.2.1 W.2.2.2.1 W.2.2.2.2.1 W.2.2.2.2.2 (zI_ix (by omega)) (by omega) hx2 dL_law_1301 ?_
  refine zv_aload_n C 3 dL_law_1302 rfl rfl ?_
  refine zv_cH (st := []) C (w_c_X10_ranked hfl E σ U S v1 (n2 : Int) hR.1.2.2.1 hR.1.2.2.2.1.1 (by first | assumption | omega) (by first | assumption | omega) (by first | assumption | omega)) mL_ranked kL_244 rfl ⟨rfl, rfl⟩ (show zfit (zrm 7 171) 5 room_1 = true from rfl) (Nat.le_of_ble_eq_true rfl) dL_law_1303 ⟨by omega, by omega⟩ (fun r1303 τ1303 hp1303 => ?_)
  obtain ⟨hr0, v9, υ9, hP9, hτ9⟩ := hp1303
  refine zv_eqi (y := zI 0) hr0 ?_
  obtain ⟨hv9, hW9⟩ := hP9
  have hF9 : zFr 318 327 σ υ9 := by first | exact hW9 | (rw [hW9]; exact (by first | exact zFr_refl _ _ _ | exact zFr_rW (zFr_refl _ _ _) (by omega) | exact zFr_rW (zFr_rW (zFr_refl _ _ _) (by omega)) (by omega) | exact qW_f _ _ _ _ | exact qM_f _ _ _ _ _ | exact rW2_f _ _ _ _ _ | exact rW3_f _ _ _ _ _ | exact alW_f _ _ _ _ _ | (split <;> first | exact zFr_refl _ _ _ | exact bW_f _ _ _ _) | assumption))
  have hR1 : zRel τ1303 (zDv.mk ni tx ec eo U S hh kp ou) := by rw [hτ9]; exact zRel_J (zRel_c hR hF9) _
  have ho9 : gJ τ1303 339 0 = v9.toInt64 := by rw [hτ9, gJ_sJ, if_pos ⟨rfl, rfl⟩]
  rw [hv9] at ho9
  refine zv_istore (lv' := [(6, .int (zI 0)), (0, .ref b0), (1, .ref (ob E 0)), (2, .ref (ob E 327)), (3, .ref (ob E 339)), (4, .ref (ob E 340)), (5, .int (zI (i : Int)))]) C dL_law_1306  (by decide) rfl ?_
  refine zv_aload_n C 3 dL_law_1308 rfl rfl ?_
  refine zv_aload_n C 1 dL_law_1309 rfl rfl ?_
  refine zv_iload C 6 dL_law_1310 rfl ?_
  refine zv_iconst (v := zI 1) C dL_law_1312 rfl ?_
  refine zv_iaddZ C dL_law_1313 ?_
  refine zv_sld (j := i + 1) (v := (zI v1)) C W.2.2.1 W.2.2.2.1 W.2.2.2.2.1 W.2.2.2.2.2 (zI_ix (by omega)) (by omega) hx1 dL_law_1314 ?_
  refine zv_aload_n C 1 dL_law_1315 rfl rfl ?_
  refine zv_iload C 6 dL_law_1316 rfl ?_
  refine zv_iconst (v := zI 2) C dL_law_1318 rfl ?_
  refine zv_iaddZ C dL_law_1319 ?_
  refine zv_sld (j := i + 2) (v := (zI (n2 : Int))) C W.2.2.1 W.2.2.2.1 W.2.2.2.2.1 W.2.2.2.2.2 (zI_ix (by omega)) (by omega) hx2 dL_law_1320 ?_
  refine zv_cvi (st := []) C (c_X11_ranked hfl E τ1303 σ U S v1 n2 hR1.2.2.2.1 hR.1.2.2.1 hR1.2.2.2.2.2.1.1 hR.1.2.2.2.1.1 (by first | assumption | omega) (by first | assumption | omega) (by first | assumption | omega)) mX11_ranked kL_246 (by decide : kd 327 = 10) rfl rfl rfl ⟨rfl, rfl⟩ (show zfit (zrm 3 68) 6 room_1 = true from rfl) (Nat.le_of_ble_eq_true rfl) dL_law_1321 ⟨by omega, by omega⟩ (fun r1321 τ1321 hp1321 => ?_)
  obtain ⟨hr2, hK2⟩ := hp1321
  refine zv_eqi (y := zI (fi (dRk U S v1 (n2 : Int)) U.nb)) hr2 ?_
  have hR2 : zRel τ1321 (zDv.mk ni tx ec eo U S hh kp ou) := zRel_m hR1 hK2
  have ht2 : gI τ1321 327 10 = zI 0 := hK2.2
  have hJ2 : gJ τ1321 339 0 = gJ τ1303 339 0 := hK2.1.2.1 339 0 (by decide)
  have hD2 : gD τ1321 340 0 = gD τ1303 340 0 := hK2.1.2.2 340 0
  refine zv_istore (lv' := [(7, .int (zI (fi (dRk U S v1 (n2 : Int)) U.nb))), (6, .int (zI 0)), (0, .ref b0), (1, .ref (ob E 0)), (2, .ref (ob E 327)), (3, .ref (ob E 339)), (4, .ref (ob E 340)), (5, .int (zI (i : Int)))]) C dL_law_1324  (by decide) rfl ?_
  refine zv_aload_n C 4 dL_law_1326 rfl rfl ?_
  refine zv_cviD (st := []) C (c_X11_thrown hfl E τ1321) mX11_thrown kL_200 (by decide : kd 327 = 10) rfl rfl rfl ⟨rfl, rfl⟩ (show zfit (zrm 0 0) 1 room_1 = true from rfl) (Nat.le_of_ble_eq_true rfl) dL_law_1327 ⟨by omega, by omega⟩ ?_
  refine zv_eqi (y := (zI 0)) (ht2) ?_
  refine zv_iload C 1 dL_law_1330 rfl ?_
  refine zv_icmp_eqZ (tgt := 1337) C (by omega) (by omega) dL_law_1332 (by decide) (fun h1332 => ?_) (fun h1332 => ?_)
  · skip
    refine zv_iload C 1 dL_law_1337 rfl ?_
    refine zv_if_neZ (tgt := 1354) C (by omega) dL_law_1339 (by decide) (fun h1339 => absurd h1339 (by decide)) (fun h1339 => ?_)
    refine zv_aload_n C 5 dL_law_1342 rfl rfl ?_
    refine zv_iconst (v := zI 0) C dL_law_1343 rfl ?_
    refine zv_lald (j := 0) C (by decide : kd 339 = _) (zI_ix (by omega)) (by decide) dL_law_1344 ?_
    refine zv_eql (y := ((zI (fi (dRk U S v1 (n2 : Int)) U.nb)).toInt64)) (hJ2.trans ho9) ?_
    refine zv_iload C 0 dL_law_1345 rfl ?_
    refine zv_i2l C dL_law_1347 ?_
    refine zv_lc_eq (tgt := 1354) C dL_law_1348 dL_law_1349 (by decide) (fun h1348 => ?_) (fun h1348 => ?_)
    · skip
      refine zv_goto (tgt := 3624) C dL_law_1354 (by decide) ?_
      refine zv_sub (lv' := [(0, .ref b0), (1, .ref (ob E 0)), (2, .ref (ob E 327)), (3, .ref (ob E 339)), (4, .ref (ob E 340)), (5, .int (zI (i : Int)))]) [2, 3, 4, 5, 6, 7] (zcons rfl (zcons rfl (zcons rfl (zcons rfl (zcons rfl (zcons rfl rfl)))))) ?_
      exact kk _ _ _ _ (by omega) (by omega) hR2
    · exfalso
      exact h1348 rfl
  · exfalso
    omega
set_option maxRecDepth 20000 in
theorem lw_ranked_x1_x1 {p : Program} {l : Launch} {e : Env} {s : State} {m : MethodId} {args : Array Value} {below : List Frame} {meth : Method} {c : Code} {E : zE} {Q : State → Prop} {b0 L i ce sl : Nat} {xs : Nat → Int32} {σ : zS} (ni : Nat) (tx : Nat → Int) (ec : Nat) (eo : Int) (U : zSU) (S : zST) (hh : List zST) (kp : Option zST) (ou : List Nat) (v1 : Int) (v2 : Int) (W : zLW p l s m args meth c E b0 L xs) (hi : i + 6 ≤ L) (hcs : ce + 1 ≤ room_1.cells ∧ sl + 6 ≤ room_1.slots) (hR : zRel σ (zDv.mk ni tx ec eo U S hh kp ou)) (hx1 : xs (i + 1) = (zI v1)) (hx2 : xs (i + 2) = (zI v2)) (hyi0 : -2147483648 ≤ v1 ∧ v1 < 2147483648) (hno1 : ¬ (U.s0 ≤ v1 ∧ v1 ≤ U.s0 + 999))  (kk : zNx p l e s m args below meth c E Q b0 i ce sl) : zV p l e room_1 s m args below meth c 9 E Q ce sl σ 1289 (lwL b0 i E) [] := by
  refine (?_ : zV p l e room_1 s m args below meth c 9 E Q ce sl σ 1289 [(0, .ref b0), (1, .ref (ob E 0)), (2, .ref (ob E 327)), (3, .ref (ob E 339)), (4, .ref (ob E 340)), (5, .int (zI (i : Int)))] [])
  have C := W.2.1
  have hfl := W.1
  have hroom : room_1.cells = 601024 ∧ room_1.slots = 7293034 := ⟨rfl, rfl⟩
  refine zv_aload_n C 1 dL_law_1289 rfl rfl ?_
  refine zv_aload_n C 0 dL_law_1290 rfl rfl ?_
  refine zv_iload C 5 dL_law_1291 rfl ?_
  refine zv_iconst (v := zI 1) C dL_law_1293 rfl ?_
  refine zv_iaddZ C dL_law_1294 ?_
  refine zv_sld (j := i + 1) (v := (zI v1)) C W.2.2.1 W.2.2.2.1 W.2.2.2.2.1 W.2.2.2.2.2 (zI_ix (by omega)) (by omega) hx1 dL_law_1295 ?_
  refine zv_aload_n C 0 dL_law_1296 rfl rfl ?_
  refine zv_iload C 5 dL_law_1297 rfl ?_
  refine zv_iconst (v := zI 2) C dL_law_1299 rfl ?_
  refine zv_iaddZ C dL_law_1300 ?_
  refine zv_sld (j := i + 2) (v := (zI v2)) C W.2.2.1 W.2.2.2.1 W.2.2.2.2.1 W.2.2.2.2.2 (zI_ix (by omega)) (by omega) hx2 dL_law_1301 ?_
  refine zv_aload_n C 3 dL_law_1302 rfl rfl ?_
  refine zv_cH (st := []) C (w_x1_X10_ranked hfl E σ U v1 v2 hR.1.2.2.1 (by first | assumption | omega) (by first | assumption | omega)) mL_ranked kL_244 rfl ⟨rfl, rfl⟩ (show zfit (zrx 11 233) 5 room_1 = true from rfl) (Nat.le_of_ble_eq_true rfl) dL_law_1303 ⟨by exact hcs.1, by exact hcs.2⟩ (fun r1303 τ1303 hp1303 => ?_)
  obtain ⟨hr0, hP9⟩ := hp1303
  refine zv_eqi (y := zI 1) hr0 ?_
  have hF9 : zFr 318 327 σ τ1303 := by rw [hP9]; exact (by first | exact zFr_refl _ _ _ | exact zFr_rW (zFr_refl _ _ _) (by omega) | exact zFr_rW (zFr_rW (zFr_refl _ _ _) (by omega)) (by omega) | exact qW_f _ _ _ _ | exact qM_f _ _ _ _ _ | exact rW2_f _ _ _ _ _ | exact rW3_f _ _ _ _ _ | exact alW_f _ _ _ _ _ | (split <;> first | exact zFr_refl _ _ _ | exact bW_f _ _ _ _) | assumption)
  have hR1 : zRel τ1303 (zDv.mk ni tx ec eo U S hh kp ou) := zRel_c hR hF9
  refine zv_istore (lv' := [(6, .int (zI 1)), (0, .ref b0), (1, .ref (ob E 0)), (2, .ref (ob E 327)), (3, .ref (ob E 339)), (4, .ref (ob E 340)), (5, .int (zI (i : Int)))]) C dL_law_1306  (by decide) rfl ?_
  refine zv_aload_n C 3 dL_law_1308 rfl rfl ?_
  refine zv_aload_n C 1 dL_law_1309 rfl rfl ?_
  refine zv_iload C 6 dL_law_1310 rfl ?_
  refine zv_iconst (v := zI 1) C dL_law_1312 rfl ?_
  refine zv_iaddZ C dL_law_1313 ?_
  refine zv_sld (j := i + 1) (v := (zI v1)) C W.2.2.1 W.2.2.2.1 W.2.2.2.2.1 W.2.2.2.2.2 (zI_ix (by omega)) (by omega) hx1 dL_law_1314 ?_
  refine zv_aload_n C 1 dL_law_1315 rfl rfl ?_
  refine zv_iload C 6 dL_law_1316 rfl ?_
  refine zv_iconst (v := zI 2) C dL_law_1318 rfl ?_
  refine zv_iaddZ C dL_law_1319 ?_
  refine zv_sld (j := i + 2) (v := (zI v2)) C W.2.2.1 W.2.2.2.1 W.2.2.2.2.1 W.2.2.2.2.2 (zI_ix (by omega)) (by omega) hx2 dL_law_1320 ?_
  refine zv_cvi (st := []) C (x1_X11_ranked hfl E τ1303 σ U v1 v2 hR1.2.2.2.1 hR.1.2.2.1 (by first | assumption | omega) (by first | assumption | omega)) mX11_ranked kL_246 (by decide : kd 327 = 10) rfl rfl rfl ⟨rfl, rfl⟩ (show zfit (zrm 3 68) 6 room_1 = true from rfl) (Nat.le_of_ble_eq_true rfl) dL_law_1321 ⟨by omega, by omega⟩ (fun r1321 τ1321 hp1321 => ?_)
  obtain ⟨hr2, hK2⟩ := hp1321
  refine zv_eqi (y := zI 0) hr2 ?_
  have hR2 : zRel τ1321 (zDv.mk ni tx ec eo U S hh kp ou) := zRel_m hR1 hK2
  have ht2 : gI τ1321 327 10 = zI 1 := hK2.2
  have hJ2 : gJ τ1321 339 0 = gJ τ1303 339 0 := hK2.1.2.1 339 0 (by decide)
  have hD2 : gD τ1321 340 0 = gD τ1303 340 0 := hK2.1.2.2 340 0
  refine zv_istore (lv' := [(7, .int (zI 0)), (6, .int (zI 1)), (0, .ref b0), (1, .ref (ob E 0)), (2, .ref (ob E 327)), (3, .ref (ob E 339)), (4, .ref (ob E 340)), (5, .int (zI (i : Int)))]) C dL_law_1324  (by decide) rfl ?_
  refine zv_aload_n C 4 dL_law_1326 rfl rfl ?_
  refine zv_cviD (st := []) C (c_X11_thrown hfl E τ1321) mX11_thrown kL_200 (by decide : kd 327 = 10) rfl rfl rfl ⟨rfl, rfl⟩ (show zfit (zrm 0 0) 1 room_1 = true from rfl) (Nat.le_of_ble_eq_true rfl) dL_law_1327 ⟨by omega, by omega⟩ ?_
  refine zv_eqi (y := (zI 1)) (ht2) ?_
  refine zv_iload C 1 dL_law_1330 rfl ?_
  refine zv_icmp_eqZ (tgt := 1337) C (by omega) (by omega) dL_law_1332 (by decide) (fun h1332 => ?_) (fun h1332 => ?_)
  · skip
    refine zv_iload C 1 dL_law_1337 rfl ?_
    refine zv_if_neZ (tgt := 1354) C (by omega) dL_law_1339 (by decide) (fun h1339 => ?_) (fun h1339 => absurd h1339 (by decide))
    refine zv_goto (tgt := 3624) C dL_law_1354 (by decide) ?_
    refine zv_sub (lv' := [(0, .ref b0), (1, .ref (ob E 0)), (2, .ref (ob E 327)), (3, .ref (ob E 339)), (4, .ref (ob E 340)), (5, .int (zI (i : Int)))]) [2, 3, 4, 5, 6, 7] (zcons rfl (zcons rfl (zcons rfl (zcons rfl (zcons rfl (zcons rfl rfl)))))) ?_
    exact kk _ _ _ _ (by omega) (by omega) hR2
  · exfalso
    omega
set_option maxRecDepth 20000 in
theorem lw_ranked_x2_x2 {p : Program} {l : Launch} {e : Env} {s : State} {m : MethodId} {args : Array Value} {below : List Frame} {meth : Method} {c : Code} {E : zE} {Q : State → Prop} {b0 L i ce sl : Nat} {xs : Nat → Int32} {σ : zS} (ni : Nat) (tx : Nat → Int) (ec : Nat) (eo : Int) (U : zSU) (S : zST) (hh : List zST) (kp : Option zST) (ou : List Nat) (v1 : Int) (v2 : Int) (W : zLW p l s m args meth c E b0 L xs) (hi : i + 6 ≤ L) (hcs : ce + 1 ≤ room_1.cells ∧ sl + 6 ≤ room_1.slots) (hR : zRel σ (zDv.mk ni tx ec eo U S hh kp ou)) (hx1 : xs (i + 1) = (zI v1)) (hx2 : xs (i + 2) = (zI v2)) (hy0 : U.s0 ≤ v1 ∧ v1 ≤ U.s0 + 999) (hrk1 : -2147483648 ≤ v2 ∧ v2 < 2147483648) (hfi2 : fi (dRk U S v1 v2) U.nb = -1) (hrn : ¬ (0 ≤ v2 ∧ v2 < U.nb)) (kk : zNx p l e s m args below meth c E Q b0 i ce sl) : zV p l e room_1 s m args below meth c 9 E Q ce sl σ 1289 (lwL b0 i E) [] := by
  refine (?_ : zV p l e room_1 s m args below meth c 9 E Q ce sl σ 1289 [(0, .ref b0), (1, .ref (ob E 0)), (2, .ref (ob E 327)), (3, .ref (ob E 339)), (4, .ref (ob E 340)), (5, .int (zI (i : Int)))] [])
  have C := W.2.1
  have hfl := W.1
  have hroom : room_1.cells = 601024 ∧ room_1.slots = 7293034 := ⟨rfl, rfl⟩
  refine zv_aload_n C 1 dL_law_1289 rfl rfl ?_
  refine zv_aload_n C 0 dL_law_1290 rfl rfl ?_
  refine zv_iload C 5 dL_law_1291 rfl ?_
  refine zv_iconst (v := zI 1) C dL_law_1293 rfl ?_
  refine zv_iaddZ C dL_law_1294 ?_
  refine zv_sld (j := i + 1) (v := (zI v1)) C W.2.2.1 W.2.2.2.1 W.2.2.2.2.1 W.2.2.2.2.2 (zI_ix (by omega)) (by omega) hx1 dL_law_1295 ?_
  refine zv_aload_n C 0 dL_law_1296 rfl rfl ?_
  refine zv_iload C 5 dL_law_1297 rfl ?_
  refine zv_iconst (v := zI 2) C dL_law_1299 rfl ?_
  refine zv_iaddZ C dL_law_1300 ?_
  refine zv_sld (j := i + 2) (v := (zI v2)) C W.2.2.1 W.2.2.2.1 W.2.2.2.2.1 W.2.2.2.2.2 (zI_ix (by omega)) (by omega) hx2 dL_law_1301 ?_
  refine zv_aload_n C 3 dL_law_1302 rfl rfl ?_
  refine zv_cH (st := []) C (w_x2_X10_ranked hfl E σ U S v1 v2 hR.1.2.2.1 hR.1.2.2.2.1.1 (by first | assumption | omega) (by first | assumption | omega) (by first | assumption | omega)) mL_ranked kL_244 rfl ⟨rfl, rfl⟩ (show zfit (zrx 11 233) 5 room_1 = true from rfl) (Nat.le_of_ble_eq_true rfl) dL_law_1303 ⟨by exact hcs.1, by exact hcs.2⟩ (fun r1303 τ1303 hp1303 => ?_)
  obtain ⟨hr0, hP9⟩ := hp1303
  refine zv_eqi (y := zI 2) hr0 ?_
  have hF9 : zFr 318 327 σ τ1303 := by rw [hP9]; exact (by first | exact zFr_refl _ _ _ | exact zFr_rW (zFr_refl _ _ _) (by omega) | exact zFr_rW (zFr_rW (zFr_refl _ _ _) (by omega)) (by omega) | exact qW_f _ _ _ _ | exact qM_f _ _ _ _ _ | exact rW2_f _ _ _ _ _ | exact rW3_f _ _ _ _ _ | exact alW_f _ _ _ _ _ | (split <;> first | exact zFr_refl _ _ _ | exact bW_f _ _ _ _) | assumption)
  have hR1 : zRel τ1303 (zDv.mk ni tx ec eo U S hh kp ou) := zRel_c hR hF9
  refine zv_istore (lv' := [(6, .int (zI 2)), (0, .ref b0), (1, .ref (ob E 0)), (2, .ref (ob E 327)), (3, .ref (ob E 339)), (4, .ref (ob E 340)), (5, .int (zI (i : Int)))]) C dL_law_1306  (by decide) rfl ?_
  refine zv_aload_n C 3 dL_law_1308 rfl rfl ?_
  refine zv_aload_n C 1 dL_law_1309 rfl rfl ?_
  refine zv_iload C 6 dL_law_1310 rfl ?_
  refine zv_iconst (v := zI 1) C dL_law_1312 rfl ?_
  refine zv_iaddZ C dL_law_1313 ?_
  refine zv_sld (j := i + 1) (v := (zI v1)) C W.2.2.1 W.2.2.2.1 W.2.2.2.2.1 W.2.2.2.2.2 (zI_ix (by omega)) (by omega) hx1 dL_law_1314 ?_
  refine zv_aload_n C 1 dL_law_1315 rfl rfl ?_
  refine zv_iload C 6 dL_law_1316 rfl ?_
  refine zv_iconst (v := zI 2) C dL_law_1318 rfl ?_
  refine zv_iaddZ C dL_law_1319 ?_
  refine zv_sld (j := i + 2) (v := (zI v2)) C W.2.2.1 W.2.2.2.1 W.2.2.2.2.1 W.2.2.2.2.2 (zI_ix (by omega)) (by omega) hx2 dL_law_1320 ?_
  refine zv_cvi (st := []) C (x2_X11_ranked hfl E τ1303 σ U v1 v2 hR1.2.2.2.1 hR.1.2.2.1 (by first | assumption | omega) (by first | assumption | omega) (by first | assumption | omega)) mX11_ranked kL_246 (by decide : kd 327 = 10) rfl rfl rfl ⟨rfl, rfl⟩ (show zfit (zrm 3 68) 6 room_1 = true from rfl) (Nat.le_of_ble_eq_true rfl) dL_law_1321 ⟨by omega, by omega⟩ (fun r1321 τ1321 hp1321 => ?_)
  obtain ⟨hr2, hK2⟩ := hp1321
  refine zv_eqi (y := zI 0) hr2 ?_
  have hR2 : zRel τ1321 (zDv.mk ni tx ec eo U S hh kp ou) := zRel_m hR1 hK2
  have ht2 : gI τ1321 327 10 = zI 2 := hK2.2
  have hJ2 : gJ τ1321 339 0 = gJ τ1303 339 0 := hK2.1.2.1 339 0 (by decide)
  have hD2 : gD τ1321 340 0 = gD τ1303 340 0 := hK2.1.2.2 340 0
  refine zv_istore (lv' := [(7, .int (zI 0)), (6, .int (zI 2)), (0, .ref b0), (1, .ref (ob E 0)), (2, .ref (ob E 327)), (3, .ref (ob E 339)), (4, .ref (ob E 340)), (5, .int (zI (i : Int)))]) C dL_law_1324  (by decide) rfl ?_
  refine zv_aload_n C 4 dL_law_1326 rfl rfl ?_
  refine zv_cviD (st := []) C (c_X11_thrown hfl E τ1321) mX11_thrown kL_200 (by decide : kd 327 = 10) rfl rfl rfl ⟨rfl, rfl⟩ (show zfit (zrm 0 0) 1 room_1 = true from rfl) (Nat.le_of_ble_eq_true rfl) dL_law_1327 ⟨by omega, by omega⟩ ?_
  refine zv_eqi (y := (zI 2)) (ht2) ?_
  refine zv_iload C 1 dL_law_1330 rfl ?_
  refine zv_icmp_eqZ (tgt := 1337) C (by omega) (by omega) dL_law_1332 (by decide) (fun h1332 => ?_) (fun h1332 => ?_)
  · skip
    refine zv_iload C 1 dL_law_1337 rfl ?_
    refine zv_if_neZ (tgt := 1354) C (by omega) dL_law_1339 (by decide) (fun h1339 => ?_) (fun h1339 => absurd h1339 (by decide))
    refine zv_goto (tgt := 3624) C dL_law_1354 (by decide) ?_
    refine zv_sub (lv' := [(0, .ref b0), (1, .ref (ob E 0)), (2, .ref (ob E 327)), (3, .ref (ob E 339)), (4, .ref (ob E 340)), (5, .int (zI (i : Int)))]) [2, 3, 4, 5, 6, 7] (zcons rfl (zcons rfl (zcons rfl (zcons rfl (zcons rfl (zcons rfl rfl)))))) ?_
    exact kk _ _ _ _ (by omega) (by omega) hR2
  · exfalso
    omega
theorem LK_19 {p : Program} {l : Launch} {e : Env} {s : State} {m : MethodId} {args : Array Value} {below : List Frame} {meth : Method} {c : Code} {E : zE} {Q : State → Prop} {b0 L i ce sl : Nat} {xs : Nat → Int32} {σ : zS} (ni : Nat) (tx : Nat → Int) (ec : Nat) (eo : Int) (U : zSU) (S : zST) (hh : List zST) (kp : Option zST) (ou : List Nat) (hFN : zFN) (W : zLW p l s m args meth c E b0 L xs) (hi : i + 6 ≤ L) (hcs : ce + 1 ≤ room_1.cells ∧ sl + 6 ≤ room_1.slots) (hR : zRel σ (zDv.mk ni tx ec eo U S hh kp ou)) (kk : zNx p l e s m args below meth c E Q b0 i ce sl) : zV p l e room_1 s m args below meth c 9 E Q ce sl σ 1289 (lwL b0 i E) [] := by
  obtain ⟨v1, hx1, hv1⟩ := zI_cov (xs (i + 1))
  obtain ⟨v2, hx2, hv2⟩ := zI_cov (xs (i + 2))
  by_cases g1 : U.s0 ≤ v1 ∧ v1 ≤ U.s0 + 999
  case neg =>
    exact lw_ranked_x1_x1 _ _ _ _ _ _ _ _ _ _ _ W hi hcs hR hx1 hx2 (by first | assumption | omega) (by first | assumption | omega) kk
  by_cases g2 : 0 ≤ v2 ∧ v2 < U.nb
  case neg =>
    have hfi := rk_out (S := S) (y := v1) g2
    exact lw_ranked_x2_x2 _ _ _ _ _ _ _ _ _ _ _ W hi hcs hR hx1 hx2 (by first | assumption | omega) (by first | assumption | omega) (by first | assumption | omega) (by first | assumption | omega) kk
  have hfi := rk_in (S := S) (y := v1) g2
  obtain ⟨n2, rfl⟩ := Int.eq_ofNat_of_zero_le (show 0 ≤ v2 by omega)
  exact lw_ranked_c_c _ _ _ _ _ _ _ _ _ _ _ W hi hcs hR hx1 hx2 (by first | assumption | omega) (by first | assumption | omega) (by first | assumption | omega) (by first | assumption | omega) kk
theorem dL_law_1357 : decode cL_law 1357 = .ok (.aload_n 1, 1) := by decide +kernel
theorem dL_law_1358 : decode cL_law 1358 = .ok (.aload_n 0, 1) := by decide +kernel
theorem dL_law_1359 : decode cL_law 1359 = .ok (.iload 5, 2) := by decide +kernel
theorem dL_law_1361 : decode cL_law 1361 = .ok (.iconst 1, 1) := by decide +kernel
theorem dL_law_1362 : decode cL_law 1362 = .ok (.iadd, 1) := by decide +kernel
theorem dL_law_1363 : decode cL_law 1363 = .ok (.iaload, 1) := by decide +kernel
theorem dL_law_1364 : decode cL_law 1364 = .ok (.aload_n 0, 1) := by decide +kernel
theorem dL_law_1365 : decode cL_law 1365 = .ok (.iload 5, 2) := by decide +kernel
theorem dL_law_1367 : decode cL_law 1367 = .ok (.iconst 2, 1) := by decide +kernel
theorem dL_law_1368 : decode cL_law 1368 = .ok (.iadd, 1) := by decide +kernel
theorem dL_law_1369 : decode cL_law 1369 = .ok (.iaload, 1) := by decide +kernel
theorem dL_law_1370 : decode cL_law 1370 = .ok (.aload_n 3, 1) := by decide +kernel
theorem dL_law_1371 : decode cL_law 1371 = .ok (.invokestatic 247, 3) := by decide +kernel
theorem dL_law_1374 : decode cL_law 1374 = .ok (.istore 6, 2) := by decide +kernel
theorem dL_law_1376 : decode cL_law 1376 = .ok (.aload_n 2, 1) := by decide +kernel
theorem dL_law_1377 : decode cL_law 1377 = .ok (.aload_n 0, 1) := by decide +kernel
theorem dL_law_1378 : decode cL_law 1378 = .ok (.iload 5, 2) := by decide +kernel
theorem dL_law_1380 : decode cL_law 1380 = .ok (.iconst 1, 1) := by decide +kernel
theorem dL_law_1381 : decode cL_law 1381 = .ok (.iadd, 1) := by decide +kernel
theorem dL_law_1382 : decode cL_law 1382 = .ok (.iaload, 1) := by decide +kernel
theorem dL_law_1383 : decode cL_law 1383 = .ok (.aload_n 0, 1) := by decide +kernel
theorem dL_law_1384 : decode cL_law 1384 = .ok (.iload 5, 2) := by decide +kernel
theorem dL_law_1386 : decode cL_law 1386 = .ok (.iconst 2, 1) := by decide +kernel
theorem dL_law_1387 : decode cL_law 1387 = .ok (.iadd, 1) := by decide +kernel
theorem dL_law_1388 : decode cL_law 1388 = .ok (.iaload, 1) := by decide +kernel
theorem dL_law_1389 : decode cL_law 1389 = .ok (.invokevirtual 249, 3) := by decide +kernel
theorem dL_law_1392 : decode cL_law 1392 = .ok (.istore 7, 2) := by decide +kernel
theorem dL_law_1394 : decode cL_law 1394 = .ok (.aload_n 2, 1) := by decide +kernel
theorem dL_law_1395 : decode cL_law 1395 = .ok (.invokevirtual 200, 3) := by decide +kernel
theorem dL_law_1398 : decode cL_law 1398 = .ok (.iload 6, 2) := by decide +kernel
theorem dL_law_1400 : decode cL_law 1400 = .ok (.if_icmp .eq 5, 3) := by decide +kernel
theorem dL_law_1403 : decode cL_law 1403 = .ok (.iconst 0, 1) := by decide +kernel
theorem dL_law_1404 : decode cL_law 1404 = .ok (.ireturn, 1) := by decide +kernel
theorem dL_law_1405 : decode cL_law 1405 = .ok (.iload 6, 2) := by decide +kernel
theorem dL_law_1407 : decode cL_law 1407 = .ok (.ifCond .ne 15, 3) := by decide +kernel
theorem dL_law_1410 : decode cL_law 1410 = .ok (.aload_n 3, 1) := by decide +kernel
theorem dL_law_1411 : decode cL_law 1411 = .ok (.iconst 0, 1) := by decide +kernel
theorem dL_law_1412 : decode cL_law 1412 = .ok (.laload, 1) := by decide +kernel
theorem dL_law_1413 : decode cL_law 1413 = .ok (.iload 7, 2) := by decide +kernel
theorem dL_law_1415 : decode cL_law 1415 = .ok (.i2l, 1) := by decide +kernel
theorem dL_law_1416 : decode cL_law 1416 = .ok (.lcmp, 1) := by decide +kernel
theorem dL_law_1417 : decode cL_law 1417 = .ok (.ifCond .eq 5, 3) := by decide +kernel
theorem dL_law_1420 : decode cL_law 1420 = .ok (.iconst 0, 1) := by decide +kernel
theorem dL_law_1421 : decode cL_law 1421 = .ok (.ireturn, 1) := by decide +kernel
theorem dL_law_1422 : decode cL_law 1422 = .ok (.goto 2202, 3) := by decide +kernel
set_option maxRecDepth 20000 in
theorem lw_firstBeyond_c_c {p : Program} {l : Launch} {e : Env} {s : State} {m : MethodId} {args : Array Value} {below : List Frame} {meth : Method} {c : Code} {E : zE} {Q : State → Prop} {b0 L i ce sl : Nat} {xs : Nat → Int32} {σ : zS} (ni : Nat) (tx : Nat → Int) (ec : Nat) (eo : Int) (U : zSU) (S : zST) (hh : List zST) (kp : Option zST) (ou : List Nat) (n1 : Nat) (v2 : Int) (W : zLW p l s m args meth c E b0 L xs) (hi : i + 6 ≤ L) (hcs : ce + 1 ≤ room_1.cells ∧ sl + 6 ≤ room_1.slots) (hR : zRel σ (zDv.mk ni tx ec eo U S hh kp ou)) (hx1 : xs (i + 1) = (zI (n1 : Int))) (hx2 : xs (i + 2) = (zI v2)) (hi0 : n1 < U.nb) (hl1 : 0 ≤ v2 ∧ v2 ≤ 1000000000)  (kk : zNx p l e s m args below meth c E Q b0 i ce sl) : zV p l e room_1 s m args below meth c 9 E Q ce sl σ 1357 (lwL b0 i E) [] := by
  refine (?_ : zV p l e room_1 s m args below meth c 9 E Q ce sl σ 1357 [(0, .ref b0), (1, .ref (ob E 0)), (2, .ref (ob E 327)), (3, .ref (ob E 339)), (4, .ref (ob E 340)), (5, .int (zI (i : Int)))] [])
  have C := W.2.1
  have hfl := W.1
  have hroom : room_1.cells = 601024 ∧ room_1.slots = 7293034 := ⟨rfl, rfl⟩
  refine zv_aload_n C 1 dL_law_1357 rfl rfl ?_
  refine zv_aload_n C 0 dL_law_1358 rfl rfl ?_
  refine zv_iload C 5 dL_law_1359 rfl ?_
  refine zv_iconst (v := zI 1) C dL_law_1361 rfl ?_
  refine zv_iaddZ C dL_law_1362 ?_
  refine zv_sld (j := i + 1) (v := (zI (n1 : Int))) C W.2.2.1 W.2.2.2.1 W.2.2.2.2.1 W.2.2.2.2.2 (zI_ix (by omega)) (by omega) hx1 dL_law_1363 ?_
  refine zv_aload_n C 0 dL_law_1364 rfl rfl ?_
  refine zv_iload C 5 dL_law_1365 rfl ?_
  refine zv_iconst (v := zI 2) C dL_law_1367 rfl ?_
  refine zv_iaddZ C dL_law_1368 ?_
  refine zv_sld (j := i + 2) (v := (zI v2)) C W.2.2.1 W.2.2.2.1 W.2.2.2.2.1 W.2.2.2.2.2 (zI_ix (by omega)) (by omega) hx2 dL_law_1369 ?_
  refine zv_aload_n C 3 dL_law_1370 rfl rfl ?_
  refine zv_cH (st := []) C (w_c_X10_firstBeyond hfl E σ U S n1 v2 hR.1.2.2.1 hR.1.2.2.2.1.1 (by first | assumption | omega) (by first | assumption | omega)) mL_firstBeyond kL_247 rfl ⟨rfl, rfl⟩ (show zfit (zrm 6 150) 5 room_1 = true from rfl) (Nat.le_of_ble_eq_true rfl) dL_law_1371 ⟨by omega, by omega⟩ (fun r1371 τ1371 hp1371 => ?_)
  obtain ⟨hr0, v9, υ9, hP9, hτ9⟩ := hp1371
  refine zv_eqi (y := zI 0) hr0 ?_
  obtain ⟨hv9, hW9⟩ := hP9
  have hF9 : zFr 318 327 σ υ9 := by first | exact hW9 | (rw [hW9]; exact (by first | exact zFr_refl _ _ _ | exact zFr_rW (zFr_refl _ _ _) (by omega) | exact zFr_rW (zFr_rW (zFr_refl _ _ _) (by omega)) (by omega) | exact qW_f _ _ _ _ | exact qM_f _ _ _ _ _ | exact rW2_f _ _ _ _ _ | exact rW3_f _ _ _ _ _ | exact alW_f _ _ _ _ _ | (split <;> first | exact zFr_refl _ _ _ | exact bW_f _ _ _ _) | assumption))
  have hR1 : zRel τ1371 (zDv.mk ni tx ec eo U S hh kp ou) := by rw [hτ9]; exact zRel_J (zRel_c hR hF9) _
  have ho9 : gJ τ1371 339 0 = v9.toInt64 := by rw [hτ9, gJ_sJ, if_pos ⟨rfl, rfl⟩]
  rw [hv9] at ho9
  refine zv_istore (lv' := [(6, .int (zI 0)), (0, .ref b0), (1, .ref (ob E 0)), (2, .ref (ob E 327)), (3, .ref (ob E 339)), (4, .ref (ob E 340)), (5, .int (zI (i : Int)))]) C dL_law_1374  (by decide) rfl ?_
  refine zv_aload_n C 3 dL_law_1376 rfl rfl ?_
  refine zv_aload_n C 1 dL_law_1377 rfl rfl ?_
  refine zv_iload C 6 dL_law_1378 rfl ?_
  refine zv_iconst (v := zI 1) C dL_law_1380 rfl ?_
  refine zv_iaddZ C dL_law_1381 ?_
  refine zv_sld (j := i + 1) (v := (zI (n1 : Int))) C W.2.2.1 W.2.2.2.1 W.2.2.2.2.1 W.2.2.2.2.2 (zI_ix (by omega)) (by omega) hx1 dL_law_1382 ?_
  refine zv_aload_n C 1 dL_law_1383 rfl rfl ?_
  refine zv_iload C 6 dL_law_1384 rfl ?_
  refine zv_iconst (v := zI 2) C dL_law_1386 rfl ?_
  refine zv_iaddZ C dL_law_1387 ?_
  refine zv_sld (j := i + 2) (v := (zI v2)) C W.2.2.1 W.2.2.2.1 W.2.2.2.2.1 W.2.2.2.2.2 (zI_ix (by omega)) (by omega) hx2 dL_law_1388 ?_
  refine zv_cvi (st := []) C (c_X11_firstBeyond hfl E τ1371 σ U S n1 v2 hR1.2.2.2.1 hR.1.2.2.1 hR1.2.2.2.2.2.1.1 hR.1.2.2.2.1.1 (by first | assumption | omega) (by first | assumption | omega)) mX11_firstBeyond kL_249 (by decide : kd 327 = 10) rfl rfl rfl ⟨rfl, rfl⟩ (show zfit (zrm 2 46) 4 room_1 = true from rfl) (Nat.le_of_ble_eq_true rfl) dL_law_1389 ⟨by omega, by omega⟩ (fun r1389 τ1389 hp1389 => ?_)
  obtain ⟨hr2, hK2⟩ := hp1389
  refine zv_eqi (y := zI (dFbR U S n1 v2)) hr2 ?_
  have hR2 : zRel τ1389 (zDv.mk ni tx ec eo U S hh kp ou) := zRel_m hR1 hK2
  have ht2 : gI τ1389 327 10 = zI 0 := hK2.2
  have hJ2 : gJ τ1389 339 0 = gJ τ1371 339 0 := hK2.1.2.1 339 0 (by decide)
  have hD2 : gD τ1389 340 0 = gD τ1371 340 0 := hK2.1.2.2 340 0
  refine zv_istore (lv' := [(7, .int (zI (dFbR U S n1 v2))), (6, .int (zI 0)), (0, .ref b0), (1, .ref (ob E 0)), (2, .ref (ob E 327)), (3, .ref (ob E 339)), (4, .ref (ob E 340)), (5, .int (zI (i : Int)))]) C dL_law_1392  (by decide) rfl ?_
  refine zv_aload_n C 4 dL_law_1394 rfl rfl ?_
  refine zv_cviD (st := []) C (c_X11_thrown hfl E τ1389) mX11_thrown kL_200 (by decide : kd 327 = 10) rfl rfl rfl ⟨rfl, rfl⟩ (show zfit (zrm 0 0) 1 room_1 = true from rfl) (Nat.le_of_ble_eq_true rfl) dL_law_1395 ⟨by omega, by omega⟩ ?_
  refine zv_eqi (y := (zI 0)) (ht2) ?_
  refine zv_iload C 1 dL_law_1398 rfl ?_
  refine zv_icmp_eqZ (tgt := 1405) C (by omega) (by omega) dL_law_1400 (by decide) (fun h1400 => ?_) (fun h1400 => ?_)
  · skip
    refine zv_iload C 1 dL_law_1405 rfl ?_
    refine zv_if_neZ (tgt := 1422) C (by omega) dL_law_1407 (by decide) (fun h1407 => absurd h1407 (by decide)) (fun h1407 => ?_)
    refine zv_aload_n C 5 dL_law_1410 rfl rfl ?_
    refine zv_iconst (v := zI 0) C dL_law_1411 rfl ?_
    refine zv_lald (j := 0) C (by decide : kd 339 = _) (zI_ix (by omega)) (by decide) dL_law_1412 ?_
    refine zv_eql (y := ((zI (dFbR U S n1 v2)).toInt64)) (hJ2.trans ho9) ?_
    refine zv_iload C 0 dL_law_1413 rfl ?_
    refine zv_i2l C dL_law_1415 ?_
    refine zv_lc_eq (tgt := 1422) C dL_law_1416 dL_law_1417 (by decide) (fun h1416 => ?_) (fun h1416 => ?_)
    · skip
      refine zv_goto (tgt := 3624) C dL_law_1422 (by decide) ?_
      refine zv_sub (lv' := [(0, .ref b0), (1, .ref (ob E 0)), (2, .ref (ob E 327)), (3, .ref (ob E 339)), (4, .ref (ob E 340)), (5, .int (zI (i : Int)))]) [2, 3, 4, 5, 6, 7] (zcons rfl (zcons rfl (zcons rfl (zcons rfl (zcons rfl (zcons rfl rfl)))))) ?_
      exact kk _ _ _ _ (by omega) (by omega) hR2
    · exfalso
      exact h1416 rfl
  · exfalso
    omega
set_option maxRecDepth 20000 in
theorem lw_firstBeyond_x1_x1 {p : Program} {l : Launch} {e : Env} {s : State} {m : MethodId} {args : Array Value} {below : List Frame} {meth : Method} {c : Code} {E : zE} {Q : State → Prop} {b0 L i ce sl : Nat} {xs : Nat → Int32} {σ : zS} (ni : Nat) (tx : Nat → Int) (ec : Nat) (eo : Int) (U : zSU) (S : zST) (hh : List zST) (kp : Option zST) (ou : List Nat) (v1 : Int) (v2 : Int) (W : zLW p l s m args meth c E b0 L xs) (hi : i + 6 ≤ L) (hcs : ce + 1 ≤ room_1.cells ∧ sl + 6 ≤ room_1.slots) (hR : zRel σ (zDv.mk ni tx ec eo U S hh kp ou)) (hx1 : xs (i + 1) = (zI v1)) (hx2 : xs (i + 2) = (zI v2)) (hbi0 : -2147483648 ≤ v1 ∧ v1 < 2147483648) (hno1 : ¬ (0 ≤ v1 ∧ v1 < U.nb))  (kk : zNx p l e s m args below meth c E Q b0 i ce sl) : zV p l e room_1 s m args below meth c 9 E Q ce sl σ 1357 (lwL b0 i E) [] := by
  refine (?_ : zV p l e room_1 s m args below meth c 9 E Q ce sl σ 1357 [(0, .ref b0), (1, .ref (ob E 0)), (2, .ref (ob E 327)), (3, .ref (ob E 339)), (4, .ref (ob E 340)), (5, .int (zI (i : Int)))] [])
  have C := W.2.1
  have hfl := W.1
  have hroom : room_1.cells = 601024 ∧ room_1.slots = 7293034 := ⟨rfl, rfl⟩
  refine zv_aload_n C 1 dL_law_1357 rfl rfl ?_
  refine zv_aload_n C 0 dL_law_1358 rfl rfl ?_
  refine zv_iload C 5 dL_law_1359 rfl ?_
  refine zv_iconst (v := zI 1) C dL_law_1361 rfl ?_
  refine zv_iaddZ C dL_law_1362 ?_
  refine zv_sld (j := i + 1) (v := (zI v1)) C W.2.2.1 W.2.2.2.1 W.2.2.2.2.1 W.2.2.2.2.2 (zI_ix (by omega)) (by omega) hx1 dL_law_1363 ?_
  refine zv_aload_n C 0 dL_law_1364 rfl rfl ?_
  refine zv_iload C 5 dL_law_1365 rfl ?_
  refine zv_iconst (v := zI 2) C dL_law_1367 rfl ?_
  refine zv_iaddZ C dL_law_1368 ?_
  refine zv_sld (j := i + 2) (v := (zI v2)) C W.2.2.1 W.2.2.2.1 W.2.2.2.2.1 W.2.2.2.2.2 (zI_ix (by omega)) (by omega) hx2 dL_law_1369 ?_
  refine zv_aload_n C 3 dL_law_1370 rfl rfl ?_
  refine zv_cH (st := []) C (w_x1_X10_firstBeyond hfl E σ U v1 v2 hR.1.2.2.1 (by first | assumption | omega) (by first | assumption | omega)) mL_firstBeyond kL_247 rfl ⟨rfl, rfl⟩ (show zfit (zrx 10 224) 5 room_1 = true from rfl) (Nat.le_of_ble_eq_true rfl) dL_law_1371 ⟨by exact hcs.1, by exact hcs.2⟩ (fun r1371 τ1371 hp1371 => ?_)
  obtain ⟨hr0, hP9⟩ := hp1371
  refine zv_eqi (y := zI 1) hr0 ?_
  have hF9 : zFr 318 327 σ τ1371 := by rw [hP9]; exact (by first | exact zFr_refl _ _ _ | exact zFr_rW (zFr_refl _ _ _) (by omega) | exact zFr_rW (zFr_rW (zFr_refl _ _ _) (by omega)) (by omega) | exact qW_f _ _ _ _ | exact qM_f _ _ _ _ _ | exact rW2_f _ _ _ _ _ | exact rW3_f _ _ _ _ _ | exact alW_f _ _ _ _ _ | (split <;> first | exact zFr_refl _ _ _ | exact bW_f _ _ _ _) | assumption)
  have hR1 : zRel τ1371 (zDv.mk ni tx ec eo U S hh kp ou) := zRel_c hR hF9
  refine zv_istore (lv' := [(6, .int (zI 1)), (0, .ref b0), (1, .ref (ob E 0)), (2, .ref (ob E 327)), (3, .ref (ob E 339)), (4, .ref (ob E 340)), (5, .int (zI (i : Int)))]) C dL_law_1374  (by decide) rfl ?_
  refine zv_aload_n C 3 dL_law_1376 rfl rfl ?_
  refine zv_aload_n C 1 dL_law_1377 rfl rfl ?_
  refine zv_iload C 6 dL_law_1378 rfl ?_
  refine zv_iconst (v := zI 1) C dL_law_1380 rfl ?_
  refine zv_iaddZ C dL_law_1381 ?_
  refine zv_sld (j := i + 1) (v := (zI v1)) C W.2.2.1 W.2.2.2.1 W.2.2.2.2.1 W.2.2.2.2.2 (zI_ix (by omega)) (by omega) hx1 dL_law_1382 ?_
  refine zv_aload_n C 1 dL_law_1383 rfl rfl ?_
  refine zv_iload C 6 dL_law_1384 rfl ?_
  refine zv_iconst (v := zI 2) C dL_law_1386 rfl ?_
  refine zv_iaddZ C dL_law_1387 ?_
  refine zv_sld (j := i + 2) (v := (zI v2)) C W.2.2.1 W.2.2.2.1 W.2.2.2.2.1 W.2.2.2.2.2 (zI_ix (by omega)) (by omega) hx2 dL_law_1388 ?_
  refine zv_cvi (st := []) C (x1_X11_firstBeyond hfl E τ1371 σ U v1 v2 hR1.2.2.2.1 hR.1.2.2.1 (by first | assumption | omega) (by first | assumption | omega)) mX11_firstBeyond kL_249 (by decide : kd 327 = 10) rfl rfl rfl ⟨rfl, rfl⟩ (show zfit (zrm 2 46) 4 room_1 = true from rfl) (Nat.le_of_ble_eq_true rfl) dL_law_1389 ⟨by omega, by omega⟩ (fun r1389 τ1389 hp1389 => ?_)
  obtain ⟨hr2, hK2⟩ := hp1389
  refine zv_eqi (y := zI 0) hr2 ?_
  have hR2 : zRel τ1389 (zDv.mk ni tx ec eo U S hh kp ou) := zRel_m hR1 hK2
  have ht2 : gI τ1389 327 10 = zI 1 := hK2.2
  have hJ2 : gJ τ1389 339 0 = gJ τ1371 339 0 := hK2.1.2.1 339 0 (by decide)
  have hD2 : gD τ1389 340 0 = gD τ1371 340 0 := hK2.1.2.2 340 0
  refine zv_istore (lv' := [(7, .int (zI 0)), (6, .int (zI 1)), (0, .ref b0), (1, .ref (ob E 0)), (2, .ref (ob E 327)), (3, .ref (ob E 339)), (4, .ref (ob E 340)), (5, .int (zI (i : Int)))]) C dL_law_1392  (by decide) rfl ?_
  refine zv_aload_n C 4 dL_law_1394 rfl rfl ?_
  refine zv_cviD (st := []) C (c_X11_thrown hfl E τ1389) mX11_thrown kL_200 (by decide : kd 327 = 10) rfl rfl rfl ⟨rfl, rfl⟩ (show zfit (zrm 0 0) 1 room_1 = true from rfl) (Nat.le_of_ble_eq_true rfl) dL_law_1395 ⟨by omega, by omega⟩ ?_
  refine zv_eqi (y := (zI 1)) (ht2) ?_
  refine zv_iload C 1 dL_law_1398 rfl ?_
  refine zv_icmp_eqZ (tgt := 1405) C (by omega) (by omega) dL_law_1400 (by decide) (fun h1400 => ?_) (fun h1400 => ?_)
  · skip
    refine zv_iload C 1 dL_law_1405 rfl ?_
    refine zv_if_neZ (tgt := 1422) C (by omega) dL_law_1407 (by decide) (fun h1407 => ?_) (fun h1407 => absurd h1407 (by decide))
    refine zv_goto (tgt := 3624) C dL_law_1422 (by decide) ?_
    refine zv_sub (lv' := [(0, .ref b0), (1, .ref (ob E 0)), (2, .ref (ob E 327)), (3, .ref (ob E 339)), (4, .ref (ob E 340)), (5, .int (zI (i : Int)))]) [2, 3, 4, 5, 6, 7] (zcons rfl (zcons rfl (zcons rfl (zcons rfl (zcons rfl (zcons rfl rfl)))))) ?_
    exact kk _ _ _ _ (by omega) (by omega) hR2
  · exfalso
    omega
set_option maxRecDepth 20000 in
theorem lw_firstBeyond_x2_x2 {p : Program} {l : Launch} {e : Env} {s : State} {m : MethodId} {args : Array Value} {below : List Frame} {meth : Method} {c : Code} {E : zE} {Q : State → Prop} {b0 L i ce sl : Nat} {xs : Nat → Int32} {σ : zS} (ni : Nat) (tx : Nat → Int) (ec : Nat) (eo : Int) (U : zSU) (S : zST) (hh : List zST) (kp : Option zST) (ou : List Nat) (n1 : Nat) (v2 : Int) (W : zLW p l s m args meth c E b0 L xs) (hi : i + 6 ≤ L) (hcs : ce + 1 ≤ room_1.cells ∧ sl + 6 ≤ room_1.slots) (hR : zRel σ (zDv.mk ni tx ec eo U S hh kp ou)) (hx1 : xs (i + 1) = (zI (n1 : Int))) (hx2 : xs (i + 2) = (zI v2)) (hi0 : n1 < U.nb) (hyi1 : -2147483648 ≤ v2 ∧ v2 < 2147483648) (hno2 : ¬ (0 ≤ v2 ∧ v2 ≤ 1000000000))  (kk : zNx p l e s m args below meth c E Q b0 i ce sl) : zV p l e room_1 s m args below meth c 9 E Q ce sl σ 1357 (lwL b0 i E) [] := by
  refine (?_ : zV p l e room_1 s m args below meth c 9 E Q ce sl σ 1357 [(0, .ref b0), (1, .ref (ob E 0)), (2, .ref (ob E 327)), (3, .ref (ob E 339)), (4, .ref (ob E 340)), (5, .int (zI (i : Int)))] [])
  have C := W.2.1
  have hfl := W.1
  have hroom : room_1.cells = 601024 ∧ room_1.slots = 7293034 := ⟨rfl, rfl⟩
  refine zv_aload_n C 1 dL_law_1357 rfl rfl ?_
  refine zv_aload_n C 0 dL_law_1358 rfl rfl ?_
  refine zv_iload C 5 dL_law_1359 rfl ?_
  refine zv_iconst (v := zI 1) C dL_law_1361 rfl ?_
  refine zv_iaddZ C dL_law_1362 ?_
  refine zv_sld (j := i + 1) (v := (zI (n1 : Int))) C W.2.2.1 W.2.2.2.1 W.2.2.2.2.1 W.2.2.2.2.2 (zI_ix (by omega)) (by omega) hx1 dL_law_1363 ?_
  refine zv_aload_n C 0 dL_law_1364 rfl rfl ?_
  refine zv_iload C 5 dL_law_1365 rfl ?_
  refine zv_iconst (v := zI 2) C dL_law_1367 rfl ?_
  refine zv_iaddZ C dL_law_1368 ?_
  refine zv_sld (j := i + 2) (v := (zI v2)) C W.2.2.1 W.2.2.2.1 W.2.2.2.2.1 W.2.2.2.2.2 (zI_ix (by omega)) (by omega) hx2 dL_law_1369 ?_
  refine zv_aload_n C 3 dL_law_1370 rfl rfl ?_
  refine zv_cH (st := []) C (w_x2_X10_firstBeyond hfl E σ U S n1 v2 hR.1.2.2.1 (by first | assumption | omega) (by first | assumption | omega) (by first | assumption | omega)) mL_firstBeyond kL_247 rfl ⟨rfl, rfl⟩ (show zfit (zrx 10 224) 5 room_1 = true from rfl) (Nat.le_of_ble_eq_true rfl) dL_law_1371 ⟨by exact hcs.1, by exact hcs.2⟩ (fun r1371 τ1371 hp1371 => ?_)
  obtain ⟨hr0, hP9⟩ := hp1371
  refine zv_eqi (y := zI 2) hr0 ?_
  have hF9 : zFr 318 327 σ τ1371 := by rw [hP9]; exact (by first | exact zFr_refl _ _ _ | exact zFr_rW (zFr_refl _ _ _) (by omega) | exact zFr_rW (zFr_rW (zFr_refl _ _ _) (by omega)) (by omega) | exact qW_f _ _ _ _ | exact qM_f _ _ _ _ _ | exact rW2_f _ _ _ _ _ | exact rW3_f _ _ _ _ _ | exact alW_f _ _ _ _ _ | (split <;> first | exact zFr_refl _ _ _ | exact bW_f _ _ _ _) | assumption)
  have hR1 : zRel τ1371 (zDv.mk ni tx ec eo U S hh kp ou) := zRel_c hR hF9
  refine zv_istore (lv' := [(6, .int (zI 2)), (0, .ref b0), (1, .ref (ob E 0)), (2, .ref (ob E 327)), (3, .ref (ob E 339)), (4, .ref (ob E 340)), (5, .int (zI (i : Int)))]) C dL_law_1374  (by decide) rfl ?_
  refine zv_aload_n C 3 dL_law_1376 rfl rfl ?_
  refine zv_aload_n C 1 dL_law_1377 rfl rfl ?_
  refine zv_iload C 6 dL_law_1378 rfl ?_
  refine zv_iconst (v := zI 1) C dL_law_1380 rfl ?_
  refine zv_iaddZ C dL_law_1381 ?_
  refine zv_sld (j := i + 1) (v := (zI (n1 : Int))) C W.2.2.1 W.2.2.2.1 W.2.2.2.2.1 W.2.2.2.2.2 (zI_ix (by omega)) (by omega) hx1 dL_law_1382 ?_
  refine zv_aload_n C 1 dL_law_1383 rfl rfl ?_
  refine zv_iload C 6 dL_law_1384 rfl ?_
  refine zv_iconst (v := zI 2) C dL_law_1386 rfl ?_
  refine zv_iaddZ C dL_law_1387 ?_
  refine zv_sld (j := i + 2) (v := (zI v2)) C W.2.2.1 W.2.2.2.1 W.2.2.2.2.1 W.2.2.2.2.2 (zI_ix (by omega)) (by omega) hx2 dL_law_1388 ?_
  refine zv_cvi (st := []) C (x2_X11_firstBeyond hfl E τ1371 σ U n1 v2 hR1.2.2.2.1 hR.1.2.2.1 (by first | assumption | omega) (by first | assumption | omega) (by first | assumption | omega)) mX11_firstBeyond kL_249 (by decide : kd 327 = 10) rfl rfl rfl ⟨rfl, rfl⟩ (show zfit (zrm 2 46) 4 room_1 = true from rfl) (Nat.le_of_ble_eq_true rfl) dL_law_1389 ⟨by omega, by omega⟩ (fun r1389 τ1389 hp1389 => ?_)
  obtain ⟨hr2, hK2⟩ := hp1389
  refine zv_eqi (y := zI 0) hr2 ?_
  have hR2 : zRel τ1389 (zDv.mk ni tx ec eo U S hh kp ou) := zRel_m hR1 hK2
  have ht2 : gI τ1389 327 10 = zI 2 := hK2.2
  have hJ2 : gJ τ1389 339 0 = gJ τ1371 339 0 := hK2.1.2.1 339 0 (by decide)
  have hD2 : gD τ1389 340 0 = gD τ1371 340 0 := hK2.1.2.2 340 0
  refine zv_istore (lv' := [(7, .int (zI 0)), (6, .int (zI 2)), (0, .ref b0), (1, .ref (ob E 0)), (2, .ref (ob E 327)), (3, .ref (ob E 339)), (4, .ref (ob E 340)), (5, .int (zI (i : Int)))]) C dL_law_1392  (by decide) rfl ?_
  refine zv_aload_n C 4 dL_law_1394 rfl rfl ?_
  refine zv_cviD (st := []) C (c_X11_thrown hfl E τ1389) mX11_thrown kL_200 (by decide : kd 327 = 10) rfl rfl rfl ⟨rfl, rfl⟩ (show zfit (zrm 0 0) 1 room_1 = true from rfl) (Nat.le_of_ble_eq_true rfl) dL_law_1395 ⟨by omega, by omega⟩ ?_
  refine zv_eqi (y := (zI 2)) (ht2) ?_
  refine zv_iload C 1 dL_law_1398 rfl ?_
  refine zv_icmp_eqZ (tgt := 1405) C (by omega) (by omega) dL_law_1400 (by decide) (fun h1400 => ?_) (fun h1400 => ?_)
  · skip
    refine zv_iload C 1 dL_law_1405 rfl ?_
    refine zv_if_neZ (tgt := 1422) C (by omega) dL_law_1407 (by decide) (fun h1407 => ?_) (fun h1407 => absurd h1407 (by decide))
    refine zv_goto (tgt := 3624) C dL_law_1422 (by decide) ?_
    refine zv_sub (lv' := [(0, .ref b0), (1, .ref (ob E 0)), (2, .ref (ob E 327)), (3, .ref (ob E 339)), (4, .ref (ob E 340)), (5, .int (zI (i : Int)))]) [2, 3, 4, 5, 6, 7] (zcons rfl (zcons rfl (zcons rfl (zcons rfl (zcons rfl (zcons rfl rfl)))))) ?_
    exact kk _ _ _ _ (by omega) (by omega) hR2
  · exfalso
    omega
theorem LK_20 {p : Program} {l : Launch} {e : Env} {s : State} {m : MethodId} {args : Array Value} {below : List Frame} {meth : Method} {c : Code} {E : zE} {Q : State → Prop} {b0 L i ce sl : Nat} {xs : Nat → Int32} {σ : zS} (ni : Nat) (tx : Nat → Int) (ec : Nat) (eo : Int) (U : zSU) (S : zST) (hh : List zST) (kp : Option zST) (ou : List Nat) (hFN : zFN) (W : zLW p l s m args meth c E b0 L xs) (hi : i + 6 ≤ L) (hcs : ce + 1 ≤ room_1.cells ∧ sl + 6 ≤ room_1.slots) (hR : zRel σ (zDv.mk ni tx ec eo U S hh kp ou)) (kk : zNx p l e s m args below meth c E Q b0 i ce sl) : zV p l e room_1 s m args below meth c 9 E Q ce sl σ 1357 (lwL b0 i E) [] := by
  obtain ⟨v1, hx1, hv1⟩ := zI_cov (xs (i + 1))
  obtain ⟨v2, hx2, hv2⟩ := zI_cov (xs (i + 2))
  by_cases g1 : 0 ≤ v1 ∧ v1 < U.nb
  case neg =>
    exact lw_firstBeyond_x1_x1 _ _ _ _ _ _ _ _ _ _ _ W hi hcs hR hx1 hx2 (by first | assumption | omega) (by first | assumption | omega) kk
  obtain ⟨n1, rfl⟩ := Int.eq_ofNat_of_zero_le (show 0 ≤ v1 by omega)
  by_cases g2 : 0 ≤ v2 ∧ v2 ≤ 1000000000
  case neg =>
    exact lw_firstBeyond_x2_x2 _ _ _ _ _ _ _ _ _ _ _ W hi hcs hR hx1 hx2 (by first | assumption | omega) (by first | assumption | omega) (by first | assumption | omega) kk
  exact lw_firstBeyond_c_c _ _ _ _ _ _ _ _ _ _ _ W hi hcs hR hx1 hx2 (by first | assumption | omega) (by first | assumption | omega) kk
theorem dL_law_1425 : decode cL_law 1425 = .ok (.aload_n 1, 1) := by decide +kernel
theorem dL_law_1426 : decode cL_law 1426 = .ok (.aload_n 0, 1) := by decide +kernel
theorem dL_law_1427 : decode cL_law 1427 = .ok (.iload 5, 2) := by decide +kernel
theorem dL_law_1429 : decode cL_law 1429 = .ok (.iconst 1, 1) := by decide +kernel
theorem dL_law_1430 : decode cL_law 1430 = .ok (.iadd, 1) := by decide +kernel
theorem dL_law_1431 : decode cL_law 1431 = .ok (.iaload, 1) := by decide +kernel
theorem dL_law_1432 : decode cL_law 1432 = .ok (.aload_n 3, 1) := by decide +kernel
theorem dL_law_1433 : decode cL_law 1433 = .ok (.invokestatic 250, 3) := by decide +kernel
theorem dL_law_1436 : decode cL_law 1436 = .ok (.istore 6, 2) := by decide +kernel
theorem dL_law_1438 : decode cL_law 1438 = .ok (.aload_n 2, 1) := by decide +kernel
theorem dL_law_1439 : decode cL_law 1439 = .ok (.aload_n 0, 1) := by decide +kernel
theorem dL_law_1440 : decode cL_law 1440 = .ok (.iload 5, 2) := by decide +kernel
theorem dL_law_1442 : decode cL_law 1442 = .ok (.iconst 1, 1) := by decide +kernel
theorem dL_law_1443 : decode cL_law 1443 = .ok (.iadd, 1) := by decide +kernel
theorem dL_law_1444 : decode cL_law 1444 = .ok (.iaload, 1) := by decide +kernel
theorem dL_law_1445 : decode cL_law 1445 = .ok (.invokevirtual 252, 3) := by decide +kernel
theorem dL_law_1448 : decode cL_law 1448 = .ok (.lstore 7, 2) := by decide +kernel
theorem dL_law_1450 : decode cL_law 1450 = .ok (.aload_n 2, 1) := by decide +kernel
theorem dL_law_1451 : decode cL_law 1451 = .ok (.invokevirtual 200, 3) := by decide +kernel
theorem dL_law_1454 : decode cL_law 1454 = .ok (.iload 6, 2) := by decide +kernel
theorem dL_law_1456 : decode cL_law 1456 = .ok (.if_icmp .eq 5, 3) := by decide +kernel
theorem dL_law_1459 : decode cL_law 1459 = .ok (.iconst 0, 1) := by decide +kernel
theorem dL_law_1460 : decode cL_law 1460 = .ok (.ireturn, 1) := by decide +kernel
theorem dL_law_1461 : decode cL_law 1461 = .ok (.iload 6, 2) := by decide +kernel
theorem dL_law_1463 : decode cL_law 1463 = .ok (.ifCond .ne 14, 3) := by decide +kernel
theorem dL_law_1466 : decode cL_law 1466 = .ok (.aload_n 3, 1) := by decide +kernel
theorem dL_law_1467 : decode cL_law 1467 = .ok (.iconst 0, 1) := by decide +kernel
theorem dL_law_1468 : decode cL_law 1468 = .ok (.laload, 1) := by decide +kernel
theorem dL_law_1469 : decode cL_law 1469 = .ok (.lload 7, 2) := by decide +kernel
theorem dL_law_1471 : decode cL_law 1471 = .ok (.lcmp, 1) := by decide +kernel
theorem dL_law_1472 : decode cL_law 1472 = .ok (.ifCond .eq 5, 3) := by decide +kernel
theorem dL_law_1475 : decode cL_law 1475 = .ok (.iconst 0, 1) := by decide +kernel
theorem dL_law_1476 : decode cL_law 1476 = .ok (.ireturn, 1) := by decide +kernel
theorem dL_law_1477 : decode cL_law 1477 = .ok (.goto 2147, 3) := by decide +kernel
set_option maxRecDepth 20000 in
theorem lw_totalError_c_c {p : Program} {l : Launch} {e : Env} {s : State} {m : MethodId} {args : Array Value} {below : List Frame} {meth : Method} {c : Code} {E : zE} {Q : State → Prop} {b0 L i ce sl : Nat} {xs : Nat → Int32} {σ : zS} (ni : Nat) (tx : Nat → Int) (ec : Nat) (eo : Int) (U : zSU) (S : zST) (hh : List zST) (kp : Option zST) (ou : List Nat) (v1 : Int) (W : zLW p l s m args meth c E b0 L xs) (hi : i + 6 ≤ L) (hcs : ce + 1 ≤ room_1.cells ∧ sl + 6 ≤ room_1.slots) (hR : zRel σ (zDv.mk ni tx ec eo U S hh kp ou)) (hx1 : xs (i + 1) = (zI v1)) (hy0 : U.s0 ≤ v1 ∧ v1 ≤ U.s0 + 999)  (kk : zNx p l e s m args below meth c E Q b0 i ce sl) : zV p l e room_1 s m args below meth c 9 E Q ce sl σ 1425 (lwL b0 i E) [] := by
  refine (?_ : zV p l e room_1 s m args below meth c 9 E Q ce sl σ 1425 [(0, .ref b0), (1, .ref (ob E 0)), (2, .ref (ob E 327)), (3, .ref (ob E 339)), (4, .ref (ob E 340)), (5, .int (zI (i : Int)))] [])
  have C := W.2.1
  have hfl := W.1
  have hroom : room_1.cells = 601024 ∧ room_1.slots = 7293034 := ⟨rfl, rfl⟩
  refine zv_aload_n C 1 dL_law_1425 rfl rfl ?_
  refine zv_aload_n C 0 dL_law_1426 rfl rfl ?_
  refine zv_iload C 5 dL_law_1427 rfl ?_
  refine zv_iconst (v := zI 1) C dL_law_1429 rfl ?_
  refine zv_iaddZ C dL_law_1430 ?_
  refine zv_sld (j := i + 1) (v := (zI v1)) C W.2.2.1 W.2.2.2.1 W.2.2.2.2.1 W.2.2.2.2.2 (zI_ix (by omega)) (by omega) hx1 dL_law_1431 ?_
  refine zv_aload_n C 3 dL_law_1432 rfl rfl ?_
  refine zv_cH (st := []) C (w_c_X10_totalError hfl E σ U S v1 hR.1.2.2.1 hR.1.2.2.2.1.1 (by first | assumption | omega)) mL_totalError kL_250 rfl ⟨rfl, rfl⟩ (show zfit (zrm 7 172) 4 room_1 = true from rfl) (Nat.le_of_ble_eq_true rfl) dL_law_1433 ⟨by omega, by omega⟩ (fun r1433 τ1433 hp1433 => ?_)
  obtain ⟨hr0, v9, υ9, hP9, hτ9⟩ := hp1433
  refine zv_eqi (y := zI 0) hr0 ?_
  obtain ⟨hv9, hW9⟩ := hP9
  have hF9 : zFr 318 327 σ υ9 := by first | exact hW9 | (rw [hW9]; exact (by first | exact zFr_refl _ _ _ | exact zFr_rW (zFr_refl _ _ _) (by omega) | exact zFr_rW (zFr_rW (zFr_refl _ _ _) (by omega)) (by omega) | exact qW_f _ _ _ _ | exact qM_f _ _ _ _ _ | exact rW2_f _ _ _ _ _ | exact rW3_f _ _ _ _ _ | exact alW_f _ _ _ _ _ | (split <;> first | exact zFr_refl _ _ _ | exact bW_f _ _ _ _) | assumption))
  have hR1 : zRel τ1433 (zDv.mk ni tx ec eo U S hh kp ou) := by rw [hτ9]; exact zRel_J (zRel_c hR hF9) _
  have ho9 : gJ τ1433 339 0 = v9 := by rw [hτ9, gJ_sJ, if_pos ⟨rfl, rfl⟩]
  rw [hv9] at ho9
  refine zv_istore (lv' := [(6, .int (zI 0)), (0, .ref b0), (1, .ref (ob E 0)), (2, .ref (ob E 327)), (3, .ref (ob E 339)), (4, .ref (ob E 340)), (5, .int (zI (i : Int)))]) C dL_law_1436  (by decide) rfl ?_
  refine zv_aload_n C 3 dL_law_1438 rfl rfl ?_
  refine zv_aload_n C 1 dL_law_1439 rfl rfl ?_
  refine zv_iload C 6 dL_law_1440 rfl ?_
  refine zv_iconst (v := zI 1) C dL_law_1442 rfl ?_
  refine zv_iaddZ C dL_law_1443 ?_
  refine zv_sld (j := i + 1) (v := (zI v1)) C W.2.2.1 W.2.2.2.1 W.2.2.2.2.1 W.2.2.2.2.2 (zI_ix (by omega)) (by omega) hx1 dL_law_1444 ?_
  refine zv_cvl (st := []) C (c_X11_totalError hfl E τ1433 σ U S v1 hR1.2.2.2.1 hR.1.2.2.1 hR1.2.2.2.2.2.1.1 hR.1.2.2.2.1.1 (by first | assumption | omega)) mX11_totalError kL_252 (by decide : kd 327 = 10) rfl rfl rfl ⟨rfl, rfl⟩ (show zfit (zrm 3 68) 5 room_1 = true from rfl) (Nat.le_of_ble_eq_true rfl) dL_law_1445 ⟨by omega, by omega⟩ (fun r1445 τ1445 hp1445 => ?_)
  obtain ⟨hr2, hK2⟩ := hp1445
  refine zv_eql (y := zL (qSum U S v1 U.nb)) hr2 ?_
  have hR2 : zRel τ1445 (zDv.mk ni tx ec eo U S hh kp ou) := zRel_m hR1 hK2
  have ht2 : gI τ1445 327 10 = zI 0 := hK2.2
  have hJ2 : gJ τ1445 339 0 = gJ τ1433 339 0 := hK2.1.2.1 339 0 (by decide)
  have hD2 : gD τ1445 340 0 = gD τ1433 340 0 := hK2.1.2.2 340 0
  refine zv_lstore (lv' := [(7, .long (zL (qSum U S v1 U.nb))), (6, .int (zI 0)), (0, .ref b0), (1, .ref (ob E 0)), (2, .ref (ob E 327)), (3, .ref (ob E 339)), (4, .ref (ob E 340)), (5, .int (zI (i : Int)))]) C dL_law_1448  (by decide) rfl ?_
  refine zv_aload_n C 4 dL_law_1450 rfl rfl ?_
  refine zv_cviD (st := []) C (c_X11_thrown hfl E τ1445) mX11_thrown kL_200 (by decide : kd 327 = 10) rfl rfl rfl ⟨rfl, rfl⟩ (show zfit (zrm 0 0) 1 room_1 = true from rfl) (Nat.le_of_ble_eq_true rfl) dL_law_1451 ⟨by omega, by omega⟩ ?_
  refine zv_eqi (y := (zI 0)) (ht2) ?_
  refine zv_iload C 1 dL_law_1454 rfl ?_
  refine zv_icmp_eqZ (tgt := 1461) C (by omega) (by omega) dL_law_1456 (by decide) (fun h1456 => ?_) (fun h1456 => ?_)
  · skip
    refine zv_iload C 1 dL_law_1461 rfl ?_
    refine zv_if_neZ (tgt := 1477) C (by omega) dL_law_1463 (by decide) (fun h1463 => absurd h1463 (by decide)) (fun h1463 => ?_)
    refine zv_aload_n C 5 dL_law_1466 rfl rfl ?_
    refine zv_iconst (v := zI 0) C dL_law_1467 rfl ?_
    refine zv_lald (j := 0) C (by decide : kd 339 = _) (zI_ix (by omega)) (by decide) dL_law_1468 ?_
    refine zv_eql (y := (zL (qSum U S v1 U.nb))) (hJ2.trans ho9) ?_
    refine zv_lload C 0 dL_law_1469 rfl ?_
    refine zv_lc_eq (tgt := 1477) C dL_law_1471 dL_law_1472 (by decide) (fun h1471 => ?_) (fun h1471 => ?_)
    · skip
      refine zv_goto (tgt := 3624) C dL_law_1477 (by decide) ?_
      refine zv_sub (lv' := [(0, .ref b0), (1, .ref (ob E 0)), (2, .ref (ob E 327)), (3, .ref (ob E 339)), (4, .ref (ob E 340)), (5, .int (zI (i : Int)))]) [2, 3, 4, 5, 6, 7] (zcons rfl (zcons rfl (zcons rfl (zcons rfl (zcons rfl (zcons rfl rfl)))))) ?_
      exact kk _ _ _ _ (by omega) (by omega) hR2
    · exfalso
      exact h1471 rfl
  · exfalso
    omega
set_option maxRecDepth 20000 in
theorem lw_totalError_x1_x1 {p : Program} {l : Launch} {e : Env} {s : State} {m : MethodId} {args : Array Value} {below : List Frame} {meth : Method} {c : Code} {E : zE} {Q : State → Prop} {b0 L i ce sl : Nat} {xs : Nat → Int32} {σ : zS} (ni : Nat) (tx : Nat → Int) (ec : Nat) (eo : Int) (U : zSU) (S : zST) (hh : List zST) (kp : Option zST) (ou : List Nat) (v1 : Int) (W : zLW p l s m args meth c E b0 L xs) (hi : i + 6 ≤ L) (hcs : ce + 1 ≤ room_1.cells ∧ sl + 6 ≤ room_1.slots) (hR : zRel σ (zDv.mk ni tx ec eo U S hh kp ou)) (hx1 : xs (i + 1) = (zI v1)) (hyi0 : -2147483648 ≤ v1 ∧ v1 < 2147483648) (hno1 : ¬ (U.s0 ≤ v1 ∧ v1 ≤ U.s0 + 999))  (kk : zNx p l e s m args below meth c E Q b0 i ce sl) : zV p l e room_1 s m args below meth c 9 E Q ce sl σ 1425 (lwL b0 i E) [] := by
  refine (?_ : zV p l e room_1 s m args below meth c 9 E Q ce sl σ 1425 [(0, .ref b0), (1, .ref (ob E 0)), (2, .ref (ob E 327)), (3, .ref (ob E 339)), (4, .ref (ob E 340)), (5, .int (zI (i : Int)))] [])
  have C := W.2.1
  have hfl := W.1
  have hroom : room_1.cells = 601024 ∧ room_1.slots = 7293034 := ⟨rfl, rfl⟩
  refine zv_aload_n C 1 dL_law_1425 rfl rfl ?_
  refine zv_aload_n C 0 dL_law_1426 rfl rfl ?_
  refine zv_iload C 5 dL_law_1427 rfl ?_
  refine zv_iconst (v := zI 1) C dL_law_1429 rfl ?_
  refine zv_iaddZ C dL_law_1430 ?_
  refine zv_sld (j := i + 1) (v := (zI v1)) C W.2.2.1 W.2.2.2.1 W.2.2.2.2.1 W.2.2.2.2.2 (zI_ix (by omega)) (by omega) hx1 dL_law_1431 ?_
  refine zv_aload_n C 3 dL_law_1432 rfl rfl ?_
  refine zv_cH (st := []) C (w_x1_X10_totalError hfl E σ U v1 hR.1.2.2.1 (by first | assumption | omega) (by first | assumption | omega)) mL_totalError kL_250 rfl ⟨rfl, rfl⟩ (show zfit (zrx 10 224) 4 room_1 = true from rfl) (Nat.le_of_ble_eq_true rfl) dL_law_1433 ⟨by exact hcs.1, by exact hcs.2⟩ (fun r1433 τ1433 hp1433 => ?_)
  obtain ⟨hr0, hP9⟩ := hp1433
  refine zv_eqi (y := zI 1) hr0 ?_
  have hF9 : zFr 318 327 σ τ1433 := by rw [hP9]; exact (by first | exact zFr_refl _ _ _ | exact zFr_rW (zFr_refl _ _ _) (by omega) | exact zFr_rW (zFr_rW (zFr_refl _ _ _) (by omega)) (by omega) | exact qW_f _ _ _ _ | exact qM_f _ _ _ _ _ | exact rW2_f _ _ _ _ _ | exact rW3_f _ _ _ _ _ | exact alW_f _ _ _ _ _ | (split <;> first | exact zFr_refl _ _ _ | exact bW_f _ _ _ _) | assumption)
  have hR1 : zRel τ1433 (zDv.mk ni tx ec eo U S hh kp ou) := zRel_c hR hF9
  refine zv_istore (lv' := [(6, .int (zI 1)), (0, .ref b0), (1, .ref (ob E 0)), (2, .ref (ob E 327)), (3, .ref (ob E 339)), (4, .ref (ob E 340)), (5, .int (zI (i : Int)))]) C dL_law_1436  (by decide) rfl ?_
  refine zv_aload_n C 3 dL_law_1438 rfl rfl ?_
  refine zv_aload_n C 1 dL_law_1439 rfl rfl ?_
  refine zv_iload C 6 dL_law_1440 rfl ?_
  refine zv_iconst (v := zI 1) C dL_law_1442 rfl ?_
  refine zv_iaddZ C dL_law_1443 ?_
  refine zv_sld (j := i + 1) (v := (zI v1)) C W.2.2.1 W.2.2.2.1 W.2.2.2.2.1 W.2.2.2.2.2 (zI_ix (by omega)) (by omega) hx1 dL_law_1444 ?_
  refine zv_cvl (st := []) C (x1_X11_totalError hfl E τ1433 σ U v1 hR1.2.2.2.1 hR.1.2.2.1 (by first | assumption | omega) (by first | assumption | omega)) mX11_totalError kL_252 (by decide : kd 327 = 10) rfl rfl rfl ⟨rfl, rfl⟩ (show zfit (zrm 3 68) 5 room_1 = true from rfl) (Nat.le_of_ble_eq_true rfl) dL_law_1445 ⟨by omega, by omega⟩ (fun r1445 τ1445 hp1445 => ?_)
  obtain ⟨hr2, hK2⟩ := hp1445
  refine zv_eql (y := zL 0) hr2 ?_
  have hR2 : zRel τ1445 (zDv.mk ni tx ec eo U S hh kp ou) := zRel_m hR1 hK2
  have ht2 : gI τ1445 327 10 = zI 1 := hK2.2
  have hJ2 : gJ τ1445 339 0 = gJ τ1433 339 0 := hK2.1.2.1 339 0 (by decide)
  have hD2 : gD τ1445 340 0 = gD τ1433 340 0 := hK2.1.2.2 340 0
  refine zv_lstore (lv' := [(7, .long (zL 0)), (6, .int (zI 1)), (0, .ref b0), (1, .ref (ob E 0)), (2, .ref (ob E 327)), (3, .ref (ob E 339)), (4, .ref (ob E 340)), (5, .int (zI (i : Int)))]) C dL_law_1448  (by decide) rfl ?_
  refine zv_aload_n C 4 dL_law_1450 rfl rfl ?_
  refine zv_cviD (st := []) C (c_X11_thrown hfl E τ1445) mX11_thrown kL_200 (by decide : kd 327 = 10) rfl rfl rfl ⟨rfl, rfl⟩ (show zfit (zrm 0 0) 1 room_1 = true from rfl) (Nat.le_of_ble_eq_true rfl) dL_law_1451 ⟨by omega, by omega⟩ ?_
  refine zv_eqi (y := (zI 1)) (ht2) ?_
  refine zv_iload C 1 dL_law_1454 rfl ?_
  refine zv_icmp_eqZ (tgt := 1461) C (by omega) (by omega) dL_law_1456 (by decide) (fun h1456 => ?_) (fun h1456 => ?_)
  · skip
    refine zv_iload C 1 dL_law_1461 rfl ?_
    refine zv_if_neZ (tgt := 1477) C (by omega) dL_law_1463 (by decide) (fun h1463 => ?_) (fun h1463 => absurd h1463 (by decide))
    refine zv_goto (tgt := 3624) C dL_law_1477 (by decide) ?_
    refine zv_sub (lv' := [(0, .ref b0), (1, .ref (ob E 0)), (2, .ref (ob E 327)), (3, .ref (ob E 339)), (4, .ref (ob E 340)), (5, .int (zI (i : Int)))]) [2, 3, 4, 5, 6, 7] (zcons rfl (zcons rfl (zcons rfl (zcons rfl (zcons rfl (zcons rfl rfl)))))) ?_
    exact kk _ _ _ _ (by omega) (by omega) hR2
  · exfalso
    omega
theorem LK_21 {p : Program} {l : Launch} {e : Env} {s : State} {m : MethodId} {args : Array Value} {below : List Frame} {meth : Method} {c : Code} {E : zE} {Q : State → Prop} {b0 L i ce sl : Nat} {xs : Nat → Int32} {σ : zS} (ni : Nat) (tx : Nat → Int) (ec : Nat) (eo : Int) (U : zSU) (S : zST) (hh : List zST) (kp : Option zST) (ou : List Nat) (hFN : zFN) (W : zLW p l s m args meth c E b0 L xs) (hi : i + 6 ≤ L) (hcs : ce + 1 ≤ room_1.cells ∧ sl + 6 ≤ room_1.slots) (hR : zRel σ (zDv.mk ni tx ec eo U S hh kp ou)) (kk : zNx p l e s m args below meth c E Q b0 i ce sl) : zV p l e room_1 s m args below meth c 9 E Q ce sl σ 1425 (lwL b0 i E) [] := by
  obtain ⟨v1, hx1, hv1⟩ := zI_cov (xs (i + 1))
  by_cases g1 : U.s0 ≤ v1 ∧ v1 ≤ U.s0 + 999
  case neg =>
    exact lw_totalError_x1_x1 _ _ _ _ _ _ _ _ _ _ W hi hcs hR hx1 (by first | assumption | omega) (by first | assumption | omega) kk
  exact lw_totalError_c_c _ _ _ _ _ _ _ _ _ _ W hi hcs hR hx1 (by first | assumption | omega) kk
theorem dL_law_1480 : decode cL_law 1480 = .ok (.aload_n 1, 1) := by decide +kernel
theorem dL_law_1481 : decode cL_law 1481 = .ok (.aload_n 0, 1) := by decide +kernel
theorem dL_law_1482 : decode cL_law 1482 = .ok (.iload 5, 2) := by decide +kernel
theorem dL_law_1484 : decode cL_law 1484 = .ok (.iconst 1, 1) := by decide +kernel
theorem dL_law_1485 : decode cL_law 1485 = .ok (.iadd, 1) := by decide +kernel
theorem dL_law_1486 : decode cL_law 1486 = .ok (.iaload, 1) := by decide +kernel
theorem dL_law_1487 : decode cL_law 1487 = .ok (.aload_n 0, 1) := by decide +kernel
theorem dL_law_1488 : decode cL_law 1488 = .ok (.iload 5, 2) := by decide +kernel
theorem dL_law_1490 : decode cL_law 1490 = .ok (.iconst 2, 1) := by decide +kernel
theorem dL_law_1491 : decode cL_law 1491 = .ok (.iadd, 1) := by decide +kernel
theorem dL_law_1492 : decode cL_law 1492 = .ok (.iaload, 1) := by decide +kernel
theorem dL_law_1493 : decode cL_law 1493 = .ok (.aload_n 0, 1) := by decide +kernel
theorem dL_law_1494 : decode cL_law 1494 = .ok (.iload 5, 2) := by decide +kernel
theorem dL_law_1496 : decode cL_law 1496 = .ok (.iconst 3, 1) := by decide +kernel
theorem dL_law_1497 : decode cL_law 1497 = .ok (.iadd, 1) := by decide +kernel
theorem dL_law_1498 : decode cL_law 1498 = .ok (.iaload, 1) := by decide +kernel
theorem dL_law_1499 : decode cL_law 1499 = .ok (.aload_n 3, 1) := by decide +kernel
theorem dL_law_1500 : decode cL_law 1500 = .ok (.invokestatic 253, 3) := by decide +kernel
theorem dL_law_1503 : decode cL_law 1503 = .ok (.istore 6, 2) := by decide +kernel
theorem dL_law_1505 : decode cL_law 1505 = .ok (.aload_n 2, 1) := by decide +kernel
theorem dL_law_1506 : decode cL_law 1506 = .ok (.aload_n 0, 1) := by decide +kernel
theorem dL_law_1507 : decode cL_law 1507 = .ok (.iload 5, 2) := by decide +kernel
theorem dL_law_1509 : decode cL_law 1509 = .ok (.iconst 1, 1) := by decide +kernel
theorem dL_law_1510 : decode cL_law 1510 = .ok (.iadd, 1) := by decide +kernel
theorem dL_law_1511 : decode cL_law 1511 = .ok (.iaload, 1) := by decide +kernel
theorem dL_law_1512 : decode cL_law 1512 = .ok (.aload_n 0, 1) := by decide +kernel
theorem dL_law_1513 : decode cL_law 1513 = .ok (.iload 5, 2) := by decide +kernel
theorem dL_law_1515 : decode cL_law 1515 = .ok (.iconst 2, 1) := by decide +kernel
theorem dL_law_1516 : decode cL_law 1516 = .ok (.iadd, 1) := by decide +kernel
theorem dL_law_1517 : decode cL_law 1517 = .ok (.iaload, 1) := by decide +kernel
theorem dL_law_1518 : decode cL_law 1518 = .ok (.aload_n 0, 1) := by decide +kernel
theorem dL_law_1519 : decode cL_law 1519 = .ok (.iload 5, 2) := by decide +kernel
theorem dL_law_1521 : decode cL_law 1521 = .ok (.iconst 3, 1) := by decide +kernel
theorem dL_law_1522 : decode cL_law 1522 = .ok (.iadd, 1) := by decide +kernel
theorem dL_law_1523 : decode cL_law 1523 = .ok (.iaload, 1) := by decide +kernel
theorem dL_law_1524 : decode cL_law 1524 = .ok (.invokevirtual 255, 3) := by decide +kernel
theorem dL_law_1527 : decode cL_law 1527 = .ok (.lstore 7, 2) := by decide +kernel
theorem dL_law_1529 : decode cL_law 1529 = .ok (.aload_n 2, 1) := by decide +kernel
theorem dL_law_1530 : decode cL_law 1530 = .ok (.invokevirtual 200, 3) := by decide +kernel
theorem dL_law_1533 : decode cL_law 1533 = .ok (.iload 6, 2) := by decide +kernel
theorem dL_law_1535 : decode cL_law 1535 = .ok (.if_icmp .eq 5, 3) := by decide +kernel
theorem dL_law_1538 : decode cL_law 1538 = .ok (.iconst 0, 1) := by decide +kernel
theorem dL_law_1539 : decode cL_law 1539 = .ok (.ireturn, 1) := by decide +kernel
theorem dL_law_1540 : decode cL_law 1540 = .ok (.iload 6, 2) := by decide +kernel
theorem dL_law_1542 : decode cL_law 1542 = .ok (.ifCond .ne 14, 3) := by decide +kernel
theorem dL_law_1545 : decode cL_law 1545 = .ok (.aload_n 3, 1) := by decide +kernel
theorem dL_law_1546 : decode cL_law 1546 = .ok (.iconst 0, 1) := by decide +kernel
theorem dL_law_1547 : decode cL_law 1547 = .ok (.laload, 1) := by decide +kernel
theorem dL_law_1548 : decode cL_law 1548 = .ok (.lload 7, 2) := by decide +kernel
theorem dL_law_1550 : decode cL_law 1550 = .ok (.lcmp, 1) := by decide +kernel
theorem dL_law_1551 : decode cL_law 1551 = .ok (.ifCond .eq 5, 3) := by decide +kernel
theorem dL_law_1554 : decode cL_law 1554 = .ok (.iconst 0, 1) := by decide +kernel
theorem dL_law_1555 : decode cL_law 1555 = .ok (.ireturn, 1) := by decide +kernel
theorem dL_law_1556 : decode cL_law 1556 = .ok (.goto 2068, 3) := by decide +kernel
set_option maxRecDepth 20000 in
theorem lw_growth_c_c {p : Program} {l : Launch} {e : Env} {s : State} {m : MethodId} {args : Array Value} {below : List Frame} {meth : Method} {c : Code} {E : zE} {Q : State → Prop} {b0 L i ce sl : Nat} {xs : Nat → Int32} {σ : zS} (ni : Nat) (tx : Nat → Int) (ec : Nat) (eo : Int) (U : zSU) (S : zST) (hh : List zST) (kp : Option zST) (ou : List Nat) (n1 : Nat) (v2 : Int) (v3 : Int) (W : zLW p l s m args meth c E b0 L xs) (hi : i + 6 ≤ L) (hcs : ce + 1 ≤ room_1.cells ∧ sl + 6 ≤ room_1.slots) (hR : zRel σ (zDv.mk ni tx ec eo U S hh kp ou)) (hx1 : xs (i + 1) = (zI (n1 : Int))) (hx2 : xs (i + 2) = (zI v2)) (hx3 : xs (i + 3) = (zI v3)) (hi0 : n1 < U.nb) (ha1 : U.s0 ≤ v2 ∧ v2 ≤ U.s0 + 999) (hb2 : U.s0 ≤ v3 ∧ v3 ≤ U.s0 + 999) (hlt3 : v2 < v3)  (kk : zNx p l e s m args below meth c E Q b0 i ce sl) : zV p l e room_1 s m args below meth c 9 E Q ce sl σ 1480 (lwL b0 i E) [] := by
  refine (?_ : zV p l e room_1 s m args below meth c 9 E Q ce sl σ 1480 [(0, .ref b0), (1, .ref (ob E 0)), (2, .ref (ob E 327)), (3, .ref (ob E 339)), (4, .ref (ob E 340)), (5, .int (zI (i : Int)))] [])
  have C := W.2.1
  have hfl := W.1
  have hroom : room_1.cells = 601024 ∧ room_1.slots = 7293034 := ⟨rfl, rfl⟩
  refine zv_aload_n C 1 dL_law_1480 rfl rfl ?_
  refine zv_aload_n C 0 dL_law_1481 rfl rfl ?_
  refine zv_iload C 5 dL_law_1482 rfl ?_
  refine zv_iconst (v := zI 1) C dL_law_1484 rfl ?_
  refine zv_iaddZ C dL_law_1485 ?_
  refine zv_sld (j := i + 1) (v := (zI (n1 : Int))) C W.2.2.1 W.2.2.2.1 W.2.2.2.2.1 W.2.2.2.2.2 (zI_ix (by omega)) (by omega) hx1 dL_law_1486 ?_
  refine zv_aload_n C 0 dL_law_1487 rfl rfl ?_
  refine zv_iload C 5 dL_law_1488 rfl ?_
  refine zv_iconst (v := zI 2) C dL_law_1490 rfl ?_
  refine zv_iaddZ C dL_law_1491 ?_
  refine zv_sld (j := i + 2) (v := (zI v2)) C W.2.2.1 W.2.2.2.1 W.2.2.2.2.1 W.2.2.2.2.2 (zI_ix (by omega)) (by omega) hx2 dL_law_1492 ?_
  refine zv_aload_n C 0 dL_law_1493 rfl rfl ?_
  refine zv_iload C 5 dL_law_1494 rfl ?_
  refine zv_iconst (v := zI 3) C dL_law_1496 rfl ?_
  refine zv_iaddZ C dL_law_1497 ?_
  refine zv_sld (j := i + 3) (v := (zI v3)) C W.2.2.1 W.2.2.2.1 W.2.2.2.2.1 W.2.2.2.2.2 (zI_ix (by omega)) (by omega) hx3 dL_law_1498 ?_
  refine zv_aload_n C 3 dL_law_1499 rfl rfl ?_
  refine zv_cH (st := []) C (w_c_X10_growth hfl E σ U S n1 v2 v3 hR.1.2.2.1 hR.1.2.2.2.1.1 (by first | assumption | omega) (by first | assumption | omega) (by first | assumption | omega) (by first | assumption | omega)) mL_growth kL_253 rfl ⟨rfl, rfl⟩ (show zfit (zrm 6 157) 6 room_1 = true from rfl) (Nat.le_of_ble_eq_true rfl) dL_law_1500 ⟨by omega, by omega⟩ (fun r1500 τ1500 hp1500 => ?_)
  obtain ⟨hr0, v9, υ9, hP9, hτ9⟩ := hp1500
  refine zv_eqi (y := zI 0) hr0 ?_
  obtain ⟨hv9, hW9⟩ := hP9
  have hF9 : zFr 318 327 σ υ9 := by first | exact hW9 | (rw [hW9]; exact (by first | exact zFr_refl _ _ _ | exact zFr_rW (zFr_refl _ _ _) (by omega) | exact zFr_rW (zFr_rW (zFr_refl _ _ _) (by omega)) (by omega) | exact qW_f _ _ _ _ | exact qM_f _ _ _ _ _ | exact rW2_f _ _ _ _ _ | exact rW3_f _ _ _ _ _ | exact alW_f _ _ _ _ _ | (split <;> first | exact zFr_refl _ _ _ | exact bW_f _ _ _ _) | assumption))
  have hR1 : zRel τ1500 (zDv.mk ni tx ec eo U S hh kp ou) := by rw [hτ9]; exact zRel_J (zRel_c hR hF9) _
  have ho9 : gJ τ1500 339 0 = v9 := by rw [hτ9, gJ_sJ, if_pos ⟨rfl, rfl⟩]
  rw [hv9] at ho9
  refine zv_istore (lv' := [(6, .int (zI 0)), (0, .ref b0), (1, .ref (ob E 0)), (2, .ref (ob E 327)), (3, .ref (ob E 339)), (4, .ref (ob E 340)), (5, .int (zI (i : Int)))]) C dL_law_1503  (by decide) rfl ?_
  refine zv_aload_n C 3 dL_law_1505 rfl rfl ?_
  refine zv_aload_n C 1 dL_law_1506 rfl rfl ?_
  refine zv_iload C 6 dL_law_1507 rfl ?_
  refine zv_iconst (v := zI 1) C dL_law_1509 rfl ?_
  refine zv_iaddZ C dL_law_1510 ?_
  refine zv_sld (j := i + 1) (v := (zI (n1 : Int))) C W.2.2.1 W.2.2.2.1 W.2.2.2.2.1 W.2.2.2.2.2 (zI_ix (by omega)) (by omega) hx1 dL_law_1511 ?_
  refine zv_aload_n C 1 dL_law_1512 rfl rfl ?_
  refine zv_iload C 6 dL_law_1513 rfl ?_
  refine zv_iconst (v := zI 2) C dL_law_1515 rfl ?_
  refine zv_iaddZ C dL_law_1516 ?_
  refine zv_sld (j := i + 2) (v := (zI v2)) C W.2.2.1 W.2.2.2.1 W.2.2.2.2.1 W.2.2.2.2.2 (zI_ix (by omega)) (by omega) hx2 dL_law_1517 ?_
  refine zv_aload_n C 1 dL_law_1518 rfl rfl ?_
  refine zv_iload C 6 dL_law_1519 rfl ?_
  refine zv_iconst (v := zI 3) C dL_law_1521 rfl ?_
  refine zv_iaddZ C dL_law_1522 ?_
  refine zv_sld (j := i + 3) (v := (zI v3)) C W.2.2.1 W.2.2.2.1 W.2.2.2.2.1 W.2.2.2.2.2 (zI_ix (by omega)) (by omega) hx3 dL_law_1523 ?_
  refine zv_cvl (st := []) C (c_X11_growth hfl E τ1500 σ U S n1 v2 v3 hR1.2.2.2.1 hR.1.2.2.1 hR1.2.2.2.2.2.1.1 hR.1.2.2.2.1.1 (by first | assumption | omega) (by first | assumption | omega) (by first | assumption | omega) (by first | assumption | omega)) mX11_growth kL_255 (by decide : kd 327 = 10) rfl rfl rfl ⟨rfl, rfl⟩ (show zfit (zrm 2 46) 7 room_1 = true from rfl) (Nat.le_of_ble_eq_true rfl) dL_law_1524 ⟨by omega, by omega⟩ (fun r1524 τ1524 hp1524 => ?_)
  obtain ⟨hr2, hK2⟩ := hp1524
  refine zv_eql (y := zL (dGr U S n1 v2 (v3 - v2).toNat)) hr2 ?_
  have hR2 : zRel τ1524 (zDv.mk ni tx ec eo U S hh kp ou) := zRel_m hR1 hK2
  have ht2 : gI τ1524 327 10 = zI 0 := hK2.2
  have hJ2 : gJ τ1524 339 0 = gJ τ1500 339 0 := hK2.1.2.1 339 0 (by decide)
  have hD2 : gD τ1524 340 0 = gD τ1500 340 0 := hK2.1.2.2 340 0
  refine zv_lstore (lv' := [(7, .long (zL (dGr U S n1 v2 (v3 - v2).toNat))), (6, .int (zI 0)), (0, .ref b0), (1, .ref (ob E 0)), (2, .ref (ob E 327)), (3, .ref (ob E 339)), (4, .ref (ob E 340)), (5, .int (zI (i : Int)))]) C dL_law_1527  (by decide) rfl ?_
  refine zv_aload_n C 4 dL_law_1529 rfl rfl ?_
  refine zv_cviD (st := []) C (c_X11_thrown hfl E τ1524) mX11_thrown kL_200 (by decide : kd 327 = 10) rfl rfl rfl ⟨rfl, rfl⟩ (show zfit (zrm 0 0) 1 room_1 = true from rfl) (Nat.le_of_ble_eq_true rfl) dL_law_1530 ⟨by omega, by omega⟩ ?_
  refine zv_eqi (y := (zI 0)) (ht2) ?_
  refine zv_iload C 1 dL_law_1533 rfl ?_
  refine zv_icmp_eqZ (tgt := 1540) C (by omega) (by omega) dL_law_1535 (by decide) (fun h1535 => ?_) (fun h1535 => ?_)
  · skip
    refine zv_iload C 1 dL_law_1540 rfl ?_
    refine zv_if_neZ (tgt := 1556) C (by omega) dL_law_1542 (by decide) (fun h1542 => absurd h1542 (by decide)) (fun h1542 => ?_)
    refine zv_aload_n C 5 dL_law_1545 rfl rfl ?_
    refine zv_iconst (v := zI 0) C dL_law_1546 rfl ?_
    refine zv_lald (j := 0) C (by decide : kd 339 = _) (zI_ix (by omega)) (by decide) dL_law_1547 ?_
    refine zv_eql (y := (zL (dGr U S n1 v2 (v3 - v2).toNat))) (hJ2.trans ho9) ?_
    refine zv_lload C 0 dL_law_1548 rfl ?_
    refine zv_lc_eq (tgt := 1556) C dL_law_1550 dL_law_1551 (by decide) (fun h1550 => ?_) (fun h1550 => ?_)
    · skip
      refine zv_goto (tgt := 3624) C dL_law_1556 (by decide) ?_
      refine zv_sub (lv' := [(0, .ref b0), (1, .ref (ob E 0)), (2, .ref (ob E 327)), (3, .ref (ob E 339)), (4, .ref (ob E 340)), (5, .int (zI (i : Int)))]) [2, 3, 4, 5, 6, 7] (zcons rfl (zcons rfl (zcons rfl (zcons rfl (zcons rfl (zcons rfl rfl)))))) ?_
      exact kk _ _ _ _ (by omega) (by omega) hR2
    · exfalso
      exact h1550 rfl
  · exfalso
    omega
set_option maxRecDepth 20000 in
theorem lw_growth_x1_x1 {p : Program} {l : Launch} {e : Env} {s : State} {m : MethodId} {args : Array Value} {below : List Frame} {meth : Method} {c : Code} {E : zE} {Q : State → Prop} {b0 L i ce sl : Nat} {xs : Nat → Int32} {σ : zS} (ni : Nat) (tx : Nat → Int) (ec : Nat) (eo : Int) (U : zSU) (S : zST) (hh : List zST) (kp : Option zST) (ou : List Nat) (v1 : Int) (v2 : Int) (v3 : Int) (W : zLW p l s m args meth c E b0 L xs) (hi : i + 6 ≤ L) (hcs : ce + 1 ≤ room_1.cells ∧ sl + 6 ≤ room_1.slots) (hR : zRel σ (zDv.mk ni tx ec eo U S hh kp ou)) (hx1 : xs (i + 1) = (zI v1)) (hx2 : xs (i + 2) = (zI v2)) (hx3 : xs (i + 3) = (zI v3)) (hbi0 : -2147483648 ≤ v1 ∧ v1 < 2147483648) (hno1 : ¬ (0 ≤ v1 ∧ v1 < U.nb))  (kk : zNx p l e s m args below meth c E Q b0 i ce sl) : zV p l e room_1 s m args below meth c 9 E Q ce sl σ 1480 (lwL b0 i E) [] := by
  refine (?_ : zV p l e room_1 s m args below meth c 9 E Q ce sl σ 1480 [(0, .ref b0), (1, .ref (ob E 0)), (2, .ref (ob E 327)), (3, .ref (ob E 339)), (4, .ref (ob E 340)), (5, .int (zI (i : Int)))] [])
  have C := W.2.1
  have hfl := W.1
  have hroom : room_1.cells = 601024 ∧ room_1.slots = 7293034 := ⟨rfl, rfl⟩
  refine zv_aload_n C 1 dL_law_1480 rfl rfl ?_
  refine zv_aload_n C 0 dL_law_1481 rfl rfl ?_
  refine zv_iload C 5 dL_law_1482 rfl ?_
  refine zv_iconst (v := zI 1) C dL_law_1484 rfl ?_
  refine zv_iaddZ C dL_law_1485 ?_
  refine zv_sld (j := i + 1) (v := (zI v1)) C W.2.2.1 W.2.2.2.1 W.2.2.2.2.1 W.2.2.2.2.2 (zI_ix (by omega)) (by omega) hx1 dL_law_1486 ?_
  refine zv_aload_n C 0 dL_law_1487 rfl rfl ?_
  refine zv_iload C 5 dL_law_1488 rfl ?_
  refine zv_iconst (v := zI 2) C dL_law_1490 rfl ?_
  refine zv_iaddZ C dL_law_1491 ?_
  refine zv_sld (j := i + 2) (v := (zI v2)) C W.2.2.1 W.2.2.2.1 W.2.2.2.2.1 W.2.2.2.2.2 (zI_ix (by omega)) (by omega) hx2 dL_law_1492 ?_
  refine zv_aload_n C 0 dL_law_1493 rfl rfl ?_
  refine zv_iload C 5 dL_law_1494 rfl ?_
  refine zv_iconst (v := zI 3) C dL_law_1496 rfl ?_
  refine zv_iaddZ C dL_law_1497 ?_
  refine zv_sld (j := i + 3) (v := (zI v3)) C W.2.2.1 W.2.2.2.1 W.2.2.2.2.1 W.2.2.2.2.2 (zI_ix (by omega)) (by omega) hx3 dL_law_1498 ?_
  refine zv_aload_n C 3 dL_law_1499 rfl rfl ?_
  refine zv_cH (st := []) C (w_x1_X10_growth hfl E σ U v1 v2 v3 hR.1.2.2.1 (by first | assumption | omega) (by first | assumption | omega)) mL_growth kL_253 rfl ⟨rfl, rfl⟩ (show zfit (zrx 12 291) 6 room_1 = true from rfl) (Nat.le_of_ble_eq_true rfl) dL_law_1500 ⟨by exact hcs.1, by exact hcs.2⟩ (fun r1500 τ1500 hp1500 => ?_)
  obtain ⟨hr0, hP9⟩ := hp1500
  refine zv_eqi (y := zI 1) hr0 ?_
  have hF9 : zFr 318 327 σ τ1500 := by rw [hP9]; exact (by first | exact zFr_refl _ _ _ | exact zFr_rW (zFr_refl _ _ _) (by omega) | exact zFr_rW (zFr_rW (zFr_refl _ _ _) (by omega)) (by omega) | exact qW_f _ _ _ _ | exact qM_f _ _ _ _ _ | exact rW2_f _ _ _ _ _ | exact rW3_f _ _ _ _ _ | exact alW_f _ _ _ _ _ | (split <;> first | exact zFr_refl _ _ _ | exact bW_f _ _ _ _) | assumption)
  have hR1 : zRel τ1500 (zDv.mk ni tx ec eo U S hh kp ou) := zRel_c hR hF9
  refine zv_istore (lv' := [(6, .int (zI 1)), (0, .ref b0), (1, .ref (ob E 0)), (2, .ref (ob E 327)), (3, .ref (ob E 339)), (4, .ref (ob E 340)), (5, .int (zI (i : Int)))]) C dL_law_1503  (by decide) rfl ?_
  refine zv_aload_n C 3 dL_law_1505 rfl rfl ?_
  refine zv_aload_n C 1 dL_law_1506 rfl rfl ?_
  refine zv_iload C 6 dL_law_1507 rfl ?_
  refine zv_iconst (v := zI 1) C dL_law_1509 rfl ?_
  refine zv_iaddZ C dL_law_1510 ?_
  refine zv_sld (j := i + 1) (v := (zI v1)) C W.2.2.1 W.2.2.2.1 W.2.2.2.2.1 W.2.2.2.2.2 (zI_ix (by omega)) (by omega) hx1 dL_law_1511 ?_
  refine zv_aload_n C 1 dL_law_1512 rfl rfl ?_
  refine zv_iload C 6 dL_law_1513 rfl ?_
  refine zv_iconst (v := zI 2) C dL_law_1515 rfl ?_
  refine zv_iaddZ C dL_law_1516 ?_
  refine zv_sld (j := i + 2) (v := (zI v2)) C W.2.2.1 W.2.2.2.1 W.2.2.2.2.1 W.2.2.2.2.2 (zI_ix (by omega)) (by omega) hx2 dL_law_1517 ?_
  refine zv_aload_n C 1 dL_law_1518 rfl rfl ?_
  refine zv_iload C 6 dL_law_1519 rfl ?_
  refine zv_iconst (v := zI 3) C dL_law_1521 rfl ?_
  refine zv_iaddZ C dL_law_1522 ?_
  refine zv_sld (j := i + 3) (v := (zI v3)) C W.2.2.1 W.2.2.2.1 W.2.2.2.2.1 W.2.2.2.2.2 (zI_ix (by omega)) (by omega) hx3 dL_law_1523 ?_
  refine zv_cvl (st := []) C (x1_X11_growth hfl E τ1500 σ U v1 v2 v3 hR1.2.2.2.1 hR.1.2.2.1 (by first | assumption | omega) (by first | assumption | omega)) mX11_growth kL_255 (by decide : kd 327 = 10) rfl rfl rfl ⟨rfl, rfl⟩ (show zfit (zrm 2 46) 7 room_1 = true from rfl) (Nat.le_of_ble_eq_true rfl) dL_law_1524 ⟨by omega, by omega⟩ (fun r1524 τ1524 hp1524 => ?_)
  obtain ⟨hr2, hK2⟩ := hp1524
  refine zv_eql (y := zL 0) hr2 ?_
  have hR2 : zRel τ1524 (zDv.mk ni tx ec eo U S hh kp ou) := zRel_m hR1 hK2
  have ht2 : gI τ1524 327 10 = zI 1 := hK2.2
  have hJ2 : gJ τ1524 339 0 = gJ τ1500 339 0 := hK2.1.2.1 339 0 (by decide)
  have hD2 : gD τ1524 340 0 = gD τ1500 340 0 := hK2.1.2.2 340 0
  refine zv_lstore (lv' := [(7, .long (zL 0)), (6, .int (zI 1)), (0, .ref b0), (1, .ref (ob E 0)), (2, .ref (ob E 327)), (3, .ref (ob E 339)), (4, .ref (ob E 340)), (5, .int (zI (i : Int)))]) C dL_law_1527  (by decide) rfl ?_
  refine zv_aload_n C 4 dL_law_1529 rfl rfl ?_
  refine zv_cviD (st := []) C (c_X11_thrown hfl E τ1524) mX11_thrown kL_200 (by decide : kd 327 = 10) rfl rfl rfl ⟨rfl, rfl⟩ (show zfit (zrm 0 0) 1 room_1 = true from rfl) (Nat.le_of_ble_eq_true rfl) dL_law_1530 ⟨by omega, by omega⟩ ?_
  refine zv_eqi (y := (zI 1)) (ht2) ?_
  refine zv_iload C 1 dL_law_1533 rfl ?_
  refine zv_icmp_eqZ (tgt := 1540) C (by omega) (by omega) dL_law_1535 (by decide) (fun h1535 => ?_) (fun h1535 => ?_)
  · skip
    refine zv_iload C 1 dL_law_1540 rfl ?_
    refine zv_if_neZ (tgt := 1556) C (by omega) dL_law_1542 (by decide) (fun h1542 => ?_) (fun h1542 => absurd h1542 (by decide))
    refine zv_goto (tgt := 3624) C dL_law_1556 (by decide) ?_
    refine zv_sub (lv' := [(0, .ref b0), (1, .ref (ob E 0)), (2, .ref (ob E 327)), (3, .ref (ob E 339)), (4, .ref (ob E 340)), (5, .int (zI (i : Int)))]) [2, 3, 4, 5, 6, 7] (zcons rfl (zcons rfl (zcons rfl (zcons rfl (zcons rfl (zcons rfl rfl)))))) ?_
    exact kk _ _ _ _ (by omega) (by omega) hR2
  · exfalso
    omega
set_option maxRecDepth 20000 in
theorem lw_growth_x2_x2 {p : Program} {l : Launch} {e : Env} {s : State} {m : MethodId} {args : Array Value} {below : List Frame} {meth : Method} {c : Code} {E : zE} {Q : State → Prop} {b0 L i ce sl : Nat} {xs : Nat → Int32} {σ : zS} (ni : Nat) (tx : Nat → Int) (ec : Nat) (eo : Int) (U : zSU) (S : zST) (hh : List zST) (kp : Option zST) (ou : List Nat) (n1 : Nat) (v2 : Int) (v3 : Int) (W : zLW p l s m args meth c E b0 L xs) (hi : i + 6 ≤ L) (hcs : ce + 1 ≤ room_1.cells ∧ sl + 6 ≤ room_1.slots) (hR : zRel σ (zDv.mk ni tx ec eo U S hh kp ou)) (hx1 : xs (i + 1) = (zI (n1 : Int))) (hx2 : xs (i + 2) = (zI v2)) (hx3 : xs (i + 3) = (zI v3)) (hi0 : n1 < U.nb) (hyi1 : -2147483648 ≤ v2 ∧ v2 < 2147483648) (hzi2 : -2147483648 ≤ v3 ∧ v3 < 2147483648) (hno3 : ¬ (U.s0 ≤ v2 ∧ v2 ≤ U.s0 + 999))  (kk : zNx p l e s m args below meth c E Q b0 i ce sl) : zV p l e room_1 s m args below meth c 9 E Q ce sl σ 1480 (lwL b0 i E) [] := by
  refine (?_ : zV p l e room_1 s m args below meth c 9 E Q ce sl σ 1480 [(0, .ref b0), (1, .ref (ob E 0)), (2, .ref (ob E 327)), (3, .ref (ob E 339)), (4, .ref (ob E 340)), (5, .int (zI (i : Int)))] [])
  have C := W.2.1
  have hfl := W.1
  have hroom : room_1.cells = 601024 ∧ room_1.slots = 7293034 := ⟨rfl, rfl⟩
  refine zv_aload_n C 1 dL_law_1480 rfl rfl ?_
  refine zv_aload_n C 0 dL_law_1481 rfl rfl ?_
  refine zv_iload C 5 dL_law_1482 rfl ?_
  refine zv_iconst (v := zI 1) C dL_law_1484 rfl ?_
  refine zv_iaddZ C dL_law_1485 ?_
  refine zv_sld (j := i + 1) (v := (zI (n1 : Int))) C W.2.2.1 W.2.2.2.1 W.2.2.2.2.1 W.2.2.2.2.2 (zI_ix (by omega)) (by omega) hx1 dL_law_1486 ?_
  refine zv_aload_n C 0 dL_law_1487 rfl rfl ?_
  refine zv_iload C 5 dL_law_1488 rfl ?_
  refine zv_iconst (v := zI 2) C dL_law_1490 rfl ?_
  refine zv_iaddZ C dL_law_1491 ?_
  refine zv_sld (j := i + 2) (v := (zI v2)) C W.2.2.1 W.2.2.2.1 W.2.2.2.2.1 W.2.2.2.2.2 (zI_ix (by omega)) (by omega) hx2 dL_law_1492 ?_
  refine zv_aload_n C 0 dL_law_1493 rfl rfl ?_
  refine zv_iload C 5 dL_law_1494 rfl ?_
  refine zv_iconst (v := zI 3) C dL_law_1496 rfl ?_
  refine zv_iaddZ C dL_law_1497 ?_
  refine zv_sld (j := i + 3) (v := (zI v3)) C W.2.2.1 W.2.2.2.1 W.2.2.2.2.1 W.2.2.2.2.2 (zI_ix (by omega)) (by omega) hx3 dL_law_1498 ?_
  refine zv_aload_n C 3 dL_law_1499 rfl rfl ?_
  refine zv_cH (st := []) C (w_x2_X10_growth hfl E σ U n1 v2 v3 hR.1.2.2.1 (by first | assumption | omega) (by first | assumption | omega) (by first | assumption | omega) (by first | assumption | omega)) mL_growth kL_253 rfl ⟨rfl, rfl⟩ (show zfit (zrx 12 291) 6 room_1 = true from rfl) (Nat.le_of_ble_eq_true rfl) dL_law_1500 ⟨by exact hcs.1, by exact hcs.2⟩ (fun r1500 τ1500 hp1500 => ?_)
  obtain ⟨hr0, hP9⟩ := hp1500
  refine zv_eqi (y := zI 2) hr0 ?_
  have hF9 : zFr 318 327 σ τ1500 := by rw [hP9]; exact (by first | exact zFr_refl _ _ _ | exact zFr_rW (zFr_refl _ _ _) (by omega) | exact zFr_rW (zFr_rW (zFr_refl _ _ _) (by omega)) (by omega) | exact qW_f _ _ _ _ | exact qM_f _ _ _ _ _ | exact rW2_f _ _ _ _ _ | exact rW3_f _ _ _ _ _ | exact alW_f _ _ _ _ _ | (split <;> first | exact zFr_refl _ _ _ | exact bW_f _ _ _ _) | assumption)
  have hR1 : zRel τ1500 (zDv.mk ni tx ec eo U S hh kp ou) := zRel_c hR hF9
  refine zv_istore (lv' := [(6, .int (zI 2)), (0, .ref b0), (1, .ref (ob E 0)), (2, .ref (ob E 327)), (3, .ref (ob E 339)), (4, .ref (ob E 340)), (5, .int (zI (i : Int)))]) C dL_law_1503  (by decide) rfl ?_
  refine zv_aload_n C 3 dL_law_1505 rfl rfl ?_
  refine zv_aload_n C 1 dL_law_1506 rfl rfl ?_
  refine zv_iload C 6 dL_law_1507 rfl ?_
  refine zv_iconst (v := zI 1) C dL_law_1509 rfl ?_
  refine zv_iaddZ C dL_law_1510 ?_
  refine zv_sld (j := i + 1) (v := (zI (n1 : Int))) C W.2.2.1 W.2.2.2.1 W.2.2.2.2.1 W.2.2.2.2.2 (zI_ix (by omega)) (by omega) hx1 dL_law_1511 ?_
  refine zv_aload_n C 1 dL_law_1512 rfl rfl ?_
  refine zv_iload C 6 dL_law_1513 rfl ?_
  refine zv_iconst (v := zI 2) C dL_law_1515 rfl ?_
  refine zv_iaddZ C dL_law_1516 ?_
  refine zv_sld (j := i + 2) (v := (zI v2)) C W.2.2.1 W.2.2.2.1 W.2.2.2.2.1 W.2.2.2.2.2 (zI_ix (by omega)) (by omega) hx2 dL_law_1517 ?_
  refine zv_aload_n C 1 dL_law_1518 rfl rfl ?_
  refine zv_iload C 6 dL_law_1519 rfl ?_
  refine zv_iconst (v := zI 3) C dL_law_1521 rfl ?_
  refine zv_iaddZ C dL_law_1522 ?_
  refine zv_sld (j := i + 3) (v := (zI v3)) C W.2.2.1 W.2.2.2.1 W.2.2.2.2.1 W.2.2.2.2.2 (zI_ix (by omega)) (by omega) hx3 dL_law_1523 ?_
  refine zv_cvl (st := []) C (x2_X11_growth hfl E τ1500 σ U n1 v2 v3 hR1.2.2.2.1 hR.1.2.2.1 (by first | assumption | omega) (by first | assumption | omega) (by first | assumption | omega) (by first | assumption | omega)) mX11_growth kL_255 (by decide : kd 327 = 10) rfl rfl rfl ⟨rfl, rfl⟩ (show zfit (zrm 2 46) 7 room_1 = true from rfl) (Nat.le_of_ble_eq_true rfl) dL_law_1524 ⟨by omega, by omega⟩ (fun r1524 τ1524 hp1524 => ?_)
  obtain ⟨hr2, hK2⟩ := hp1524
  refine zv_eql (y := zL 0) hr2 ?_
  have hR2 : zRel τ1524 (zDv.mk ni tx ec eo U S hh kp ou) := zRel_m hR1 hK2
  have ht2 : gI τ1524 327 10 = zI 2 := hK2.2
  have hJ2 : gJ τ1524 339 0 = gJ τ1500 339 0 := hK2.1.2.1 339 0 (by decide)
  have hD2 : gD τ1524 340 0 = gD τ1500 340 0 := hK2.1.2.2 340 0
  refine zv_lstore (lv' := [(7, .long (zL 0)), (6, .int (zI 2)), (0, .ref b0), (1, .ref (ob E 0)), (2, .ref (ob E 327)), (3, .ref (ob E 339)), (4, .ref (ob E 340)), (5, .int (zI (i : Int)))]) C dL_law_1527  (by decide) rfl ?_
  refine zv_aload_n C 4 dL_law_1529 rfl rfl ?_
  refine zv_cviD (st := []) C (c_X11_thrown hfl E τ1524) mX11_thrown kL_200 (by decide : kd 327 = 10) rfl rfl rfl ⟨rfl, rfl⟩ (show zfit (zrm 0 0) 1 room_1 = true from rfl) (Nat.le_of_ble_eq_true rfl) dL_law_1530 ⟨by omega, by omega⟩ ?_
  refine zv_eqi (y := (zI 2)) (ht2) ?_
  refine zv_iload C 1 dL_law_1533 rfl ?_
  refine zv_icmp_eqZ (tgt := 1540) C (by omega) (by omega) dL_law_1535 (by decide) (fun h1535 => ?_) (fun h1535 => ?_)
  · skip
    refine zv_iload C 1 dL_law_1540 rfl ?_
    refine zv_if_neZ (tgt := 1556) C (by omega) dL_law_1542 (by decide) (fun h1542 => ?_) (fun h1542 => absurd h1542 (by decide))
    refine zv_goto (tgt := 3624) C dL_law_1556 (by decide) ?_
    refine zv_sub (lv' := [(0, .ref b0), (1, .ref (ob E 0)), (2, .ref (ob E 327)), (3, .ref (ob E 339)), (4, .ref (ob E 340)), (5, .int (zI (i : Int)))]) [2, 3, 4, 5, 6, 7] (zcons rfl (zcons rfl (zcons rfl (zcons rfl (zcons rfl (zcons rfl rfl)))))) ?_
    exact kk _ _ _ _ (by omega) (by omega) hR2
  · exfalso
    omega
set_option maxRecDepth 20000 in
theorem lw_growth_x3_x2 {p : Program} {l : Launch} {e : Env} {s : State} {m : MethodId} {args : Array Value} {below : List Frame} {meth : Method} {c : Code} {E : zE} {Q : State → Prop} {b0 L i ce sl : Nat} {xs : Nat → Int32} {σ : zS} (ni : Nat) (tx : Nat → Int) (ec : Nat) (eo : Int) (U : zSU) (S : zST) (hh : List zST) (kp : Option zST) (ou : List Nat) (n1 : Nat) (v2 : Int) (v3 : Int) (W : zLW p l s m args meth c E b0 L xs) (hi : i + 6 ≤ L) (hcs : ce + 1 ≤ room_1.cells ∧ sl + 6 ≤ room_1.slots) (hR : zRel σ (zDv.mk ni tx ec eo U S hh kp ou)) (hx1 : xs (i + 1) = (zI (n1 : Int))) (hx2 : xs (i + 2) = (zI v2)) (hx3 : xs (i + 3) = (zI v3)) (hi0 : n1 < U.nb) (hyi1 : -2147483648 ≤ v2 ∧ v2 < 2147483648) (hzi2 : -2147483648 ≤ v3 ∧ v3 < 2147483648) (hy3 : U.s0 ≤ v2 ∧ v2 ≤ U.s0 + 999) (hno4 : ¬ (U.s0 ≤ v3 ∧ v3 ≤ U.s0 + 999))  (kk : zNx p l e s m args below meth c E Q b0 i ce sl) : zV p l e room_1 s m args below meth c 9 E Q ce sl σ 1480 (lwL b0 i E) [] := by
  refine (?_ : zV p l e room_1 s m args below meth c 9 E Q ce sl σ 1480 [(0, .ref b0), (1, .ref (ob E 0)), (2, .ref (ob E 327)), (3, .ref (ob E 339)), (4, .ref (ob E 340)), (5, .int (zI (i : Int)))] [])
  have C := W.2.1
  have hfl := W.1
  have hroom : room_1.cells = 601024 ∧ room_1.slots = 7293034 := ⟨rfl, rfl⟩
  refine zv_aload_n C 1 dL_law_1480 rfl rfl ?_
  refine zv_aload_n C 0 dL_law_1481 rfl rfl ?_
  refine zv_iload C 5 dL_law_1482 rfl ?_
  refine zv_iconst (v := zI 1) C dL_law_1484 rfl ?_
  refine zv_iaddZ C dL_law_1485 ?_
  refine zv_sld (j := i + 1) (v := (zI (n1 : Int))) C W.2.2.1 W.2.2.2.1 W.2.2.2.2.1 W.2.2.2.2.2 (zI_ix (by omega)) (by omega) hx1 dL_law_1486 ?_
  refine zv_aload_n C 0 dL_law_1487 rfl rfl ?_
  refine zv_iload C 5 dL_law_1488 rfl ?_
  refine zv_iconst (v := zI 2) C dL_law_1490 rfl ?_
  refine zv_iaddZ C dL_law_1491 ?_
  refine zv_sld (j := i + 2) (v := (zI v2)) C W.2.2.1 W.2.2.2.1 W.2.2.2.2.1 W.2.2.2.2.2 (zI_ix (by omega)) (by omega) hx2 dL_law_1492 ?_
  refine zv_aload_n C 0 dL_law_1493 rfl rfl ?_
  refine zv_iload C 5 dL_law_1494 rfl ?_
  refine zv_iconst (v := zI 3) C dL_law_1496 rfl ?_
  refine zv_iaddZ C dL_law_1497 ?_
  refine zv_sld (j := i + 3) (v := (zI v3)) C W.2.2.1 W.2.2.2.1 W.2.2.2.2.1 W.2.2.2.2.2 (zI_ix (by omega)) (by omega) hx3 dL_law_1498 ?_
  refine zv_aload_n C 3 dL_law_1499 rfl rfl ?_
  refine zv_cH (st := []) C (w_x3_X10_growth hfl E σ U n1 v2 v3 hR.1.2.2.1 (by first | assumption | omega) (by first | assumption | omega) (by first | assumption | omega) (by first | assumption | omega) (by first | assumption | omega)) mL_growth kL_253 rfl ⟨rfl, rfl⟩ (show zfit (zrx 12 291) 6 room_1 = true from rfl) (Nat.le_of_ble_eq_true rfl) dL_law_1500 ⟨by exact hcs.1, by exact hcs.2⟩ (fun r1500 τ1500 hp1500 => ?_)
  obtain ⟨hr0, hP9⟩ := hp1500
  refine zv_eqi (y := zI 2) hr0 ?_
  have hF9 : zFr 318 327 σ τ1500 := by rw [hP9]; exact (by first | exact zFr_refl _ _ _ | exact zFr_rW (zFr_refl _ _ _) (by omega) | exact zFr_rW (zFr_rW (zFr_refl _ _ _) (by omega)) (by omega) | exact qW_f _ _ _ _ | exact qM_f _ _ _ _ _ | exact rW2_f _ _ _ _ _ | exact rW3_f _ _ _ _ _ | exact alW_f _ _ _ _ _ | (split <;> first | exact zFr_refl _ _ _ | exact bW_f _ _ _ _) | assumption)
  have hR1 : zRel τ1500 (zDv.mk ni tx ec eo U S hh kp ou) := zRel_c hR hF9
  refine zv_istore (lv' := [(6, .int (zI 2)), (0, .ref b0), (1, .ref (ob E 0)), (2, .ref (ob E 327)), (3, .ref (ob E 339)), (4, .ref (ob E 340)), (5, .int (zI (i : Int)))]) C dL_law_1503  (by decide) rfl ?_
  refine zv_aload_n C 3 dL_law_1505 rfl rfl ?_
  refine zv_aload_n C 1 dL_law_1506 rfl rfl ?_
  refine zv_iload C 6 dL_law_1507 rfl ?_
  refine zv_iconst (v := zI 1) C dL_law_1509 rfl ?_
  refine zv_iaddZ C dL_law_1510 ?_
  refine zv_sld (j := i + 1) (v := (zI (n1 : Int))) C W.2.2.1 W.2.2.2.1 W.2.2.2.2.1 W.2.2.2.2.2 (zI_ix (by omega)) (by omega) hx1 dL_law_1511 ?_
  refine zv_aload_n C 1 dL_law_1512 rfl rfl ?_
  refine zv_iload C 6 dL_law_1513 rfl ?_
  refine zv_iconst (v := zI 2) C dL_law_1515 rfl ?_
  refine zv_iaddZ C dL_law_1516 ?_
  refine zv_sld (j := i + 2) (v := (zI v2)) C W.2.2.1 W.2.2.2.1 W.2.2.2.2.1 W.2.2.2.2.2 (zI_ix (by omega)) (by omega) hx2 dL_law_1517 ?_
  refine zv_aload_n C 1 dL_law_1518 rfl rfl ?_
  refine zv_iload C 6 dL_law_1519 rfl ?_
  refine zv_iconst (v := zI 3) C dL_law_1521 rfl ?_
  refine zv_iaddZ C dL_law_1522 ?_
  refine zv_sld (j := i + 3) (v := (zI v3)) C W.2.2.1 W.2.2.2.1 W.2.2.2.2.1 W.2.2.2.2.2 (zI_ix (by omega)) (by omega) hx3 dL_law_1523 ?_
  refine zv_cvl (st := []) C (x2_X11_growth hfl E τ1500 σ U n1 v2 v3 hR1.2.2.2.1 hR.1.2.2.1 (by first | assumption | omega) (by first | assumption | omega) (by first | assumption | omega) (by first | assumption | omega)) mX11_growth kL_255 (by decide : kd 327 = 10) rfl rfl rfl ⟨rfl, rfl⟩ (show zfit (zrm 2 46) 7 room_1 = true from rfl) (Nat.le_of_ble_eq_true rfl) dL_law_1524 ⟨by omega, by omega⟩ (fun r1524 τ1524 hp1524 => ?_)
  obtain ⟨hr2, hK2⟩ := hp1524
  refine zv_eql (y := zL 0) hr2 ?_
  have hR2 : zRel τ1524 (zDv.mk ni tx ec eo U S hh kp ou) := zRel_m hR1 hK2
  have ht2 : gI τ1524 327 10 = zI 2 := hK2.2
  have hJ2 : gJ τ1524 339 0 = gJ τ1500 339 0 := hK2.1.2.1 339 0 (by decide)
  have hD2 : gD τ1524 340 0 = gD τ1500 340 0 := hK2.1.2.2 340 0
  refine zv_lstore (lv' := [(7, .long (zL 0)), (6, .int (zI 2)), (0, .ref b0), (1, .ref (ob E 0)), (2, .ref (ob E 327)), (3, .ref (ob E 339)), (4, .ref (ob E 340)), (5, .int (zI (i : Int)))]) C dL_law_1527  (by decide) rfl ?_
  refine zv_aload_n C 4 dL_law_1529 rfl rfl ?_
  refine zv_cviD (st := []) C (c_X11_thrown hfl E τ1524) mX11_thrown kL_200 (by decide : kd 327 = 10) rfl rfl rfl ⟨rfl, rfl⟩ (show zfit (zrm 0 0) 1 room_1 = true from rfl) (Nat.le_of_ble_eq_true rfl) dL_law_1530 ⟨by omega, by omega⟩ ?_
  refine zv_eqi (y := (zI 2)) (ht2) ?_
  refine zv_iload C 1 dL_law_1533 rfl ?_
  refine zv_icmp_eqZ (tgt := 1540) C (by omega) (by omega) dL_law_1535 (by decide) (fun h1535 => ?_) (fun h1535 => ?_)
  · skip
    refine zv_iload C 1 dL_law_1540 rfl ?_
    refine zv_if_neZ (tgt := 1556) C (by omega) dL_law_1542 (by decide) (fun h1542 => ?_) (fun h1542 => absurd h1542 (by decide))
    refine zv_goto (tgt := 3624) C dL_law_1556 (by decide) ?_
    refine zv_sub (lv' := [(0, .ref b0), (1, .ref (ob E 0)), (2, .ref (ob E 327)), (3, .ref (ob E 339)), (4, .ref (ob E 340)), (5, .int (zI (i : Int)))]) [2, 3, 4, 5, 6, 7] (zcons rfl (zcons rfl (zcons rfl (zcons rfl (zcons rfl (zcons rfl rfl)))))) ?_
    exact kk _ _ _ _ (by omega) (by omega) hR2
  · exfalso
    omega
set_option maxRecDepth 20000 in
theorem lw_growth_x4_x2 {p : Program} {l : Launch} {e : Env} {s : State} {m : MethodId} {args : Array Value} {below : List Frame} {meth : Method} {c : Code} {E : zE} {Q : State → Prop} {b0 L i ce sl : Nat} {xs : Nat → Int32} {σ : zS} (ni : Nat) (tx : Nat → Int) (ec : Nat) (eo : Int) (U : zSU) (S : zST) (hh : List zST) (kp : Option zST) (ou : List Nat) (n1 : Nat) (v2 : Int) (v3 : Int) (W : zLW p l s m args meth c E b0 L xs) (hi : i + 6 ≤ L) (hcs : ce + 1 ≤ room_1.cells ∧ sl + 6 ≤ room_1.slots) (hR : zRel σ (zDv.mk ni tx ec eo U S hh kp ou)) (hx1 : xs (i + 1) = (zI (n1 : Int))) (hx2 : xs (i + 2) = (zI v2)) (hx3 : xs (i + 3) = (zI v3)) (hi0 : n1 < U.nb) (hyi1 : -2147483648 ≤ v2 ∧ v2 < 2147483648) (hzi2 : -2147483648 ≤ v3 ∧ v3 < 2147483648) (hy3 : U.s0 ≤ v2 ∧ v2 ≤ U.s0 + 999) (hz4 : U.s0 ≤ v3 ∧ v3 ≤ U.s0 + 999) (hno5 : v3 < v2)  (kk : zNx p l e s m args below meth c E Q b0 i ce sl) : zV p l e room_1 s m args below meth c 9 E Q ce sl σ 1480 (lwL b0 i E) [] := by
  refine (?_ : zV p l e room_1 s m args below meth c 9 E Q ce sl σ 1480 [(0, .ref b0), (1, .ref (ob E 0)), (2, .ref (ob E 327)), (3, .ref (ob E 339)), (4, .ref (ob E 340)), (5, .int (zI (i : Int)))] [])
  have C := W.2.1
  have hfl := W.1
  have hroom : room_1.cells = 601024 ∧ room_1.slots = 7293034 := ⟨rfl, rfl⟩
  refine zv_aload_n C 1 dL_law_1480 rfl rfl ?_
  refine zv_aload_n C 0 dL_law_1481 rfl rfl ?_
  refine zv_iload C 5 dL_law_1482 rfl ?_
  refine zv_iconst (v := zI 1) C dL_law_1484 rfl ?_
  refine zv_iaddZ C dL_law_1485 ?_
  refine zv_sld (j := i + 1) (v := (zI (n1 : Int))) C W.2.2.1 W.2.2.2.1 W.2.2.2.2.1 W.2.2.2.2.2 (zI_ix (by omega)) (by omega) hx1 dL_law_1486 ?_
  refine zv_aload_n C 0 dL_law_1487 rfl rfl ?_
  refine zv_iload C 5 dL_law_1488 rfl ?_
  refine zv_iconst (v := zI 2) C dL_law_1490 rfl ?_
  refine zv_iaddZ C dL_law_1491 ?_
  refine zv_sld (j := i + 2) (v := (zI v2)) C W.2.2.1 W.2.2.2.1 W.2.2.2.2.1 W.2.2.2.2.2 (zI_ix (by omega)) (by omega) hx2 dL_law_1492 ?_
  refine zv_aload_n C 0 dL_law_1493 rfl rfl ?_
  refine zv_iload C 5 dL_law_1494 rfl ?_
  refine zv_iconst (v := zI 3) C dL_law_1496 rfl ?_
  refine zv_iaddZ C dL_law_1497 ?_
  refine zv_sld (j := i + 3) (v := (zI v3)) C W.2.2.1 W.2.2.2.1 W.2.2.2.2.1 W.2.2.2.2.2 (zI_ix (by omega)) (by omega) hx3 dL_law_1498 ?_
  refine zv_aload_n C 3 dL_law_1499 rfl rfl ?_
  refine zv_cH (st := []) C (w_x4_X10_growth hfl E σ U n1 v2 v3 hR.1.2.2.1 (by first | assumption | omega) (by first | assumption | omega) (by first | assumption | omega) (by first | assumption | omega) (by first | assumption | omega) (by first | assumption | omega)) mL_growth kL_253 rfl ⟨rfl, rfl⟩ (show zfit (zrx 12 291) 6 room_1 = true from rfl) (Nat.le_of_ble_eq_true rfl) dL_law_1500 ⟨by exact hcs.1, by exact hcs.2⟩ (fun r1500 τ1500 hp1500 => ?_)
  obtain ⟨hr0, hP9⟩ := hp1500
  refine zv_eqi (y := zI 2) hr0 ?_
  have hF9 : zFr 318 327 σ τ1500 := by rw [hP9]; exact (by first | exact zFr_refl _ _ _ | exact zFr_rW (zFr_refl _ _ _) (by omega) | exact zFr_rW (zFr_rW (zFr_refl _ _ _) (by omega)) (by omega) | exact qW_f _ _ _ _ | exact qM_f _ _ _ _ _ | exact rW2_f _ _ _ _ _ | exact rW3_f _ _ _ _ _ | exact alW_f _ _ _ _ _ | (split <;> first | exact zFr_refl _ _ _ | exact bW_f _ _ _ _) | assumption)
  have hR1 : zRel τ1500 (zDv.mk ni tx ec eo U S hh kp ou) := zRel_c hR hF9
  refine zv_istore (lv' := [(6, .int (zI 2)), (0, .ref b0), (1, .ref (ob E 0)), (2, .ref (ob E 327)), (3, .ref (ob E 339)), (4, .ref (ob E 340)), (5, .int (zI (i : Int)))]) C dL_law_1503  (by decide) rfl ?_
  refine zv_aload_n C 3 dL_law_1505 rfl rfl ?_
  refine zv_aload_n C 1 dL_law_1506 rfl rfl ?_
  refine zv_iload C 6 dL_law_1507 rfl ?_
  refine zv_iconst (v := zI 1) C dL_law_1509 rfl ?_
  refine zv_iaddZ C dL_law_1510 ?_
  refine zv_sld (j := i + 1) (v := (zI (n1 : Int))) C W.2.2.1 W.2.2.2.1 W.2.2.2.2.1 W.2.2.2.2.2 (zI_ix (by omega)) (by omega) hx1 dL_law_1511 ?_
  refine zv_aload_n C 1 dL_law_1512 rfl rfl ?_
  refine zv_iload C 6 dL_law_1513 rfl ?_
  refine zv_iconst (v := zI 2) C dL_law_1515 rfl ?_
  refine zv_iaddZ C dL_law_1516 ?_
  refine zv_sld (j := i + 2) (v := (zI v2)) C W.2.2.1 W.2.2.2.1 W.2.2.2.2.1 W.2.2.2.2.2 (zI_ix (by omega)) (by omega) hx2 dL_law_1517 ?_
  refine zv_aload_n C 1 dL_law_1518 rfl rfl ?_
  refine zv_iload C 6 dL_law_1519 rfl ?_
  refine zv_iconst (v := zI 3) C dL_law_1521 rfl ?_
  refine zv_iaddZ C dL_law_1522 ?_
  refine zv_sld (j := i + 3) (v := (zI v3)) C W.2.2.1 W.2.2.2.1 W.2.2.2.2.1 W.2.2.2.2.2 (zI_ix (by omega)) (by omega) hx3 dL_law_1523 ?_
  refine zv_cvl (st := []) C (x2_X11_growth hfl E τ1500 σ U n1 v2 v3 hR1.2.2.2.1 hR.1.2.2.1 (by first | assumption | omega) (by first | assumption | omega) (by first | assumption | omega) (by first | assumption | omega)) mX11_growth kL_255 (by decide : kd 327 = 10) rfl rfl rfl ⟨rfl, rfl⟩ (show zfit (zrm 2 46) 7 room_1 = true from rfl) (Nat.le_of_ble_eq_true rfl) dL_law_1524 ⟨by omega, by omega⟩ (fun r1524 τ1524 hp1524 => ?_)
  obtain ⟨hr2, hK2⟩ := hp1524
  refine zv_eql (y := zL 0) hr2 ?_
  have hR2 : zRel τ1524 (zDv.mk ni tx ec eo U S hh kp ou) := zRel_m hR1 hK2
  have ht2 : gI τ1524 327 10 = zI 2 := hK2.2
  have hJ2 : gJ τ1524 339 0 = gJ τ1500 339 0 := hK2.1.2.1 339 0 (by decide)
  have hD2 : gD τ1524 340 0 = gD τ1500 340 0 := hK2.1.2.2 340 0
  refine zv_lstore (lv' := [(7, .long (zL 0)), (6, .int (zI 2)), (0, .ref b0), (1, .ref (ob E 0)), (2, .ref (ob E 327)), (3, .ref (ob E 339)), (4, .ref (ob E 340)), (5, .int (zI (i : Int)))]) C dL_law_1527  (by decide) rfl ?_
  refine zv_aload_n C 4 dL_law_1529 rfl rfl ?_
  refine zv_cviD (st := []) C (c_X11_thrown hfl E τ1524) mX11_thrown kL_200 (by decide : kd 327 = 10) rfl rfl rfl ⟨rfl, rfl⟩ (show zfit (zrm 0 0) 1 room_1 = true from rfl) (Nat.le_of_ble_eq_true rfl) dL_law_1530 ⟨by omega, by omega⟩ ?_
  refine zv_eqi (y := (zI 2)) (ht2) ?_
  refine zv_iload C 1 dL_law_1533 rfl ?_
  refine zv_icmp_eqZ (tgt := 1540) C (by omega) (by omega) dL_law_1535 (by decide) (fun h1535 => ?_) (fun h1535 => ?_)
  · skip
    refine zv_iload C 1 dL_law_1540 rfl ?_
    refine zv_if_neZ (tgt := 1556) C (by omega) dL_law_1542 (by decide) (fun h1542 => ?_) (fun h1542 => absurd h1542 (by decide))
    refine zv_goto (tgt := 3624) C dL_law_1556 (by decide) ?_
    refine zv_sub (lv' := [(0, .ref b0), (1, .ref (ob E 0)), (2, .ref (ob E 327)), (3, .ref (ob E 339)), (4, .ref (ob E 340)), (5, .int (zI (i : Int)))]) [2, 3, 4, 5, 6, 7] (zcons rfl (zcons rfl (zcons rfl (zcons rfl (zcons rfl (zcons rfl rfl)))))) ?_
    exact kk _ _ _ _ (by omega) (by omega) hR2
  · exfalso
    omega
set_option maxRecDepth 20000 in
theorem lw_growth_x5_x2 {p : Program} {l : Launch} {e : Env} {s : State} {m : MethodId} {args : Array Value} {below : List Frame} {meth : Method} {c : Code} {E : zE} {Q : State → Prop} {b0 L i ce sl : Nat} {xs : Nat → Int32} {σ : zS} (ni : Nat) (tx : Nat → Int) (ec : Nat) (eo : Int) (U : zSU) (S : zST) (hh : List zST) (kp : Option zST) (ou : List Nat) (n1 : Nat) (v2 : Int) (W : zLW p l s m args meth c E b0 L xs) (hi : i + 6 ≤ L) (hcs : ce + 1 ≤ room_1.cells ∧ sl + 6 ≤ room_1.slots) (hR : zRel σ (zDv.mk ni tx ec eo U S hh kp ou)) (hx1 : xs (i + 1) = (zI (n1 : Int))) (hx2 : xs (i + 2) = (zI v2)) (hx3 : xs (i + 3) = (zI v2)) (hi0 : n1 < U.nb) (hyi1 : -2147483648 ≤ v2 ∧ v2 < 2147483648) (hy2 : U.s0 ≤ v2 ∧ v2 ≤ U.s0 + 999)  (kk : zNx p l e s m args below meth c E Q b0 i ce sl) : zV p l e room_1 s m args below meth c 9 E Q ce sl σ 1480 (lwL b0 i E) [] := by
  refine (?_ : zV p l e room_1 s m args below meth c 9 E Q ce sl σ 1480 [(0, .ref b0), (1, .ref (ob E 0)), (2, .ref (ob E 327)), (3, .ref (ob E 339)), (4, .ref (ob E 340)), (5, .int (zI (i : Int)))] [])
  have C := W.2.1
  have hfl := W.1
  have hroom : room_1.cells = 601024 ∧ room_1.slots = 7293034 := ⟨rfl, rfl⟩
  refine zv_aload_n C 1 dL_law_1480 rfl rfl ?_
  refine zv_aload_n C 0 dL_law_1481 rfl rfl ?_
  refine zv_iload C 5 dL_law_1482 rfl ?_
  refine zv_iconst (v := zI 1) C dL_law_1484 rfl ?_
  refine zv_iaddZ C dL_law_1485 ?_
  refine zv_sld (j := i + 1) (v := (zI (n1 : Int))) C W.2.2.1 W.2.2.2.1 W.2.2.2.2.1 W.2.2.2.2.2 (zI_ix (by omega)) (by omega) hx1 dL_law_1486 ?_
  refine zv_aload_n C 0 dL_law_1487 rfl rfl ?_
  refine zv_iload C 5 dL_law_1488 rfl ?_
  refine zv_iconst (v := zI 2) C dL_law_1490 rfl ?_
  refine zv_iaddZ C dL_law_1491 ?_
  refine zv_sld (j := i + 2) (v := (zI v2)) C W.2.2.1 W.2.2.2.1 W.2.2.2.2.1 W.2.2.2.2.2 (zI_ix (by omega)) (by omega) hx2 dL_law_1492 ?_
  refine zv_aload_n C 0 dL_law_1493 rfl rfl ?_
  refine zv_iload C 5 dL_law_1494 rfl ?_
  refine zv_iconst (v := zI 3) C dL_law_1496 rfl ?_
  refine zv_iaddZ C dL_law_1497 ?_
  refine zv_sld (j := i + 3) (v := (zI v2)) C W.2.2.1 W.2.2.2.1 W.2.2.2.2.1 W.2.2.2.2.2 (zI_ix (by omega)) (by omega) hx3 dL_law_1498 ?_
  refine zv_aload_n C 3 dL_law_1499 rfl rfl ?_
  refine zv_cH (st := []) C (w_x5_X10_growth hfl E σ U n1 v2 hR.1.2.2.1 (by first | assumption | omega) (by first | assumption | omega) (by first | assumption | omega)) mL_growth kL_253 rfl ⟨rfl, rfl⟩ (show zfit (zrx 12 291) 6 room_1 = true from rfl) (Nat.le_of_ble_eq_true rfl) dL_law_1500 ⟨by exact hcs.1, by exact hcs.2⟩ (fun r1500 τ1500 hp1500 => ?_)
  obtain ⟨hr0, hP9⟩ := hp1500
  refine zv_eqi (y := zI 2) hr0 ?_
  have hF9 : zFr 318 327 σ τ1500 := by rw [hP9]; exact (by first | exact zFr_refl _ _ _ | exact zFr_rW (zFr_refl _ _ _) (by omega) | exact zFr_rW (zFr_rW (zFr_refl _ _ _) (by omega)) (by omega) | exact qW_f _ _ _ _ | exact qM_f _ _ _ _ _ | exact rW2_f _ _ _ _ _ | exact rW3_f _ _ _ _ _ | exact alW_f _ _ _ _ _ | (split <;> first | exact zFr_refl _ _ _ | exact bW_f _ _ _ _) | assumption)
  have hR1 : zRel τ1500 (zDv.mk ni tx ec eo U S hh kp ou) := zRel_c hR hF9
  refine zv_istore (lv' := [(6, .int (zI 2)), (0, .ref b0), (1, .ref (ob E 0)), (2, .ref (ob E 327)), (3, .ref (ob E 339)), (4, .ref (ob E 340)), (5, .int (zI (i : Int)))]) C dL_law_1503  (by decide) rfl ?_
  refine zv_aload_n C 3 dL_law_1505 rfl rfl ?_
  refine zv_aload_n C 1 dL_law_1506 rfl rfl ?_
  refine zv_iload C 6 dL_law_1507 rfl ?_
  refine zv_iconst (v := zI 1) C dL_law_1509 rfl ?_
  refine zv_iaddZ C dL_law_1510 ?_
  refine zv_sld (j := i + 1) (v := (zI (n1 : Int))) C W.2.2.1 W.2.2.2.1 W.2.2.2.2.1 W.2.2.2.2.2 (zI_ix (by omega)) (by omega) hx1 dL_law_1511 ?_
  refine zv_aload_n C 1 dL_law_1512 rfl rfl ?_
  refine zv_iload C 6 dL_law_1513 rfl ?_
  refine zv_iconst (v := zI 2) C dL_law_1515 rfl ?_
  refine zv_iaddZ C dL_law_1516 ?_
  refine zv_sld (j := i + 2) (v := (zI v2)) C W.2.2.1 W.2.2.2.1 W.2.2.2.2.1 W.2.2.2.2.2 (zI_ix (by omega)) (by omega) hx2 dL_law_1517 ?_
  refine zv_aload_n C 1 dL_law_1518 rfl rfl ?_
  refine zv_iload C 6 dL_law_1519 rfl ?_
  refine zv_iconst (v := zI 3) C dL_law_1521 rfl ?_
  refine zv_iaddZ C dL_law_1522 ?_
  refine zv_sld (j := i + 3) (v := (zI v2)) C W.2.2.1 W.2.2.2.1 W.2.2.2.2.1 W.2.2.2.2.2 (zI_ix (by omega)) (by omega) hx3 dL_law_1523 ?_
  refine zv_cvl (st := []) C (x2_X11_growth hfl E τ1500 σ U n1 v2 v2 hR1.2.2.2.1 hR.1.2.2.1 (by first | assumption | omega) (by first | assumption | omega) (by first | assumption | omega) (by first | assumption | omega)) mX11_growth kL_255 (by decide : kd 327 = 10) rfl rfl rfl ⟨rfl, rfl⟩ (show zfit (zrm 2 46) 7 room_1 = true from rfl) (Nat.le_of_ble_eq_true rfl) dL_law_1524 ⟨by omega, by omega⟩ (fun r1524 τ1524 hp1524 => ?_)
  obtain ⟨hr2, hK2⟩ := hp1524
  refine zv_eql (y := zL 0) hr2 ?_
  have hR2 : zRel τ1524 (zDv.mk ni tx ec eo U S hh kp ou) := zRel_m hR1 hK2
  have ht2 : gI τ1524 327 10 = zI 2 := hK2.2
  have hJ2 : gJ τ1524 339 0 = gJ τ1500 339 0 := hK2.1.2.1 339 0 (by decide)
  have hD2 : gD τ1524 340 0 = gD τ1500 340 0 := hK2.1.2.2 340 0
  refine zv_lstore (lv' := [(7, .long (zL 0)), (6, .int (zI 2)), (0, .ref b0), (1, .ref (ob E 0)), (2, .ref (ob E 327)), (3, .ref (ob E 339)), (4, .ref (ob E 340)), (5, .int (zI (i : Int)))]) C dL_law_1527  (by decide) rfl ?_
  refine zv_aload_n C 4 dL_law_1529 rfl rfl ?_
  refine zv_cviD (st := []) C (c_X11_thrown hfl E τ1524) mX11_thrown kL_200 (by decide : kd 327 = 10) rfl rfl rfl ⟨rfl, rfl⟩ (show zfit (zrm 0 0) 1 room_1 = true from rfl) (Nat.le_of_ble_eq_true rfl) dL_law_1530 ⟨by omega, by omega⟩ ?_
  refine zv_eqi (y := (zI 2)) (ht2) ?_
  refine zv_iload C 1 dL_law_1533 rfl ?_
  refine zv_icmp_eqZ (tgt := 1540) C (by omega) (by omega) dL_law_1535 (by decide) (fun h1535 => ?_) (fun h1535 => ?_)
  · skip
    refine zv_iload C 1 dL_law_1540 rfl ?_
    refine zv_if_neZ (tgt := 1556) C (by omega) dL_law_1542 (by decide) (fun h1542 => ?_) (fun h1542 => absurd h1542 (by decide))
    refine zv_goto (tgt := 3624) C dL_law_1556 (by decide) ?_
    refine zv_sub (lv' := [(0, .ref b0), (1, .ref (ob E 0)), (2, .ref (ob E 327)), (3, .ref (ob E 339)), (4, .ref (ob E 340)), (5, .int (zI (i : Int)))]) [2, 3, 4, 5, 6, 7] (zcons rfl (zcons rfl (zcons rfl (zcons rfl (zcons rfl (zcons rfl rfl)))))) ?_
    exact kk _ _ _ _ (by omega) (by omega) hR2
  · exfalso
    omega
theorem LK_22 {p : Program} {l : Launch} {e : Env} {s : State} {m : MethodId} {args : Array Value} {below : List Frame} {meth : Method} {c : Code} {E : zE} {Q : State → Prop} {b0 L i ce sl : Nat} {xs : Nat → Int32} {σ : zS} (ni : Nat) (tx : Nat → Int) (ec : Nat) (eo : Int) (U : zSU) (S : zST) (hh : List zST) (kp : Option zST) (ou : List Nat) (hFN : zFN) (W : zLW p l s m args meth c E b0 L xs) (hi : i + 6 ≤ L) (hcs : ce + 1 ≤ room_1.cells ∧ sl + 6 ≤ room_1.slots) (hR : zRel σ (zDv.mk ni tx ec eo U S hh kp ou)) (kk : zNx p l e s m args below meth c E Q b0 i ce sl) : zV p l e room_1 s m args below meth c 9 E Q ce sl σ 1480 (lwL b0 i E) [] := by
  obtain ⟨v1, hx1, hv1⟩ := zI_cov (xs (i + 1))
  obtain ⟨v2, hx2, hv2⟩ := zI_cov (xs (i + 2))
  obtain ⟨v3, hx3, hv3⟩ := zI_cov (xs (i + 3))
  by_cases g1 : 0 ≤ v1 ∧ v1 < U.nb
  case neg =>
    exact lw_growth_x1_x1 _ _ _ _ _ _ _ _ _ _ _ _ W hi hcs hR hx1 hx2 hx3 (by first | assumption | omega) (by first | assumption | omega) kk
  obtain ⟨n1, rfl⟩ := Int.eq_ofNat_of_zero_le (show 0 ≤ v1 by omega)
  by_cases g2 : U.s0 ≤ v2 ∧ v2 ≤ U.s0 + 999
  case neg =>
    exact lw_growth_x2_x2 _ _ _ _ _ _ _ _ _ _ _ _ W hi hcs hR hx1 hx2 hx3 (by first | assumption | omega) (by first | assumption | omega) (by first | assumption | omega) (by first | assumption | omega) kk
  by_cases g3 : U.s0 ≤ v3 ∧ v3 ≤ U.s0 + 999
  case neg =>
    exact lw_growth_x3_x2 _ _ _ _ _ _ _ _ _ _ _ _ W hi hcs hR hx1 hx2 hx3 (by first | assumption | omega) (by first | assumption | omega) (by first | assumption | omega) (by first | assumption | omega) (by first | assumption | omega) kk
  by_cases g4 : ¬ v3 < v2
  case neg =>
    exact lw_growth_x4_x2 _ _ _ _ _ _ _ _ _ _ _ _ W hi hcs hR hx1 hx2 hx3 (by first | assumption | omega) (by first | assumption | omega) (by first | assumption | omega) (by first | assumption | omega) (by first | assumption | omega) (by first | assumption | omega) kk
  by_cases g5 : v2 < v3
  case neg =>
    obtain rfl : v3 = v2 := by omega
    exact lw_growth_x5_x2 _ _ _ _ _ _ _ _ _ _ _ W hi hcs hR hx1 hx2 hx3 (by first | assumption | omega) (by first | assumption | omega) (by first | assumption | omega) kk
  exact lw_growth_c_c _ _ _ _ _ _ _ _ _ _ _ _ W hi hcs hR hx1 hx2 hx3 (by first | assumption | omega) (by first | assumption | omega) (by first | assumption | omega) (by first | assumption | omega) kk
theorem dL_law_1559 : decode cL_law 1559 = .ok (.aload_n 1, 1) := by decide +kernel
theorem dL_law_1560 : decode cL_law 1560 = .ok (.aload_n 0, 1) := by decide +kernel
theorem dL_law_1561 : decode cL_law 1561 = .ok (.iload 5, 2) := by decide +kernel
theorem dL_law_1563 : decode cL_law 1563 = .ok (.iconst 1, 1) := by decide +kernel
theorem dL_law_1564 : decode cL_law 1564 = .ok (.iadd, 1) := by decide +kernel
theorem dL_law_1565 : decode cL_law 1565 = .ok (.iaload, 1) := by decide +kernel
theorem dL_law_1566 : decode cL_law 1566 = .ok (.aload_n 0, 1) := by decide +kernel
theorem dL_law_1567 : decode cL_law 1567 = .ok (.iload 5, 2) := by decide +kernel
theorem dL_law_1569 : decode cL_law 1569 = .ok (.iconst 2, 1) := by decide +kernel
theorem dL_law_1570 : decode cL_law 1570 = .ok (.iadd, 1) := by decide +kernel
theorem dL_law_1571 : decode cL_law 1571 = .ok (.iaload, 1) := by decide +kernel
theorem dL_law_1572 : decode cL_law 1572 = .ok (.aload_n 3, 1) := by decide +kernel
theorem dL_law_1573 : decode cL_law 1573 = .ok (.invokestatic 256, 3) := by decide +kernel
theorem dL_law_1576 : decode cL_law 1576 = .ok (.istore 6, 2) := by decide +kernel
theorem dL_law_1578 : decode cL_law 1578 = .ok (.aload_n 2, 1) := by decide +kernel
theorem dL_law_1579 : decode cL_law 1579 = .ok (.aload_n 0, 1) := by decide +kernel
theorem dL_law_1580 : decode cL_law 1580 = .ok (.iload 5, 2) := by decide +kernel
theorem dL_law_1582 : decode cL_law 1582 = .ok (.iconst 1, 1) := by decide +kernel
theorem dL_law_1583 : decode cL_law 1583 = .ok (.iadd, 1) := by decide +kernel
theorem dL_law_1584 : decode cL_law 1584 = .ok (.iaload, 1) := by decide +kernel
theorem dL_law_1585 : decode cL_law 1585 = .ok (.aload_n 0, 1) := by decide +kernel
theorem dL_law_1586 : decode cL_law 1586 = .ok (.iload 5, 2) := by decide +kernel
theorem dL_law_1588 : decode cL_law 1588 = .ok (.iconst 2, 1) := by decide +kernel
theorem dL_law_1589 : decode cL_law 1589 = .ok (.iadd, 1) := by decide +kernel
theorem dL_law_1590 : decode cL_law 1590 = .ok (.iaload, 1) := by decide +kernel
theorem dL_law_1591 : decode cL_law 1591 = .ok (.invokevirtual 258, 3) := by decide +kernel
theorem dL_law_1594 : decode cL_law 1594 = .ok (.istore 7, 2) := by decide +kernel
theorem dL_law_1596 : decode cL_law 1596 = .ok (.aload_n 2, 1) := by decide +kernel
theorem dL_law_1597 : decode cL_law 1597 = .ok (.invokevirtual 200, 3) := by decide +kernel
theorem dL_law_1600 : decode cL_law 1600 = .ok (.iload 6, 2) := by decide +kernel
theorem dL_law_1602 : decode cL_law 1602 = .ok (.if_icmp .eq 5, 3) := by decide +kernel
theorem dL_law_1605 : decode cL_law 1605 = .ok (.iconst 0, 1) := by decide +kernel
theorem dL_law_1606 : decode cL_law 1606 = .ok (.ireturn, 1) := by decide +kernel
theorem dL_law_1607 : decode cL_law 1607 = .ok (.iload 6, 2) := by decide +kernel
theorem dL_law_1609 : decode cL_law 1609 = .ok (.ifCond .ne 15, 3) := by decide +kernel
theorem dL_law_1612 : decode cL_law 1612 = .ok (.aload_n 3, 1) := by decide +kernel
theorem dL_law_1613 : decode cL_law 1613 = .ok (.iconst 0, 1) := by decide +kernel
theorem dL_law_1614 : decode cL_law 1614 = .ok (.laload, 1) := by decide +kernel
theorem dL_law_1615 : decode cL_law 1615 = .ok (.iload 7, 2) := by decide +kernel
theorem dL_law_1617 : decode cL_law 1617 = .ok (.i2l, 1) := by decide +kernel
theorem dL_law_1618 : decode cL_law 1618 = .ok (.lcmp, 1) := by decide +kernel
theorem dL_law_1619 : decode cL_law 1619 = .ok (.ifCond .eq 5, 3) := by decide +kernel
theorem dL_law_1622 : decode cL_law 1622 = .ok (.iconst 0, 1) := by decide +kernel
theorem dL_law_1623 : decode cL_law 1623 = .ok (.ireturn, 1) := by decide +kernel
theorem dL_law_1624 : decode cL_law 1624 = .ok (.goto 2000, 3) := by decide +kernel
set_option maxRecDepth 20000 in
theorem lw_bestPair_c_c0 {p : Program} {l : Launch} {e : Env} {s : State} {m : MethodId} {args : Array Value} {below : List Frame} {meth : Method} {c : Code} {E : zE} {Q : State → Prop} {b0 L i ce sl : Nat} {xs : Nat → Int32} {σ : zS} (ni : Nat) (tx : Nat → Int) (ec : Nat) (eo : Int) (U : zSU) (S : zST) (hh : List zST) (kp : Option zST) (ou : List Nat) (n1 : Nat) (n2 : Nat) (W : zLW p l s m args meth c E b0 L xs) (hi : i + 6 ≤ L) (hcs : ce + 1 ≤ room_1.cells ∧ sl + 6 ≤ room_1.slots) (hR : zRel σ (zDv.mk ni tx ec eo U S hh kp ou)) (hx1 : xs (i + 1) = (zI (n1 : Int))) (hx2 : xs (i + 2) = (zI (n2 : Int))) (hi0 : n1 < U.nb) (hw1 : n2 < 2) (h29 : S.n < 2) (kk : zNx p l e s m args below meth c E Q b0 i ce sl) : zV p l e room_1 s m args below meth c 9 E Q ce sl σ 1559 (lwL b0 i E) [] := by
  refine (?_ : zV p l e room_1 s m args below meth c 9 E Q ce sl σ 1559 [(0, .ref b0), (1, .ref (ob E 0)), (2, .ref (ob E 327)), (3, .ref (ob E 339)), (4, .ref (ob E 340)), (5, .int (zI (i : Int)))] [])
  have C := W.2.1
  have hfl := W.1
  have hroom : room_1.cells = 601024 ∧ room_1.slots = 7293034 := ⟨rfl, rfl⟩
  refine zv_aload_n C 1 dL_law_1559 rfl rfl ?_
  refine zv_aload_n C 0 dL_law_1560 rfl rfl ?_
  refine zv_iload C 5 dL_law_1561 rfl ?_
  refine zv_iconst (v := zI 1) C dL_law_1563 rfl ?_
  refine zv_iaddZ C dL_law_1564 ?_
  refine zv_sld (j := i + 1) (v := (zI (n1 : Int))) C W.2.2.1 W.2.2.2.1 W.2.2.2.2.1 W.2.2.2.2.2 (zI_ix (by omega)) (by omega) hx1 dL_law_1565 ?_
  refine zv_aload_n C 0 dL_law_1566 rfl rfl ?_
  refine zv_iload C 5 dL_law_1567 rfl ?_
  refine zv_iconst (v := zI 2) C dL_law_1569 rfl ?_
  refine zv_iaddZ C dL_law_1570 ?_
  refine zv_sld (j := i + 2) (v := (zI (n2 : Int))) C W.2.2.1 W.2.2.2.1 W.2.2.2.2.1 W.2.2.2.2.2 (zI_ix (by omega)) (by omega) hx2 dL_law_1571 ?_
  refine zv_aload_n C 3 dL_law_1572 rfl rfl ?_
  refine zv_cH (st := []) C (w_c_X10_bestPair hfl E σ U S n1 n2 hR.1.2.2.1 hR.1.2.2.2.1.1 (by first | assumption | omega) (by first | assumption | omega)) mL_bestPair kL_256 rfl ⟨rfl, rfl⟩ (show zfit (zrm 5 140) 5 room_1 = true from rfl) (Nat.le_of_ble_eq_true rfl) dL_law_1573 ⟨by omega, by omega⟩ (fun r1573 τ1573 hp1573 => ?_)
  obtain ⟨hr0, v9, υ9, hP9, hτ9⟩ := hp1573
  refine zv_eqi (y := zI 0) hr0 ?_
  obtain ⟨hv9, hW9⟩ := hP9
  have hF9 : zFr 318 327 σ υ9 := by first | exact hW9 | (rw [hW9]; exact (by first | exact zFr_refl _ _ _ | exact zFr_rW (zFr_refl _ _ _) (by omega) | exact zFr_rW (zFr_rW (zFr_refl _ _ _) (by omega)) (by omega) | exact qW_f _ _ _ _ | exact qM_f _ _ _ _ _ | exact rW2_f _ _ _ _ _ | exact rW3_f _ _ _ _ _ | exact alW_f _ _ _ _ _ | (split <;> first | exact zFr_refl _ _ _ | exact bW_f _ _ _ _) | assumption))
  have hR1 : zRel τ1573 (zDv.mk ni tx ec eo U S hh kp ou) := by rw [hτ9]; exact zRel_J (zRel_c hR hF9) _
  have ho9 : gJ τ1573 339 0 = v9.toInt64 := by rw [hτ9, gJ_sJ, if_pos ⟨rfl, rfl⟩]
  rw [hv9] at ho9
  refine zv_istore (lv' := [(6, .int (zI 0)), (0, .ref b0), (1, .ref (ob E 0)), (2, .ref (ob E 327)), (3, .ref (ob E 339)), (4, .ref (ob E 340)), (5, .int (zI (i : Int)))]) C dL_law_1576  (by decide) rfl ?_
  refine zv_aload_n C 3 dL_law_1578 rfl rfl ?_
  refine zv_aload_n C 1 dL_law_1579 rfl rfl ?_
  refine zv_iload C 6 dL_law_1580 rfl ?_
  refine zv_iconst (v := zI 1) C dL_law_1582 rfl ?_
  refine zv_iaddZ C dL_law_1583 ?_
  refine zv_sld (j := i + 1) (v := (zI (n1 : Int))) C W.2.2.1 W.2.2.2.1 W.2.2.2.2.1 W.2.2.2.2.2 (zI_ix (by omega)) (by omega) hx1 dL_law_1584 ?_
  refine zv_aload_n C 1 dL_law_1585 rfl rfl ?_
  refine zv_iload C 6 dL_law_1586 rfl ?_
  refine zv_iconst (v := zI 2) C dL_law_1588 rfl ?_
  refine zv_iaddZ C dL_law_1589 ?_
  refine zv_sld (j := i + 2) (v := (zI (n2 : Int))) C W.2.2.1 W.2.2.2.1 W.2.2.2.2.1 W.2.2.2.2.2 (zI_ix (by omega)) (by omega) hx2 dL_law_1590 ?_
  refine zv_cvi (st := []) C (c0_X11_bestPair hfl E τ1573 σ U S n1 n2 hR1.2.2.2.1 hR.1.2.2.1 hR1.2.2.2.2.2.1.1 hR.1.2.2.2.1.1 (by first | assumption | omega) (by first | assumption | omega) (by first | assumption | omega)) mX11_bestPair kL_258 (by decide : kd 327 = 10) rfl rfl rfl ⟨rfl, rfl⟩ (show zfit (zrm 2 46) 3 room_1 = true from rfl) (Nat.le_of_ble_eq_true rfl) dL_law_1591 ⟨by omega, by omega⟩ (fun r1591 τ1591 hp1591 => ?_)
  obtain ⟨hr2, hK2⟩ := hp1591
  refine zv_eqi (y := zI (dBp U S n1 n2)) hr2 ?_
  have hR2 : zRel τ1591 (zDv.mk ni tx ec eo U S hh kp ou) := zRel_m hR1 hK2
  have ht2 : gI τ1591 327 10 = zI 0 := hK2.2
  have hJ2 : gJ τ1591 339 0 = gJ τ1573 339 0 := hK2.1.2.1 339 0 (by decide)
  have hD2 : gD τ1591 340 0 = gD τ1573 340 0 := hK2.1.2.2 340 0
  refine zv_istore (lv' := [(7, .int (zI (dBp U S n1 n2))), (6, .int (zI 0)), (0, .ref b0), (1, .ref (ob E 0)), (2, .ref (ob E 327)), (3, .ref (ob E 339)), (4, .ref (ob E 340)), (5, .int (zI (i : Int)))]) C dL_law_1594  (by decide) rfl ?_
  refine zv_aload_n C 4 dL_law_1596 rfl rfl ?_
  refine zv_cviD (st := []) C (c_X11_thrown hfl E τ1591) mX11_thrown kL_200 (by decide : kd 327 = 10) rfl rfl rfl ⟨rfl, rfl⟩ (show zfit (zrm 0 0) 1 room_1 = true from rfl) (Nat.le_of_ble_eq_true rfl) dL_law_1597 ⟨by omega, by omega⟩ ?_
  refine zv_eqi (y := (zI 0)) (ht2) ?_
  refine zv_iload C 1 dL_law_1600 rfl ?_
  refine zv_icmp_eqZ (tgt := 1607) C (by omega) (by omega) dL_law_1602 (by decide) (fun h1602 => ?_) (fun h1602 => ?_)
  · skip
    refine zv_iload C 1 dL_law_1607 rfl ?_
    refine zv_if_neZ (tgt := 1624) C (by omega) dL_law_1609 (by decide) (fun h1609 => absurd h1609 (by decide)) (fun h1609 => ?_)
    refine zv_aload_n C 5 dL_law_1612 rfl rfl ?_
    refine zv_iconst (v := zI 0) C dL_law_1613 rfl ?_
    refine zv_lald (j := 0) C (by decide : kd 339 = _) (zI_ix (by omega)) (by decide) dL_law_1614 ?_
    refine zv_eql (y := ((zI (dBp U S n1 n2)).toInt64)) (hJ2.trans ho9) ?_
    refine zv_iload C 0 dL_law_1615 rfl ?_
    refine zv_i2l C dL_law_1617 ?_
    refine zv_lc_eq (tgt := 1624) C dL_law_1618 dL_law_1619 (by decide) (fun h1618 => ?_) (fun h1618 => ?_)
    · skip
      refine zv_goto (tgt := 3624) C dL_law_1624 (by decide) ?_
      refine zv_sub (lv' := [(0, .ref b0), (1, .ref (ob E 0)), (2, .ref (ob E 327)), (3, .ref (ob E 339)), (4, .ref (ob E 340)), (5, .int (zI (i : Int)))]) [2, 3, 4, 5, 6, 7] (zcons rfl (zcons rfl (zcons rfl (zcons rfl (zcons rfl (zcons rfl rfl)))))) ?_
      exact kk _ _ _ _ (by omega) (by omega) hR2
    · exfalso
      exact h1618 rfl
  · exfalso
    omega
set_option maxRecDepth 20000 in
theorem lw_bestPair_c_c {p : Program} {l : Launch} {e : Env} {s : State} {m : MethodId} {args : Array Value} {below : List Frame} {meth : Method} {c : Code} {E : zE} {Q : State → Prop} {b0 L i ce sl : Nat} {xs : Nat → Int32} {σ : zS} (ni : Nat) (tx : Nat → Int) (ec : Nat) (eo : Int) (U : zSU) (S : zST) (hh : List zST) (kp : Option zST) (ou : List Nat) (n1 : Nat) (n2 : Nat) (W : zLW p l s m args meth c E b0 L xs) (hi : i + 6 ≤ L) (hcs : ce + 1 ≤ room_1.cells ∧ sl + 6 ≤ room_1.slots) (hR : zRel σ (zDv.mk ni tx ec eo U S hh kp ou)) (hx1 : xs (i + 1) = (zI (n1 : Int))) (hx2 : xs (i + 2) = (zI (n2 : Int))) (hi0 : n1 < U.nb) (hw1 : n2 < 2) (h29 : 2 ≤ S.n) (kk : zNx p l e s m args below meth c E Q b0 i ce sl) : zV p l e room_1 s m args below meth c 9 E Q ce sl σ 1559 (lwL b0 i E) [] := by
  refine (?_ : zV p l e room_1 s m args below meth c 9 E Q ce sl σ 1559 [(0, .ref b0), (1, .ref (ob E 0)), (2, .ref (ob E 327)), (3, .ref (ob E 339)), (4, .ref (ob E 340)), (5, .int (zI (i : Int)))] [])
  have C := W.2.1
  have hfl := W.1
  have hroom : room_1.cells = 601024 ∧ room_1.slots = 7293034 := ⟨rfl, rfl⟩
  refine zv_aload_n C 1 dL_law_1559 rfl rfl ?_
  refine zv_aload_n C 0 dL_law_1560 rfl rfl ?_
  refine zv_iload C 5 dL_law_1561 rfl ?_
  refine zv_iconst (v := zI 1) C dL_law_1563 rfl ?_
  refine zv_iaddZ C dL_law_1564 ?_
  refine zv_sld (j := i + 1) (v := (zI (n1 : Int))) C W.2.2.1 W.2.2.2.1 W.2.2.2.2.1 W.2.2.2.2.2 (zI_ix (by omega)) (by omega) hx1 dL_law_1565 ?_
  refine zv_aload_n C 0 dL_law_1566 rfl rfl ?_
  refine zv_iload C 5 dL_law_1567 rfl ?_
  refine zv_iconst (v := zI 2) C dL_law_1569 rfl ?_
  refine zv_iaddZ C dL_law_1570 ?_
  refine zv_sld (j := i + 2) (v := (zI (n2 : Int))) C W.2.2.1 W.2.2.2.1 W.2.2.2.2.1 W.2.2.2.2.2 (zI_ix (by omega)) (by omega) hx2 dL_law_1571 ?_
  refine zv_aload_n C 3 dL_law_1572 rfl rfl ?_
  refine zv_cH (st := []) C (w_c_X10_bestPair hfl E σ U S n1 n2 hR.1.2.2.1 hR.1.2.2.2.1.1 (by first | assumption | omega) (by first | assumption | omega)) mL_bestPair kL_256 rfl ⟨rfl, rfl⟩ (show zfit (zrm 5 140) 5 room_1 = true from rfl) (Nat.le_of_ble_eq_true rfl) dL_law_1573 ⟨by omega, by omega⟩ (fun r1573 τ1573 hp1573 => ?_)
  obtain ⟨hr0, v9, υ9, hP9, hτ9⟩ := hp1573
  refine zv_eqi (y := zI 0) hr0 ?_
  obtain ⟨hv9, hW9⟩ := hP9
  have hF9 : zFr 318 327 σ υ9 := by first | exact hW9 | (rw [hW9]; exact (by first | exact zFr_refl _ _ _ | exact zFr_rW (zFr_refl _ _ _) (by omega) | exact zFr_rW (zFr_rW (zFr_refl _ _ _) (by omega)) (by omega) | exact qW_f _ _ _ _ | exact qM_f _ _ _ _ _ | exact rW2_f _ _ _ _ _ | exact rW3_f _ _ _ _ _ | exact alW_f _ _ _ _ _ | (split <;> first | exact zFr_refl _ _ _ | exact bW_f _ _ _ _) | assumption))
  have hR1 : zRel τ1573 (zDv.mk ni tx ec eo U S hh kp ou) := by rw [hτ9]; exact zRel_J (zRel_c hR hF9) _
  have ho9 : gJ τ1573 339 0 = v9.toInt64 := by rw [hτ9, gJ_sJ, if_pos ⟨rfl, rfl⟩]
  rw [hv9] at ho9
  refine zv_istore (lv' := [(6, .int (zI 0)), (0, .ref b0), (1, .ref (ob E 0)), (2, .ref (ob E 327)), (3, .ref (ob E 339)), (4, .ref (ob E 340)), (5, .int (zI (i : Int)))]) C dL_law_1576  (by decide) rfl ?_
  refine zv_aload_n C 3 dL_law_1578 rfl rfl ?_
  refine zv_aload_n C 1 dL_law_1579 rfl rfl ?_
  refine zv_iload C 6 dL_law_1580 rfl ?_
  refine zv_iconst (v := zI 1) C dL_law_1582 rfl ?_
  refine zv_iaddZ C dL_law_1583 ?_
  refine zv_sld (j := i + 1) (v := (zI (n1 : Int))) C W.2.2.1 W.2.2.2.1 W.2.2.2.2.1 W.2.2.2.2.2 (zI_ix (by omega)) (by omega) hx1 dL_law_1584 ?_
  refine zv_aload_n C 1 dL_law_1585 rfl rfl ?_
  refine zv_iload C 6 dL_law_1586 rfl ?_
  refine zv_iconst (v := zI 2) C dL_law_1588 rfl ?_
  refine zv_iaddZ C dL_law_1589 ?_
  refine zv_sld (j := i + 2) (v := (zI (n2 : Int))) C W.2.2.1 W.2.2.2.1 W.2.2.2.2.1 W.2.2.2.2.2 (zI_ix (by omega)) (by omega) hx2 dL_law_1590 ?_
  refine zv_cvi (st := []) C (c_X11_bestPair hfl E τ1573 σ U S n1 n2 hR1.2.2.2.1 hR.1.2.2.1 hR1.2.2.2.2.2.1.1 hR.1.2.2.2.1.1 (by first | assumption | omega) (by first | assumption | omega) (by first | assumption | omega)) mX11_bestPair kL_258 (by decide : kd 327 = 10) rfl rfl rfl ⟨rfl, rfl⟩ (show zfit (zrm 2 46) 3 room_1 = true from rfl) (Nat.le_of_ble_eq_true rfl) dL_law_1591 ⟨by omega, by omega⟩ (fun r1591 τ1591 hp1591 => ?_)
  obtain ⟨hr2, hK2⟩ := hp1591
  refine zv_eqi (y := zI (dBp U S n1 n2)) hr2 ?_
  have hR2 : zRel τ1591 (zDv.mk ni tx ec eo U S hh kp ou) := zRel_m hR1 hK2
  have ht2 : gI τ1591 327 10 = zI 0 := hK2.2
  have hJ2 : gJ τ1591 339 0 = gJ τ1573 339 0 := hK2.1.2.1 339 0 (by decide)
  have hD2 : gD τ1591 340 0 = gD τ1573 340 0 := hK2.1.2.2 340 0
  refine zv_istore (lv' := [(7, .int (zI (dBp U S n1 n2))), (6, .int (zI 0)), (0, .ref b0), (1, .ref (ob E 0)), (2, .ref (ob E 327)), (3, .ref (ob E 339)), (4, .ref (ob E 340)), (5, .int (zI (i : Int)))]) C dL_law_1594  (by decide) rfl ?_
  refine zv_aload_n C 4 dL_law_1596 rfl rfl ?_
  refine zv_cviD (st := []) C (c_X11_thrown hfl E τ1591) mX11_thrown kL_200 (by decide : kd 327 = 10) rfl rfl rfl ⟨rfl, rfl⟩ (show zfit (zrm 0 0) 1 room_1 = true from rfl) (Nat.le_of_ble_eq_true rfl) dL_law_1597 ⟨by omega, by omega⟩ ?_
  refine zv_eqi (y := (zI 0)) (ht2) ?_
  refine zv_iload C 1 dL_law_1600 rfl ?_
  refine zv_icmp_eqZ (tgt := 1607) C (by omega) (by omega) dL_law_1602 (by decide) (fun h1602 => ?_) (fun h1602 => ?_)
  · skip
    refine zv_iload C 1 dL_law_1607 rfl ?_
    refine zv_if_neZ (tgt := 1624) C (by omega) dL_law_1609 (by decide) (fun h1609 => absurd h1609 (by decide)) (fun h1609 => ?_)
    refine zv_aload_n C 5 dL_law_1612 rfl rfl ?_
    refine zv_iconst (v := zI 0) C dL_law_1613 rfl ?_
    refine zv_lald (j := 0) C (by decide : kd 339 = _) (zI_ix (by omega)) (by decide) dL_law_1614 ?_
    refine zv_eql (y := ((zI (dBp U S n1 n2)).toInt64)) (hJ2.trans ho9) ?_
    refine zv_iload C 0 dL_law_1615 rfl ?_
    refine zv_i2l C dL_law_1617 ?_
    refine zv_lc_eq (tgt := 1624) C dL_law_1618 dL_law_1619 (by decide) (fun h1618 => ?_) (fun h1618 => ?_)
    · skip
      refine zv_goto (tgt := 3624) C dL_law_1624 (by decide) ?_
      refine zv_sub (lv' := [(0, .ref b0), (1, .ref (ob E 0)), (2, .ref (ob E 327)), (3, .ref (ob E 339)), (4, .ref (ob E 340)), (5, .int (zI (i : Int)))]) [2, 3, 4, 5, 6, 7] (zcons rfl (zcons rfl (zcons rfl (zcons rfl (zcons rfl (zcons rfl rfl)))))) ?_
      exact kk _ _ _ _ (by omega) (by omega) hR2
    · exfalso
      exact h1618 rfl
  · exfalso
    omega
set_option maxRecDepth 20000 in
theorem lw_bestPair_x1_x1 {p : Program} {l : Launch} {e : Env} {s : State} {m : MethodId} {args : Array Value} {below : List Frame} {meth : Method} {c : Code} {E : zE} {Q : State → Prop} {b0 L i ce sl : Nat} {xs : Nat → Int32} {σ : zS} (ni : Nat) (tx : Nat → Int) (ec : Nat) (eo : Int) (U : zSU) (S : zST) (hh : List zST) (kp : Option zST) (ou : List Nat) (v1 : Int) (v2 : Int) (W : zLW p l s m args meth c E b0 L xs) (hi : i + 6 ≤ L) (hcs : ce + 1 ≤ room_1.cells ∧ sl + 6 ≤ room_1.slots) (hR : zRel σ (zDv.mk ni tx ec eo U S hh kp ou)) (hx1 : xs (i + 1) = (zI v1)) (hx2 : xs (i + 2) = (zI v2)) (hbi0 : -2147483648 ≤ v1 ∧ v1 < 2147483648) (hno1 : ¬ (0 ≤ v1 ∧ v1 < U.nb))  (kk : zNx p l e s m args below meth c E Q b0 i ce sl) : zV p l e room_1 s m args below meth c 9 E Q ce sl σ 1559 (lwL b0 i E) [] := by
  refine (?_ : zV p l e room_1 s m args below meth c 9 E Q ce sl σ 1559 [(0, .ref b0), (1, .ref (ob E 0)), (2, .ref (ob E 327)), (3, .ref (ob E 339)), (4, .ref (ob E 340)), (5, .int (zI (i : Int)))] [])
  have C := W.2.1
  have hfl := W.1
  have hroom : room_1.cells = 601024 ∧ room_1.slots = 7293034 := ⟨rfl, rfl⟩
  refine zv_aload_n C 1 dL_law_1559 rfl rfl ?_
  refine zv_aload_n C 0 dL_law_1560 rfl rfl ?_
  refine zv_iload C 5 dL_law_1561 rfl ?_
  refine zv_iconst (v := zI 1) C dL_law_1563 rfl ?_
  refine zv_iaddZ C dL_law_1564 ?_
  refine zv_sld (j := i + 1) (v := (zI v1)) C W.2.2.1 W.2.2.2.1 W.2.2.2.2.1 W.2.2.2.2.2 (zI_ix (by omega)) (by omega) hx1 dL_law_1565 ?_
  refine zv_aload_n C 0 dL_law_1566 rfl rfl ?_
  refine zv_iload C 5 dL_law_1567 rfl ?_
  refine zv_iconst (v := zI 2) C dL_law_1569 rfl ?_
  refine zv_iaddZ C dL_law_1570 ?_
  refine zv_sld (j := i + 2) (v := (zI v2)) C W.2.2.1 W.2.2.2.1 W.2.2.2.2.1 W.2.2.2.2.2 (zI_ix (by omega)) (by omega) hx2 dL_law_1571 ?_
  refine zv_aload_n C 3 dL_law_1572 rfl rfl ?_
  refine zv_cH (st := []) C (w_x1_X10_bestPair hfl E σ U v1 v2 hR.1.2.2.1 (by first | assumption | omega) (by first | assumption | omega)) mL_bestPair kL_256 rfl ⟨rfl, rfl⟩ (show zfit (zrx 10 222) 5 room_1 = true from rfl) (Nat.le_of_ble_eq_true rfl) dL_law_1573 ⟨by exact hcs.1, by exact hcs.2⟩ (fun r1573 τ1573 hp1573 => ?_)
  obtain ⟨hr0, hP9⟩ := hp1573
  refine zv_eqi (y := zI 1) hr0 ?_
  have hF9 : zFr 318 327 σ τ1573 := by rw [hP9]; exact (by first | exact zFr_refl _ _ _ | exact zFr_rW (zFr_refl _ _ _) (by omega) | exact zFr_rW (zFr_rW (zFr_refl _ _ _) (by omega)) (by omega) | exact qW_f _ _ _ _ | exact qM_f _ _ _ _ _ | exact rW2_f _ _ _ _ _ | exact rW3_f _ _ _ _ _ | exact alW_f _ _ _ _ _ | (split <;> first | exact zFr_refl _ _ _ | exact bW_f _ _ _ _) | assumption)
  have hR1 : zRel τ1573 (zDv.mk ni tx ec eo U S hh kp ou) := zRel_c hR hF9
  refine zv_istore (lv' := [(6, .int (zI 1)), (0, .ref b0), (1, .ref (ob E 0)), (2, .ref (ob E 327)), (3, .ref (ob E 339)), (4, .ref (ob E 340)), (5, .int (zI (i : Int)))]) C dL_law_1576  (by decide) rfl ?_
  refine zv_aload_n C 3 dL_law_1578 rfl rfl ?_
  refine zv_aload_n C 1 dL_law_1579 rfl rfl ?_
  refine zv_iload C 6 dL_law_1580 rfl ?_
  refine zv_iconst (v := zI 1) C dL_law_1582 rfl ?_
  refine zv_iaddZ C dL_law_1583 ?_
  refine zv_sld (j := i + 1) (v := (zI v1)) C W.2.2.1 W.2.2.2.1 W.2.2.2.2.1 W.2.2.2.2.2 (zI_ix (by omega)) (by omega) hx1 dL_law_1584 ?_
  refine zv_aload_n C 1 dL_law_1585 rfl rfl ?_
  refine zv_iload C 6 dL_law_1586 rfl ?_
  refine zv_iconst (v := zI 2) C dL_law_1588 rfl ?_
  refine zv_iaddZ C dL_law_1589 ?_
  refine zv_sld (j := i + 2) (v := (zI v2)) C W.2.2.1 W.2.2.2.1 W.2.2.2.2.1 W.2.2.2.2.2 (zI_ix (by omega)) (by omega) hx2 dL_law_1590 ?_
  refine zv_cvi (st := []) C (x1_X11_bestPair hfl E τ1573 σ U v1 v2 hR1.2.2.2.1 hR.1.2.2.1 (by first | assumption | omega) (by first | assumption | omega)) mX11_bestPair kL_258 (by decide : kd 327 = 10) rfl rfl rfl ⟨rfl, rfl⟩ (show zfit (zrm 2 46) 3 room_1 = true from rfl) (Nat.le_of_ble_eq_true rfl) dL_law_1591 ⟨by omega, by omega⟩ (fun r1591 τ1591 hp1591 => ?_)
  obtain ⟨hr2, hK2⟩ := hp1591
  refine zv_eqi (y := zI 0) hr2 ?_
  have hR2 : zRel τ1591 (zDv.mk ni tx ec eo U S hh kp ou) := zRel_m hR1 hK2
  have ht2 : gI τ1591 327 10 = zI 1 := hK2.2
  have hJ2 : gJ τ1591 339 0 = gJ τ1573 339 0 := hK2.1.2.1 339 0 (by decide)
  have hD2 : gD τ1591 340 0 = gD τ1573 340 0 := hK2.1.2.2 340 0
  refine zv_istore (lv' := [(7, .int (zI 0)), (6, .int (zI 1)), (0, .ref b0), (1, .ref (ob E 0)), (2, .ref (ob E 327)), (3, .ref (ob E 339)), (4, .ref (ob E 340)), (5, .int (zI (i : Int)))]) C dL_law_1594  (by decide) rfl ?_
  refine zv_aload_n C 4 dL_law_1596 rfl rfl ?_
  refine zv_cviD (st := []) C (c_X11_thrown hfl E τ1591) mX11_thrown kL_200 (by decide : kd 327 = 10) rfl rfl rfl ⟨rfl, rfl⟩ (show zfit (zrm 0 0) 1 room_1 = true from rfl) (Nat.le_of_ble_eq_true rfl) dL_law_1597 ⟨by omega, by omega⟩ ?_
  refine zv_eqi (y := (zI 1)) (ht2) ?_
  refine zv_iload C 1 dL_law_1600 rfl ?_
  refine zv_icmp_eqZ (tgt := 1607) C (by omega) (by omega) dL_law_1602 (by decide) (fun h1602 => ?_) (fun h1602 => ?_)
  · skip
    refine zv_iload C 1 dL_law_1607 rfl ?_
    refine zv_if_neZ (tgt := 1624) C (by omega) dL_law_1609 (by decide) (fun h1609 => ?_) (fun h1609 => absurd h1609 (by decide))
    refine zv_goto (tgt := 3624) C dL_law_1624 (by decide) ?_
    refine zv_sub (lv' := [(0, .ref b0), (1, .ref (ob E 0)), (2, .ref (ob E 327)), (3, .ref (ob E 339)), (4, .ref (ob E 340)), (5, .int (zI (i : Int)))]) [2, 3, 4, 5, 6, 7] (zcons rfl (zcons rfl (zcons rfl (zcons rfl (zcons rfl (zcons rfl rfl)))))) ?_
    exact kk _ _ _ _ (by omega) (by omega) hR2
  · exfalso
    omega
set_option maxRecDepth 20000 in
theorem lw_bestPair_x2_x2 {p : Program} {l : Launch} {e : Env} {s : State} {m : MethodId} {args : Array Value} {below : List Frame} {meth : Method} {c : Code} {E : zE} {Q : State → Prop} {b0 L i ce sl : Nat} {xs : Nat → Int32} {σ : zS} (ni : Nat) (tx : Nat → Int) (ec : Nat) (eo : Int) (U : zSU) (S : zST) (hh : List zST) (kp : Option zST) (ou : List Nat) (n1 : Nat) (v2 : Int) (W : zLW p l s m args meth c E b0 L xs) (hi : i + 6 ≤ L) (hcs : ce + 1 ≤ room_1.cells ∧ sl + 6 ≤ room_1.slots) (hR : zRel σ (zDv.mk ni tx ec eo U S hh kp ou)) (hx1 : xs (i + 1) = (zI (n1 : Int))) (hx2 : xs (i + 2) = (zI v2)) (hi0 : n1 < U.nb) (hyi1 : -2147483648 ≤ v2 ∧ v2 < 2147483648) (hno2 : ¬ (0 ≤ v2 ∧ v2 ≤ 1))  (kk : zNx p l e s m args below meth c E Q b0 i ce sl) : zV p l e room_1 s m args below meth c 9 E Q ce sl σ 1559 (lwL b0 i E) [] := by
  refine (?_ : zV p l e room_1 s m args below meth c 9 E Q ce sl σ 1559 [(0, .ref b0), (1, .ref (ob E 0)), (2, .ref (ob E 327)), (3, .ref (ob E 339)), (4, .ref (ob E 340)), (5, .int (zI (i : Int)))] [])
  have C := W.2.1
  have hfl := W.1
  have hroom : room_1.cells = 601024 ∧ room_1.slots = 7293034 := ⟨rfl, rfl⟩
  refine zv_aload_n C 1 dL_law_1559 rfl rfl ?_
  refine zv_aload_n C 0 dL_law_1560 rfl rfl ?_
  refine zv_iload C 5 dL_law_1561 rfl ?_
  refine zv_iconst (v := zI 1) C dL_law_1563 rfl ?_
  refine zv_iaddZ C dL_law_1564 ?_
  refine zv_sld (j := i + 1) (v := (zI (n1 : Int))) C W.2.2.1 W.2.2.2.1 W.2.2.2.2.1 W.2.2.2.2.2 (zI_ix (by omega)) (by omega) hx1 dL_law_1565 ?_
  refine zv_aload_n C 0 dL_law_1566 rfl rfl ?_
  refine zv_iload C 5 dL_law_1567 rfl ?_
  refine zv_iconst (v := zI 2) C dL_law_1569 rfl ?_
  refine zv_iaddZ C dL_law_1570 ?_
  refine zv_sld (j := i + 2) (v := (zI v2)) C W.2.2.1 W.2.2.2.1 W.2.2.2.2.1 W.2.2.2.2.2 (zI_ix (by omega)) (by omega) hx2 dL_law_1571 ?_
  refine zv_aload_n C 3 dL_law_1572 rfl rfl ?_
  refine zv_cH (st := []) C (w_x2_X10_bestPair hfl E σ U S n1 v2 hR.1.2.2.1 (by first | assumption | omega) (by first | assumption | omega) (by first | assumption | omega)) mL_bestPair kL_256 rfl ⟨rfl, rfl⟩ (show zfit (zrx 10 222) 5 room_1 = true from rfl) (Nat.le_of_ble_eq_true rfl) dL_law_1573 ⟨by exact hcs.1, by exact hcs.2⟩ (fun r1573 τ1573 hp1573 => ?_)
  obtain ⟨hr0, hP9⟩ := hp1573
  refine zv_eqi (y := zI 2) hr0 ?_
  have hF9 : zFr 318 327 σ τ1573 := by rw [hP9]; exact (by first | exact zFr_refl _ _ _ | exact zFr_rW (zFr_refl _ _ _) (by omega) | exact zFr_rW (zFr_rW (zFr_refl _ _ _) (by omega)) (by omega) | exact qW_f _ _ _ _ | exact qM_f _ _ _ _ _ | exact rW2_f _ _ _ _ _ | exact rW3_f _ _ _ _ _ | exact alW_f _ _ _ _ _ | (split <;> first | exact zFr_refl _ _ _ | exact bW_f _ _ _ _) | assumption)
  have hR1 : zRel τ1573 (zDv.mk ni tx ec eo U S hh kp ou) := zRel_c hR hF9
  refine zv_istore (lv' := [(6, .int (zI 2)), (0, .ref b0), (1, .ref (ob E 0)), (2, .ref (ob E 327)), (3, .ref (ob E 339)), (4, .ref (ob E 340)), (5, .int (zI (i : Int)))]) C dL_law_1576  (by decide) rfl ?_
  refine zv_aload_n C 3 dL_law_1578 rfl rfl ?_
  refine zv_aload_n C 1 dL_law_1579 rfl rfl ?_
  refine zv_iload C 6 dL_law_1580 rfl ?_
  refine zv_iconst (v := zI 1) C dL_law_1582 rfl ?_
  refine zv_iaddZ C dL_law_1583 ?_
  refine zv_sld (j := i + 1) (v := (zI (n1 : Int))) C W.2.2.1 W.2.2.2.1 W.2.2.2.2.1 W.2.2.2.2.2 (zI_ix (by omega)) (by omega) hx1 dL_law_1584 ?_
  refine zv_aload_n C 1 dL_law_1585 rfl rfl ?_
  refine zv_iload C 6 dL_law_1586 rfl ?_
  refine zv_iconst (v := zI 2) C dL_law_1588 rfl ?_
  refine zv_iaddZ C dL_law_1589 ?_
  refine zv_sld (j := i + 2) (v := (zI v2)) C W.2.2.1 W.2.2.2.1 W.2.2.2.2.1 W.2.2.2.2.2 (zI_ix (by omega)) (by omega) hx2 dL_law_1590 ?_
  refine zv_cvi (st := []) C (x2_X11_bestPair hfl E τ1573 σ U n1 v2 hR1.2.2.2.1 hR.1.2.2.1 (by first | assumption | omega) (by first | assumption | omega) (by first | assumption | omega)) mX11_bestPair kL_258 (by decide : kd 327 = 10) rfl rfl rfl ⟨rfl, rfl⟩ (show zfit (zrm 2 46) 3 room_1 = true from rfl) (Nat.le_of_ble_eq_true rfl) dL_law_1591 ⟨by omega, by omega⟩ (fun r1591 τ1591 hp1591 => ?_)
  obtain ⟨hr2, hK2⟩ := hp1591
  refine zv_eqi (y := zI 0) hr2 ?_
  have hR2 : zRel τ1591 (zDv.mk ni tx ec eo U S hh kp ou) := zRel_m hR1 hK2
  have ht2 : gI τ1591 327 10 = zI 2 := hK2.2
  have hJ2 : gJ τ1591 339 0 = gJ τ1573 339 0 := hK2.1.2.1 339 0 (by decide)
  have hD2 : gD τ1591 340 0 = gD τ1573 340 0 := hK2.1.2.2 340 0
  refine zv_istore (lv' := [(7, .int (zI 0)), (6, .int (zI 2)), (0, .ref b0), (1, .ref (ob E 0)), (2, .ref (ob E 327)), (3, .ref (ob E 339)), (4, .ref (ob E 340)), (5, .int (zI (i : Int)))]) C dL_law_1594  (by decide) rfl ?_
  refine zv_aload_n C 4 dL_law_1596 rfl rfl ?_
  refine zv_cviD (st := []) C (c_X11_thrown hfl E τ1591) mX11_thrown kL_200 (by decide : kd 327 = 10) rfl rfl rfl ⟨rfl, rfl⟩ (show zfit (zrm 0 0) 1 room_1 = true from rfl) (Nat.le_of_ble_eq_true rfl) dL_law_1597 ⟨by omega, by omega⟩ ?_
  refine zv_eqi (y := (zI 2)) (ht2) ?_
  refine zv_iload C 1 dL_law_1600 rfl ?_
  refine zv_icmp_eqZ (tgt := 1607) C (by omega) (by omega) dL_law_1602 (by decide) (fun h1602 => ?_) (fun h1602 => ?_)
  · skip
    refine zv_iload C 1 dL_law_1607 rfl ?_
    refine zv_if_neZ (tgt := 1624) C (by omega) dL_law_1609 (by decide) (fun h1609 => ?_) (fun h1609 => absurd h1609 (by decide))
    refine zv_goto (tgt := 3624) C dL_law_1624 (by decide) ?_
    refine zv_sub (lv' := [(0, .ref b0), (1, .ref (ob E 0)), (2, .ref (ob E 327)), (3, .ref (ob E 339)), (4, .ref (ob E 340)), (5, .int (zI (i : Int)))]) [2, 3, 4, 5, 6, 7] (zcons rfl (zcons rfl (zcons rfl (zcons rfl (zcons rfl (zcons rfl rfl)))))) ?_
    exact kk _ _ _ _ (by omega) (by omega) hR2
  · exfalso
    omega
theorem LK_23 {p : Program} {l : Launch} {e : Env} {s : State} {m : MethodId} {args : Array Value} {below : List Frame} {meth : Method} {c : Code} {E : zE} {Q : State → Prop} {b0 L i ce sl : Nat} {xs : Nat → Int32} {σ : zS} (ni : Nat) (tx : Nat → Int) (ec : Nat) (eo : Int) (U : zSU) (S : zST) (hh : List zST) (kp : Option zST) (ou : List Nat) (hFN : zFN) (W : zLW p l s m args meth c E b0 L xs) (hi : i + 6 ≤ L) (hcs : ce + 1 ≤ room_1.cells ∧ sl + 6 ≤ room_1.slots) (hR : zRel σ (zDv.mk ni tx ec eo U S hh kp ou)) (kk : zNx p l e s m args below meth c E Q b0 i ce sl) : zV p l e room_1 s m args below meth c 9 E Q ce sl σ 1559 (lwL b0 i E) [] := by
  obtain ⟨v1, hx1, hv1⟩ := zI_cov (xs (i + 1))
  obtain ⟨v2, hx2, hv2⟩ := zI_cov (xs (i + 2))
  by_cases g1 : 0 ≤ v1 ∧ v1 < U.nb
  case neg =>
    exact lw_bestPair_x1_x1 _ _ _ _ _ _ _ _ _ _ _ W hi hcs hR hx1 hx2 (by first | assumption | omega) (by first | assumption | omega) kk
  obtain ⟨n1, rfl⟩ := Int.eq_ofNat_of_zero_le (show 0 ≤ v1 by omega)
  by_cases g2 : 0 ≤ v2 ∧ v2 ≤ 1
  case neg =>
    exact lw_bestPair_x2_x2 _ _ _ _ _ _ _ _ _ _ _ W hi hcs hR hx1 hx2 (by first | assumption | omega) (by first | assumption | omega) (by first | assumption | omega) kk
  obtain ⟨n2, rfl⟩ := Int.eq_ofNat_of_zero_le (show 0 ≤ v2 by omega)
  by_cases g3 : 2 ≤ S.n
  case neg =>
    exact lw_bestPair_c_c0 _ _ _ _ _ _ _ _ _ _ _ W hi hcs hR hx1 hx2 (by first | assumption | omega) (by first | assumption | omega) (by first | assumption | omega) kk
  exact lw_bestPair_c_c _ _ _ _ _ _ _ _ _ _ _ W hi hcs hR hx1 hx2 (by first | assumption | omega) (by first | assumption | omega) (by first | assumption | omega) kk
theorem dL_law_1627 : decode cL_law 1627 = .ok (.aload_n 1, 1) := by decide +kernel
theorem dL_law_1628 : decode cL_law 1628 = .ok (.aload_n 0, 1) := by decide +kernel
theorem dL_law_1629 : decode cL_law 1629 = .ok (.iload 5, 2) := by decide +kernel
theorem dL_law_1631 : decode cL_law 1631 = .ok (.iconst 1, 1) := by decide +kernel
theorem dL_law_1632 : decode cL_law 1632 = .ok (.iadd, 1) := by decide +kernel
theorem dL_law_1633 : decode cL_law 1633 = .ok (.iaload, 1) := by decide +kernel
theorem dL_law_1634 : decode cL_law 1634 = .ok (.aload_n 0, 1) := by decide +kernel
theorem dL_law_1635 : decode cL_law 1635 = .ok (.iload 5, 2) := by decide +kernel
theorem dL_law_1637 : decode cL_law 1637 = .ok (.iconst 2, 1) := by decide +kernel
theorem dL_law_1638 : decode cL_law 1638 = .ok (.iadd, 1) := by decide +kernel
theorem dL_law_1639 : decode cL_law 1639 = .ok (.iaload, 1) := by decide +kernel
theorem dL_law_1640 : decode cL_law 1640 = .ok (.aload_n 3, 1) := by decide +kernel
theorem dL_law_1641 : decode cL_law 1641 = .ok (.invokestatic 259, 3) := by decide +kernel
theorem dL_law_1644 : decode cL_law 1644 = .ok (.istore 6, 2) := by decide +kernel
theorem dL_law_1646 : decode cL_law 1646 = .ok (.aload_n 2, 1) := by decide +kernel
theorem dL_law_1647 : decode cL_law 1647 = .ok (.aload_n 0, 1) := by decide +kernel
theorem dL_law_1648 : decode cL_law 1648 = .ok (.iload 5, 2) := by decide +kernel
theorem dL_law_1650 : decode cL_law 1650 = .ok (.iconst 1, 1) := by decide +kernel
theorem dL_law_1651 : decode cL_law 1651 = .ok (.iadd, 1) := by decide +kernel
theorem dL_law_1652 : decode cL_law 1652 = .ok (.iaload, 1) := by decide +kernel
theorem dL_law_1653 : decode cL_law 1653 = .ok (.aload_n 0, 1) := by decide +kernel
theorem dL_law_1654 : decode cL_law 1654 = .ok (.iload 5, 2) := by decide +kernel
theorem dL_law_1656 : decode cL_law 1656 = .ok (.iconst 2, 1) := by decide +kernel
theorem dL_law_1657 : decode cL_law 1657 = .ok (.iadd, 1) := by decide +kernel
theorem dL_law_1658 : decode cL_law 1658 = .ok (.iaload, 1) := by decide +kernel
theorem dL_law_1659 : decode cL_law 1659 = .ok (.invokevirtual 261, 3) := by decide +kernel
theorem dL_law_1662 : decode cL_law 1662 = .ok (.istore 7, 2) := by decide +kernel
theorem dL_law_1664 : decode cL_law 1664 = .ok (.aload_n 2, 1) := by decide +kernel
theorem dL_law_1665 : decode cL_law 1665 = .ok (.invokevirtual 200, 3) := by decide +kernel
theorem dL_law_1668 : decode cL_law 1668 = .ok (.iload 6, 2) := by decide +kernel
theorem dL_law_1670 : decode cL_law 1670 = .ok (.if_icmp .eq 5, 3) := by decide +kernel
theorem dL_law_1673 : decode cL_law 1673 = .ok (.iconst 0, 1) := by decide +kernel
theorem dL_law_1674 : decode cL_law 1674 = .ok (.ireturn, 1) := by decide +kernel
theorem dL_law_1675 : decode cL_law 1675 = .ok (.iload 6, 2) := by decide +kernel
theorem dL_law_1677 : decode cL_law 1677 = .ok (.ifCond .ne 15, 3) := by decide +kernel
theorem dL_law_1680 : decode cL_law 1680 = .ok (.aload_n 3, 1) := by decide +kernel
theorem dL_law_1681 : decode cL_law 1681 = .ok (.iconst 0, 1) := by decide +kernel
theorem dL_law_1682 : decode cL_law 1682 = .ok (.laload, 1) := by decide +kernel
theorem dL_law_1683 : decode cL_law 1683 = .ok (.iload 7, 2) := by decide +kernel
theorem dL_law_1685 : decode cL_law 1685 = .ok (.i2l, 1) := by decide +kernel
theorem dL_law_1686 : decode cL_law 1686 = .ok (.lcmp, 1) := by decide +kernel
theorem dL_law_1687 : decode cL_law 1687 = .ok (.ifCond .eq 5, 3) := by decide +kernel
theorem dL_law_1690 : decode cL_law 1690 = .ok (.iconst 0, 1) := by decide +kernel
theorem dL_law_1691 : decode cL_law 1691 = .ok (.ireturn, 1) := by decide +kernel
theorem dL_law_1692 : decode cL_law 1692 = .ok (.goto 1932, 3) := by decide +kernel
set_option maxRecDepth 20000 in
theorem lw_bestTrain_c_c0 {p : Program} {l : Launch} {e : Env} {s : State} {m : MethodId} {args : Array Value} {below : List Frame} {meth : Method} {c : Code} {E : zE} {Q : State → Prop} {b0 L i ce sl : Nat} {xs : Nat → Int32} {σ : zS} (ni : Nat) (tx : Nat → Int) (ec : Nat) (eo : Int) (U : zSU) (S : zST) (hh : List zST) (kp : Option zST) (ou : List Nat) (n1 : Nat) (n2 : Nat) (W : zLW p l s m args meth c E b0 L xs) (hi : i + 6 ≤ L) (hcs : ce + 1 ≤ room_1.cells ∧ sl + 6 ≤ room_1.slots) (hR : zRel σ (zDv.mk ni tx ec eo U S hh kp ou)) (hx1 : xs (i + 1) = (zI (n1 : Int))) (hx2 : xs (i + 2) = (zI (n2 : Int))) (hi0 : n1 < U.nb) (hw1 : n2 < 4) (h29 : S.n < 2) (kk : zNx p l e s m args below meth c E Q b0 i ce sl) : zV p l e room_1 s m args below meth c 9 E Q ce sl σ 1627 (lwL b0 i E) [] := by
  refine (?_ : zV p l e room_1 s m args below meth c 9 E Q ce sl σ 1627 [(0, .ref b0), (1, .ref (ob E 0)), (2, .ref (ob E 327)), (3, .ref (ob E 339)), (4, .ref (ob E 340)), (5, .int (zI (i : Int)))] [])
  have C := W.2.1
  have hfl := W.1
  have hroom : room_1.cells = 601024 ∧ room_1.slots = 7293034 := ⟨rfl, rfl⟩
  refine zv_aload_n C 1 dL_law_1627 rfl rfl ?_
  refine zv_aload_n C 0 dL_law_1628 rfl rfl ?_
  refine zv_iload C 5 dL_law_1629 rfl ?_
  refine zv_iconst (v := zI 1) C dL_law_1631 rfl ?_
  refine zv_iaddZ C dL_law_1632 ?_
  refine zv_sld (j := i + 1) (v := (zI (n1 : Int))) C W.2.2.1 W.2.2.2.1 W.2.2.2.2.1 W.2.2.2.2.2 (zI_ix (by omega)) (by omega) hx1 dL_law_1633 ?_
  refine zv_aload_n C 0 dL_law_1634 rfl rfl ?_
  refine zv_iload C 5 dL_law_1635 rfl ?_
  refine zv_iconst (v := zI 2) C dL_law_1637 rfl ?_
  refine zv_iaddZ C dL_law_1638 ?_
  refine zv_sld (j := i + 2) (v := (zI (n2 : Int))) C W.2.2.1 W.2.2.2.1 W.2.2.2.2.1 W.2.2.2.2.2 (zI_ix (by omega)) (by omega) hx2 dL_law_1639 ?_
  refine zv_aload_n C 3 dL_law_1640 rfl rfl ?_
  refine zv_cH (st := []) C (w_c_X10_bestTrain hfl E σ U S n1 n2 hR.1.2.2.1 hR.1.2.2.2.1.1 (by first | assumption | omega) (by first | assumption | omega)) mL_bestTrain kL_259 rfl ⟨rfl, rfl⟩ (show zfit (zrm 6 165) 5 room_1 = true from rfl) (Nat.le_of_ble_eq_true rfl) dL_law_1641 ⟨by omega, by omega⟩ (fun r1641 τ1641 hp1641 => ?_)
  obtain ⟨hr0, v9, υ9, hP9, hτ9⟩ := hp1641
  refine zv_eqi (y := zI 0) hr0 ?_
  obtain ⟨hv9, hW9⟩ := hP9
  have hF9 : zFr 318 327 σ υ9 := by first | exact hW9 | (rw [hW9]; exact (by first | exact zFr_refl _ _ _ | exact zFr_rW (zFr_refl _ _ _) (by omega) | exact zFr_rW (zFr_rW (zFr_refl _ _ _) (by omega)) (by omega) | exact qW_f _ _ _ _ | exact qM_f _ _ _ _ _ | exact rW2_f _ _ _ _ _ | exact rW3_f _ _ _ _ _ | exact alW_f _ _ _ _ _ | (split <;> first | exact zFr_refl _ _ _ | exact bW_f _ _ _ _) | assumption))
  have hR1 : zRel τ1641 (zDv.mk ni tx ec eo U S hh kp ou) := by rw [hτ9]; exact zRel_J (zRel_c hR hF9) _
  have ho9 : gJ τ1641 339 0 = v9.toInt64 := by rw [hτ9, gJ_sJ, if_pos ⟨rfl, rfl⟩]
  rw [hv9] at ho9
  refine zv_istore (lv' := [(6, .int (zI 0)), (0, .ref b0), (1, .ref (ob E 0)), (2, .ref (ob E 327)), (3, .ref (ob E 339)), (4, .ref (ob E 340)), (5, .int (zI (i : Int)))]) C dL_law_1644  (by decide) rfl ?_
  refine zv_aload_n C 3 dL_law_1646 rfl rfl ?_
  refine zv_aload_n C 1 dL_law_1647 rfl rfl ?_
  refine zv_iload C 6 dL_law_1648 rfl ?_
  refine zv_iconst (v := zI 1) C dL_law_1650 rfl ?_
  refine zv_iaddZ C dL_law_1651 ?_
  refine zv_sld (j := i + 1) (v := (zI (n1 : Int))) C W.2.2.1 W.2.2.2.1 W.2.2.2.2.1 W.2.2.2.2.2 (zI_ix (by omega)) (by omega) hx1 dL_law_1652 ?_
  refine zv_aload_n C 1 dL_law_1653 rfl rfl ?_
  refine zv_iload C 6 dL_law_1654 rfl ?_
  refine zv_iconst (v := zI 2) C dL_law_1656 rfl ?_
  refine zv_iaddZ C dL_law_1657 ?_
  refine zv_sld (j := i + 2) (v := (zI (n2 : Int))) C W.2.2.1 W.2.2.2.1 W.2.2.2.2.1 W.2.2.2.2.2 (zI_ix (by omega)) (by omega) hx2 dL_law_1658 ?_
  refine zv_cvi (st := []) C (c0_X11_bestTrain hfl E τ1641 σ U S n1 n2 hR1.2.2.2.1 hR.1.2.2.1 hR1.2.2.2.2.2.1.1 hR.1.2.2.2.1.1 (by first | assumption | omega) (by first | assumption | omega) (by first | assumption | omega)) mX11_bestTrain kL_261 (by decide : kd 327 = 10) rfl rfl rfl ⟨rfl, rfl⟩ (show zfit (zrm 2 46) 3 room_1 = true from rfl) (Nat.le_of_ble_eq_true rfl) dL_law_1659 ⟨by omega, by omega⟩ (fun r1659 τ1659 hp1659 => ?_)
  obtain ⟨hr2, hK2⟩ := hp1659
  refine zv_eqi (y := zI (dBt U S n1 n2)) hr2 ?_
  have hR2 : zRel τ1659 (zDv.mk ni tx ec eo U S hh kp ou) := zRel_m hR1 hK2
  have ht2 : gI τ1659 327 10 = zI 0 := hK2.2
  have hJ2 : gJ τ1659 339 0 = gJ τ1641 339 0 := hK2.1.2.1 339 0 (by decide)
  have hD2 : gD τ1659 340 0 = gD τ1641 340 0 := hK2.1.2.2 340 0
  refine zv_istore (lv' := [(7, .int (zI (dBt U S n1 n2))), (6, .int (zI 0)), (0, .ref b0), (1, .ref (ob E 0)), (2, .ref (ob E 327)), (3, .ref (ob E 339)), (4, .ref (ob E 340)), (5, .int (zI (i : Int)))]) C dL_law_1662  (by decide) rfl ?_
  refine zv_aload_n C 4 dL_law_1664 rfl rfl ?_
  refine zv_cviD (st := []) C (c_X11_thrown hfl E τ1659) mX11_thrown kL_200 (by decide : kd 327 = 10) rfl rfl rfl ⟨rfl, rfl⟩ (show zfit (zrm 0 0) 1 room_1 = true from rfl) (Nat.le_of_ble_eq_true rfl) dL_law_1665 ⟨by omega, by omega⟩ ?_
  refine zv_eqi (y := (zI 0)) (ht2) ?_
  refine zv_iload C 1 dL_law_1668 rfl ?_
  refine zv_icmp_eqZ (tgt := 1675) C (by omega) (by omega) dL_law_1670 (by decide) (fun h1670 => ?_) (fun h1670 => ?_)
  · skip
    refine zv_iload C 1 dL_law_1675 rfl ?_
    refine zv_if_neZ (tgt := 1692) C (by omega) dL_law_1677 (by decide) (fun h1677 => absurd h1677 (by decide)) (fun h1677 => ?_)
    refine zv_aload_n C 5 dL_law_1680 rfl rfl ?_
    refine zv_iconst (v := zI 0) C dL_law_1681 rfl ?_
    refine zv_lald (j := 0) C (by decide : kd 339 = _) (zI_ix (by omega)) (by decide) dL_law_1682 ?_
    refine zv_eql (y := ((zI (dBt U S n1 n2)).toInt64)) (hJ2.trans ho9) ?_
    refine zv_iload C 0 dL_law_1683 rfl ?_
    refine zv_i2l C dL_law_1685 ?_
    refine zv_lc_eq (tgt := 1692) C dL_law_1686 dL_law_1687 (by decide) (fun h1686 => ?_) (fun h1686 => ?_)
    · skip
      refine zv_goto (tgt := 3624) C dL_law_1692 (by decide) ?_
      refine zv_sub (lv' := [(0, .ref b0), (1, .ref (ob E 0)), (2, .ref (ob E 327)), (3, .ref (ob E 339)), (4, .ref (ob E 340)), (5, .int (zI (i : Int)))]) [2, 3, 4, 5, 6, 7] (zcons rfl (zcons rfl (zcons rfl (zcons rfl (zcons rfl (zcons rfl rfl)))))) ?_
      exact kk _ _ _ _ (by omega) (by omega) hR2
    · exfalso
      exact h1686 rfl
  · exfalso
    omega
set_option maxRecDepth 20000 in
theorem lw_bestTrain_c_c {p : Program} {l : Launch} {e : Env} {s : State} {m : MethodId} {args : Array Value} {below : List Frame} {meth : Method} {c : Code} {E : zE} {Q : State → Prop} {b0 L i ce sl : Nat} {xs : Nat → Int32} {σ : zS} (ni : Nat) (tx : Nat → Int) (ec : Nat) (eo : Int) (U : zSU) (S : zST) (hh : List zST) (kp : Option zST) (ou : List Nat) (n1 : Nat) (n2 : Nat) (W : zLW p l s m args meth c E b0 L xs) (hi : i + 6 ≤ L) (hcs : ce + 1 ≤ room_1.cells ∧ sl + 6 ≤ room_1.slots) (hR : zRel σ (zDv.mk ni tx ec eo U S hh kp ou)) (hx1 : xs (i + 1) = (zI (n1 : Int))) (hx2 : xs (i + 2) = (zI (n2 : Int))) (hi0 : n1 < U.nb) (hw1 : n2 < 4) (h29 : 2 ≤ S.n) (kk : zNx p l e s m args below meth c E Q b0 i ce sl) : zV p l e room_1 s m args below meth c 9 E Q ce sl σ 1627 (lwL b0 i E) [] := by
  refine (?_ : zV p l e room_1 s m args below meth c 9 E Q ce sl σ 1627 [(0, .ref b0), (1, .ref (ob E 0)), (2, .ref (ob E 327)), (3, .ref (ob E 339)), (4, .ref (ob E 340)), (5, .int (zI (i : Int)))] [])
  have C := W.2.1
  have hfl := W.1
  have hroom : room_1.cells = 601024 ∧ room_1.slots = 7293034 := ⟨rfl, rfl⟩
  refine zv_aload_n C 1 dL_law_1627 rfl rfl ?_
  refine zv_aload_n C 0 dL_law_1628 rfl rfl ?_
  refine zv_iload C 5 dL_law_1629 rfl ?_
  refine zv_iconst (v := zI 1) C dL_law_1631 rfl ?_
  refine zv_iaddZ C dL_law_1632 ?_
  refine zv_sld (j := i + 1) (v := (zI (n1 : Int))) C W.2.2.1 W.2.2.2.1 W.2.2.2.2.1 W.2.2.2.2.2 (zI_ix (by omega)) (by omega) hx1 dL_law_1633 ?_
  refine zv_aload_n C 0 dL_law_1634 rfl rfl ?_
  refine zv_iload C 5 dL_law_1635 rfl ?_
  refine zv_iconst (v := zI 2) C dL_law_1637 rfl ?_
  refine zv_iaddZ C dL_law_1638 ?_
  refine zv_sld (j := i + 2) (v := (zI (n2 : Int))) C W.2.2.1 W.2.2.2.1 W.2.2.2.2.1 W.2.2.2.2.2 (zI_ix (by omega)) (by omega) hx2 dL_law_1639 ?_
  refine zv_aload_n C 3 dL_law_1640 rfl rfl ?_
  refine zv_cH (st := []) C (w_c_X10_bestTrain hfl E σ U S n1 n2 hR.1.2.2.1 hR.1.2.2.2.1.1 (by first | assumption | omega) (by first | assumption | omega)) mL_bestTrain kL_259 rfl ⟨rfl, rfl⟩ (show zfit (zrm 6 165) 5 room_1 = true from rfl) (Nat.le_of_ble_eq_true rfl) dL_law_1641 ⟨by omega, by omega⟩ (fun r1641 τ1641 hp1641 => ?_)
  obtain ⟨hr0, v9, υ9, hP9, hτ9⟩ := hp1641
  refine zv_eqi (y := zI 0) hr0 ?_
  obtain ⟨hv9, hW9⟩ := hP9
  have hF9 : zFr 318 327 σ υ9 := by first | exact hW9 | (rw [hW9]; exact (by first | exact zFr_refl _ _ _ | exact zFr_rW (zFr_refl _ _ _) (by omega) | exact zFr_rW (zFr_rW (zFr_refl _ _ _) (by omega)) (by omega) | exact qW_f _ _ _ _ | exact qM_f _ _ _ _ _ | exact rW2_f _ _ _ _ _ | exact rW3_f _ _ _ _ _ | exact alW_f _ _ _ _ _ | (split <;> first | exact zFr_refl _ _ _ | exact bW_f _ _ _ _) | assumption))
  have hR1 : zRel τ1641 (zDv.mk ni tx ec eo U S hh kp ou) := by rw [hτ9]; exact zRel_J (zRel_c hR hF9) _
  have ho9 : gJ τ1641 339 0 = v9.toInt64 := by rw [hτ9, gJ_sJ, if_pos ⟨rfl, rfl⟩]
  rw [hv9] at ho9
  refine zv_istore (lv' := [(6, .int (zI 0)), (0, .ref b0), (1, .ref (ob E 0)), (2, .ref (ob E 327)), (3, .ref (ob E 339)), (4, .ref (ob E 340)), (5, .int (zI (i : Int)))]) C dL_law_1644  (by decide) rfl ?_
  refine zv_aload_n C 3 dL_law_1646 rfl rfl ?_
  refine zv_aload_n C 1 dL_law_1647 rfl rfl ?_
  refine zv_iload C 6 dL_law_1648 rfl ?_
  refine zv_iconst (v := zI 1) C dL_law_1650 rfl ?_
  refine zv_iaddZ C dL_law_1651 ?_
  refine zv_sld (j := i + 1) (v := (zI (n1 : Int))) C W.2.2.1 W.2.2.2.1 W.2.2.2.2.1 W.2.2.2.2.2 (zI_ix (by omega)) (by omega) hx1 dL_law_1652 ?_
  refine zv_aload_n C 1 dL_law_1653 rfl rfl ?_
  refine zv_iload C 6 dL_law_1654 rfl ?_
  refine zv_iconst (v := zI 2) C dL_law_1656 rfl ?_
  refine zv_iaddZ C dL_law_1657 ?_
  refine zv_sld (j := i + 2) (v := (zI (n2 : Int))) C W.2.2.1 W.2.2.2.1 W.2.2.2.2.1 W.2.2.2.2.2 (zI_ix (by omega)) (by omega) hx2 dL_law_1658 ?_
  refine zv_cvi (st := []) C (c_X11_bestTrain hfl E τ1641 σ U S n1 n2 hR1.2.2.2.1 hR.1.2.2.1 hR1.2.2.2.2.2.1.1 hR.1.2.2.2.1.1 (by first | assumption | omega) (by first | assumption | omega) (by first | assumption | omega)) mX11_bestTrain kL_261 (by decide : kd 327 = 10) rfl rfl rfl ⟨rfl, rfl⟩ (show zfit (zrm 2 46) 3 room_1 = true from rfl) (Nat.le_of_ble_eq_true rfl) dL_law_1659 ⟨by omega, by omega⟩ (fun r1659 τ1659 hp1659 => ?_)
  obtain ⟨hr2, hK2⟩ := hp1659
  refine zv_eqi (y := zI (dBt U S n1 n2)) hr2 ?_
  have hR2 : zRel τ1659 (zDv.mk ni tx ec eo U S hh kp ou) := zRel_m hR1 hK2
  have ht2 : gI τ1659 327 10 = zI 0 := hK2.2
  have hJ2 : gJ τ1659 339 0 = gJ τ1641 339 0 := hK2.1.2.1 339 0 (by decide)
  have hD2 : gD τ1659 340 0 = gD τ1641 340 0 := hK2.1.2.2 340 0
  refine zv_istore (lv' := [(7, .int (zI (dBt U S n1 n2))), (6, .int (zI 0)), (0, .ref b0), (1, .ref (ob E 0)), (2, .ref (ob E 327)), (3, .ref (ob E 339)), (4, .ref (ob E 340)), (5, .int (zI (i : Int)))]) C dL_law_1662  (by decide) rfl ?_
  refine zv_aload_n C 4 dL_law_1664 rfl rfl ?_
  refine zv_cviD (st := []) C (c_X11_thrown hfl E τ1659) mX11_thrown kL_200 (by decide : kd 327 = 10) rfl rfl rfl ⟨rfl, rfl⟩ (show zfit (zrm 0 0) 1 room_1 = true from rfl) (Nat.le_of_ble_eq_true rfl) dL_law_1665 ⟨by omega, by omega⟩ ?_
  refine zv_eqi (y := (zI 0)) (ht2) ?_
  refine zv_iload C 1 dL_law_1668 rfl ?_
  refine zv_icmp_eqZ (tgt := 1675) C (by omega) (by omega) dL_law_1670 (by decide) (fun h1670 => ?_) (fun h1670 => ?_)
  · skip
    refine zv_iload C 1 dL_law_1675 rfl ?_
    refine zv_if_neZ (tgt := 1692) C (by omega) dL_law_1677 (by decide) (fun h1677 => absurd h1677 (by decide)) (fun h1677 => ?_)
    refine zv_aload_n C 5 dL_law_1680 rfl rfl ?_
    refine zv_iconst (v := zI 0) C dL_law_1681 rfl ?_
    refine zv_lald (j := 0) C (by decide : kd 339 = _) (zI_ix (by omega)) (by decide) dL_law_1682 ?_
    refine zv_eql (y := ((zI (dBt U S n1 n2)).toInt64)) (hJ2.trans ho9) ?_
    refine zv_iload C 0 dL_law_1683 rfl ?_
    refine zv_i2l C dL_law_1685 ?_
    refine zv_lc_eq (tgt := 1692) C dL_law_1686 dL_law_1687 (by decide) (fun h1686 => ?_) (fun h1686 => ?_)
    · skip
      refine zv_goto (tgt := 3624) C dL_law_1692 (by decide) ?_
      refine zv_sub (lv' := [(0, .ref b0), (1, .ref (ob E 0)), (2, .ref (ob E 327)), (3, .ref (ob E 339)), (4, .ref (ob E 340)), (5, .int (zI (i : Int)))]) [2, 3, 4, 5, 6, 7] (zcons rfl (zcons rfl (zcons rfl (zcons rfl (zcons rfl (zcons rfl rfl)))))) ?_
      exact kk _ _ _ _ (by omega) (by omega) hR2
    · exfalso
      exact h1686 rfl
  · exfalso
    omega
set_option maxRecDepth 20000 in
theorem lw_bestTrain_x1_x1 {p : Program} {l : Launch} {e : Env} {s : State} {m : MethodId} {args : Array Value} {below : List Frame} {meth : Method} {c : Code} {E : zE} {Q : State → Prop} {b0 L i ce sl : Nat} {xs : Nat → Int32} {σ : zS} (ni : Nat) (tx : Nat → Int) (ec : Nat) (eo : Int) (U : zSU) (S : zST) (hh : List zST) (kp : Option zST) (ou : List Nat) (v1 : Int) (v2 : Int) (W : zLW p l s m args meth c E b0 L xs) (hi : i + 6 ≤ L) (hcs : ce + 1 ≤ room_1.cells ∧ sl + 6 ≤ room_1.slots) (hR : zRel σ (zDv.mk ni tx ec eo U S hh kp ou)) (hx1 : xs (i + 1) = (zI v1)) (hx2 : xs (i + 2) = (zI v2)) (hbi0 : -2147483648 ≤ v1 ∧ v1 < 2147483648) (hno1 : ¬ (0 ≤ v1 ∧ v1 < U.nb))  (kk : zNx p l e s m args below meth c E Q b0 i ce sl) : zV p l e room_1 s m args below meth c 9 E Q ce sl σ 1627 (lwL b0 i E) [] := by
  refine (?_ : zV p l e room_1 s m args below meth c 9 E Q ce sl σ 1627 [(0, .ref b0), (1, .ref (ob E 0)), (2, .ref (ob E 327)), (3, .ref (ob E 339)), (4, .ref (ob E 340)), (5, .int (zI (i : Int)))] [])
  have C := W.2.1
  have hfl := W.1
  have hroom : room_1.cells = 601024 ∧ room_1.slots = 7293034 := ⟨rfl, rfl⟩
  refine zv_aload_n C 1 dL_law_1627 rfl rfl ?_
  refine zv_aload_n C 0 dL_law_1628 rfl rfl ?_
  refine zv_iload C 5 dL_law_1629 rfl ?_
  refine zv_iconst (v := zI 1) C dL_law_1631 rfl ?_
  refine zv_iaddZ C dL_law_1632 ?_
  refine zv_sld (j := i + 1) (v := (zI v1)) C W.2.2.1 W.2.2.2.1 W.2.2.2.2.1 W.2.2.2.2.2 (zI_ix (by omega)) (by omega) hx1 dL_law_1633 ?_
  refine zv_aload_n C 0 dL_law_1634 rfl rfl ?_
  refine zv_iload C 5 dL_law_1635 rfl ?_
  refine zv_iconst (v := zI 2) C dL_law_1637 rfl ?_
  refine zv_iaddZ C dL_law_1638 ?_
  refine zv_sld (j := i + 2) (v := (zI v2)) C W.2.2.1 W.2.2.2.1 W.2.2.2.2.1 W.2.2.2.2.2 (zI_ix (by omega)) (by omega) hx2 dL_law_1639 ?_
  refine zv_aload_n C 3 dL_law_1640 rfl rfl ?_
  refine zv_cH (st := []) C (w_x1_X10_bestTrain hfl E σ U v1 v2 hR.1.2.2.1 (by first | assumption | omega) (by first | assumption | omega)) mL_bestTrain kL_259 rfl ⟨rfl, rfl⟩ (show zfit (zrx 10 222) 5 room_1 = true from rfl) (Nat.le_of_ble_eq_true rfl) dL_law_1641 ⟨by exact hcs.1, by exact hcs.2⟩ (fun r1641 τ1641 hp1641 => ?_)
  obtain ⟨hr0, hP9⟩ := hp1641
  refine zv_eqi (y := zI 1) hr0 ?_
  have hF9 : zFr 318 327 σ τ1641 := by rw [hP9]; exact (by first | exact zFr_refl _ _ _ | exact zFr_rW (zFr_refl _ _ _) (by omega) | exact zFr_rW (zFr_rW (zFr_refl _ _ _) (by omega)) (by omega) | exact qW_f _ _ _ _ | exact qM_f _ _ _ _ _ | exact rW2_f _ _ _ _ _ | exact rW3_f _ _ _ _ _ | exact alW_f _ _ _ _ _ | (split <;> first | exact zFr_refl _ _ _ | exact bW_f _ _ _ _) | assumption)
  have hR1 : zRel τ1641 (zDv.mk ni tx ec eo U S hh kp ou) := zRel_c hR hF9
  refine zv_istore (lv' := [(6, .int (zI 1)), (0, .ref b0), (1, .ref (ob E 0)), (2, .ref (ob E 327)), (3, .ref (ob E 339)), (4, .ref (ob E 340)), (5, .int (zI (i : Int)))]) C dL_law_1644  (by decide) rfl ?_
  refine zv_aload_n C 3 dL_law_1646 rfl rfl ?_
  refine zv_aload_n C 1 dL_law_1647 rfl rfl ?_
  refine zv_iload C 6 dL_law_1648 rfl ?_
  refine zv_iconst (v := zI 1) C dL_law_1650 rfl ?_
  refine zv_iaddZ C dL_law_1651 ?_
  refine zv_sld (j := i + 1) (v := (zI v1)) C W.2.2.1 W.2.2.2.1 W.2.2.2.2.1 W.2.2.2.2.2 (zI_ix (by omega)) (by omega) hx1 dL_law_1652 ?_
  refine zv_aload_n C 1 dL_law_1653 rfl rfl ?_
  refine zv_iload C 6 dL_law_1654 rfl ?_
  refine zv_iconst (v := zI 2) C dL_law_1656 rfl ?_
  refine zv_iaddZ C dL_law_1657 ?_
  refine zv_sld (j := i + 2) (v := (zI v2)) C W.2.2.1 W.2.2.2.1 W.2.2.2.2.1 W.2.2.2.2.2 (zI_ix (by omega)) (by omega) hx2 dL_law_1658 ?_
  refine zv_cvi (st := []) C (x1_X11_bestTrain hfl E τ1641 σ U v1 v2 hR1.2.2.2.1 hR.1.2.2.1 (by first | assumption | omega) (by first | assumption | omega)) mX11_bestTrain kL_261 (by decide : kd 327 = 10) rfl rfl rfl ⟨rfl, rfl⟩ (show zfit (zrm 2 46) 3 room_1 = true from rfl) (Nat.le_of_ble_eq_true rfl) dL_law_1659 ⟨by omega, by omega⟩ (fun r1659 τ1659 hp1659 => ?_)
  obtain ⟨hr2, hK2⟩ := hp1659
  refine zv_eqi (y := zI 0) hr2 ?_
  have hR2 : zRel τ1659 (zDv.mk ni tx ec eo U S hh kp ou) := zRel_m hR1 hK2
  have ht2 : gI τ1659 327 10 = zI 1 := hK2.2
  have hJ2 : gJ τ1659 339 0 = gJ τ1641 339 0 := hK2.1.2.1 339 0 (by decide)
  have hD2 : gD τ1659 340 0 = gD τ1641 340 0 := hK2.1.2.2 340 0
  refine zv_istore (lv' := [(7, .int (zI 0)), (6, .int (zI 1)), (0, .ref b0), (1, .ref (ob E 0)), (2, .ref (ob E 327)), (3, .ref (ob E 339)), (4, .ref (ob E 340)), (5, .int (zI (i : Int)))]) C dL_law_1662  (by decide) rfl ?_
  refine zv_aload_n C 4 dL_law_1664 rfl rfl ?_
  refine zv_cviD (st := []) C (c_X11_thrown hfl E τ1659) mX11_thrown kL_200 (by decide : kd 327 = 10) rfl rfl rfl ⟨rfl, rfl⟩ (show zfit (zrm 0 0) 1 room_1 = true from rfl) (Nat.le_of_ble_eq_true rfl) dL_law_1665 ⟨by omega, by omega⟩ ?_
  refine zv_eqi (y := (zI 1)) (ht2) ?_
  refine zv_iload C 1 dL_law_1668 rfl ?_
  refine zv_icmp_eqZ (tgt := 1675) C (by omega) (by omega) dL_law_1670 (by decide) (fun h1670 => ?_) (fun h1670 => ?_)
  · skip
    refine zv_iload C 1 dL_law_1675 rfl ?_
    refine zv_if_neZ (tgt := 1692) C (by omega) dL_law_1677 (by decide) (fun h1677 => ?_) (fun h1677 => absurd h1677 (by decide))
    refine zv_goto (tgt := 3624) C dL_law_1692 (by decide) ?_
    refine zv_sub (lv' := [(0, .ref b0), (1, .ref (ob E 0)), (2, .ref (ob E 327)), (3, .ref (ob E 339)), (4, .ref (ob E 340)), (5, .int (zI (i : Int)))]) [2, 3, 4, 5, 6, 7] (zcons rfl (zcons rfl (zcons rfl (zcons rfl (zcons rfl (zcons rfl rfl)))))) ?_
    exact kk _ _ _ _ (by omega) (by omega) hR2
  · exfalso
    omega
set_option maxRecDepth 20000 in
theorem lw_bestTrain_x2_x2 {p : Program} {l : Launch} {e : Env} {s : State} {m : MethodId} {args : Array Value} {below : List Frame} {meth : Method} {c : Code} {E : zE} {Q : State → Prop} {b0 L i ce sl : Nat} {xs : Nat → Int32} {σ : zS} (ni : Nat) (tx : Nat → Int) (ec : Nat) (eo : Int) (U : zSU) (S : zST) (hh : List zST) (kp : Option zST) (ou : List Nat) (n1 : Nat) (v2 : Int) (W : zLW p l s m args meth c E b0 L xs) (hi : i + 6 ≤ L) (hcs : ce + 1 ≤ room_1.cells ∧ sl + 6 ≤ room_1.slots) (hR : zRel σ (zDv.mk ni tx ec eo U S hh kp ou)) (hx1 : xs (i + 1) = (zI (n1 : Int))) (hx2 : xs (i + 2) = (zI v2)) (hi0 : n1 < U.nb) (hyi1 : -2147483648 ≤ v2 ∧ v2 < 2147483648) (hno2 : ¬ (0 ≤ v2 ∧ v2 ≤ 3))  (kk : zNx p l e s m args below meth c E Q b0 i ce sl) : zV p l e room_1 s m args below meth c 9 E Q ce sl σ 1627 (lwL b0 i E) [] := by
  refine (?_ : zV p l e room_1 s m args below meth c 9 E Q ce sl σ 1627 [(0, .ref b0), (1, .ref (ob E 0)), (2, .ref (ob E 327)), (3, .ref (ob E 339)), (4, .ref (ob E 340)), (5, .int (zI (i : Int)))] [])
  have C := W.2.1
  have hfl := W.1
  have hroom : room_1.cells = 601024 ∧ room_1.slots = 7293034 := ⟨rfl, rfl⟩
  refine zv_aload_n C 1 dL_law_1627 rfl rfl ?_
  refine zv_aload_n C 0 dL_law_1628 rfl rfl ?_
  refine zv_iload C 5 dL_law_1629 rfl ?_
  refine zv_iconst (v := zI 1) C dL_law_1631 rfl ?_
  refine zv_iaddZ C dL_law_1632 ?_
  refine zv_sld (j := i + 1) (v := (zI (n1 : Int))) C W.2.2.1 W.2.2.2.1 W.2.2.2.2.1 W.2.2.2.2.2 (zI_ix (by omega)) (by omega) hx1 dL_law_1633 ?_
  refine zv_aload_n C 0 dL_law_1634 rfl rfl ?_
  refine zv_iload C 5 dL_law_1635 rfl ?_
  refine zv_iconst (v := zI 2) C dL_law_1637 rfl ?_
  refine zv_iaddZ C dL_law_1638 ?_
  refine zv_sld (j := i + 2) (v := (zI v2)) C W.2.2.1 W.2.2.2.1 W.2.2.2.2.1 W.2.2.2.2.2 (zI_ix (by omega)) (by omega) hx2 dL_law_1639 ?_
  refine zv_aload_n C 3 dL_law_1640 rfl rfl ?_
  refine zv_cH (st := []) C (w_x2_X10_bestTrain hfl E σ U S n1 v2 hR.1.2.2.1 (by first | assumption | omega) (by first | assumption | omega) (by first | assumption | omega)) mL_bestTrain kL_259 rfl ⟨rfl, rfl⟩ (show zfit (zrx 10 222) 5 room_1 = true from rfl) (Nat.le_of_ble_eq_true rfl) dL_law_1641 ⟨by exact hcs.1, by exact hcs.2⟩ (fun r1641 τ1641 hp1641 => ?_)
  obtain ⟨hr0, hP9⟩ := hp1641
  refine zv_eqi (y := zI 2) hr0 ?_
  have hF9 : zFr 318 327 σ τ1641 := by rw [hP9]; exact (by first | exact zFr_refl _ _ _ | exact zFr_rW (zFr_refl _ _ _) (by omega) | exact zFr_rW (zFr_rW (zFr_refl _ _ _) (by omega)) (by omega) | exact qW_f _ _ _ _ | exact qM_f _ _ _ _ _ | exact rW2_f _ _ _ _ _ | exact rW3_f _ _ _ _ _ | exact alW_f _ _ _ _ _ | (split <;> first | exact zFr_refl _ _ _ | exact bW_f _ _ _ _) | assumption)
  have hR1 : zRel τ1641 (zDv.mk ni tx ec eo U S hh kp ou) := zRel_c hR hF9
  refine zv_istore (lv' := [(6, .int (zI 2)), (0, .ref b0), (1, .ref (ob E 0)), (2, .ref (ob E 327)), (3, .ref (ob E 339)), (4, .ref (ob E 340)), (5, .int (zI (i : Int)))]) C dL_law_1644  (by decide) rfl ?_
  refine zv_aload_n C 3 dL_law_1646 rfl rfl ?_
  refine zv_aload_n C 1 dL_law_1647 rfl rfl ?_
  refine zv_iload C 6 dL_law_1648 rfl ?_
  refine zv_iconst (v := zI 1) C dL_law_1650 rfl ?_
  refine zv_iaddZ C dL_law_1651 ?_
  refine zv_sld (j := i + 1) (v := (zI (n1 : Int))) C W.2.2.1 W.2.2.2.1 W.2.2.2.2.1 W.2.2.2.2.2 (zI_ix (by omega)) (by omega) hx1 dL_law_1652 ?_
  refine zv_aload_n C 1 dL_law_1653 rfl rfl ?_
  refine zv_iload C 6 dL_law_1654 rfl ?_
  refine zv_iconst (v := zI 2) C dL_law_1656 rfl ?_
  refine zv_iaddZ C dL_law_1657 ?_
  refine zv_sld (j := i + 2) (v := (zI v2)) C W.2.2.1 W.2.2.2.1 W.2.2.2.2.1 W.2.2.2.2.2 (zI_ix (by omega)) (by omega) hx2 dL_law_1658 ?_
  refine zv_cvi (st := []) C (x2_X11_bestTrain hfl E τ1641 σ U n1 v2 hR1.2.2.2.1 hR.1.2.2.1 (by first | assumption | omega) (by first | assumption | omega) (by first | assumption | omega)) mX11_bestTrain kL_261 (by decide : kd 327 = 10) rfl rfl rfl ⟨rfl, rfl⟩ (show zfit (zrm 2 46) 3 room_1 = true from rfl) (Nat.le_of_ble_eq_true rfl) dL_law_1659 ⟨by omega, by omega⟩ (fun r1659 τ1659 hp1659 => ?_)
  obtain ⟨hr2, hK2⟩ := hp1659
  refine zv_eqi (y := zI 0) hr2 ?_
  have hR2 : zRel τ1659 (zDv.mk ni tx ec eo U S hh kp ou) := zRel_m hR1 hK2
  have ht2 : gI τ1659 327 10 = zI 2 := hK2.2
  have hJ2 : gJ τ1659 339 0 = gJ τ1641 339 0 := hK2.1.2.1 339 0 (by decide)
  have hD2 : gD τ1659 340 0 = gD τ1641 340 0 := hK2.1.2.2 340 0
  refine zv_istore (lv' := [(7, .int (zI 0)), (6, .int (zI 2)), (0, .ref b0), (1, .ref (ob E 0)), (2, .ref (ob E 327)), (3, .ref (ob E 339)), (4, .ref (ob E 340)), (5, .int (zI (i : Int)))]) C dL_law_1662  (by decide) rfl ?_
  refine zv_aload_n C 4 dL_law_1664 rfl rfl ?_
  refine zv_cviD (st := []) C (c_X11_thrown hfl E τ1659) mX11_thrown kL_200 (by decide : kd 327 = 10) rfl rfl rfl ⟨rfl, rfl⟩ (show zfit (zrm 0 0) 1 room_1 = true from rfl) (Nat.le_of_ble_eq_true rfl) dL_law_1665 ⟨by omega, by omega⟩ ?_
  refine zv_eqi (y := (zI 2)) (ht2) ?_
  refine zv_iload C 1 dL_law_1668 rfl ?_
  refine zv_icmp_eqZ (tgt := 1675) C (by omega) (by omega) dL_law_1670 (by decide) (fun h1670 => ?_) (fun h1670 => ?_)
  · skip
    refine zv_iload C 1 dL_law_1675 rfl ?_
    refine zv_if_neZ (tgt := 1692) C (by omega) dL_law_1677 (by decide) (fun h1677 => ?_) (fun h1677 => absurd h1677 (by decide))
    refine zv_goto (tgt := 3624) C dL_law_1692 (by decide) ?_
    refine zv_sub (lv' := [(0, .ref b0), (1, .ref (ob E 0)), (2, .ref (ob E 327)), (3, .ref (ob E 339)), (4, .ref (ob E 340)), (5, .int (zI (i : Int)))]) [2, 3, 4, 5, 6, 7] (zcons rfl (zcons rfl (zcons rfl (zcons rfl (zcons rfl (zcons rfl rfl)))))) ?_
    exact kk _ _ _ _ (by omega) (by omega) hR2
  · exfalso
    omega
theorem LK_24 {p : Program} {l : Launch} {e : Env} {s : State} {m : MethodId} {args : Array Value} {below : List Frame} {meth : Method} {c : Code} {E : zE} {Q : State → Prop} {b0 L i ce sl : Nat} {xs : Nat → Int32} {σ : zS} (ni : Nat) (tx : Nat → Int) (ec : Nat) (eo : Int) (U : zSU) (S : zST) (hh : List zST) (kp : Option zST) (ou : List Nat) (hFN : zFN) (W : zLW p l s m args meth c E b0 L xs) (hi : i + 6 ≤ L) (hcs : ce + 1 ≤ room_1.cells ∧ sl + 6 ≤ room_1.slots) (hR : zRel σ (zDv.mk ni tx ec eo U S hh kp ou)) (kk : zNx p l e s m args below meth c E Q b0 i ce sl) : zV p l e room_1 s m args below meth c 9 E Q ce sl σ 1627 (lwL b0 i E) [] := by
  obtain ⟨v1, hx1, hv1⟩ := zI_cov (xs (i + 1))
  obtain ⟨v2, hx2, hv2⟩ := zI_cov (xs (i + 2))
  by_cases g1 : 0 ≤ v1 ∧ v1 < U.nb
  case neg =>
    exact lw_bestTrain_x1_x1 _ _ _ _ _ _ _ _ _ _ _ W hi hcs hR hx1 hx2 (by first | assumption | omega) (by first | assumption | omega) kk
  obtain ⟨n1, rfl⟩ := Int.eq_ofNat_of_zero_le (show 0 ≤ v1 by omega)
  by_cases g2 : 0 ≤ v2 ∧ v2 ≤ 3
  case neg =>
    exact lw_bestTrain_x2_x2 _ _ _ _ _ _ _ _ _ _ _ W hi hcs hR hx1 hx2 (by first | assumption | omega) (by first | assumption | omega) (by first | assumption | omega) kk
  obtain ⟨n2, rfl⟩ := Int.eq_ofNat_of_zero_le (show 0 ≤ v2 by omega)
  by_cases g3 : 2 ≤ S.n
  case neg =>
    exact lw_bestTrain_c_c0 _ _ _ _ _ _ _ _ _ _ _ W hi hcs hR hx1 hx2 (by first | assumption | omega) (by first | assumption | omega) (by first | assumption | omega) kk
  exact lw_bestTrain_c_c _ _ _ _ _ _ _ _ _ _ _ W hi hcs hR hx1 hx2 (by first | assumption | omega) (by first | assumption | omega) (by first | assumption | omega) kk
