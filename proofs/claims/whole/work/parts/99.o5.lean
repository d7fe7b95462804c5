/-! the law's cases -/
theorem dL_law_2002 : decode cL_law 2002 = .ok (.aload_n 1, 1) := by decide +kernel
theorem dL_law_2003 : decode cL_law 2003 = .ok (.aload_n 0, 1) := by decide +kernel
theorem dL_law_2004 : decode cL_law 2004 = .ok (.iload 5, 2) := by decide +kernel
theorem dL_law_2006 : decode cL_law 2006 = .ok (.iconst 1, 1) := by decide +kernel
theorem dL_law_2007 : decode cL_law 2007 = .ok (.iadd, 1) := by decide +kernel
theorem dL_law_2008 : decode cL_law 2008 = .ok (.iaload, 1) := by decide +kernel
theorem dL_law_2009 : decode cL_law 2009 = .ok (.aload_n 3, 1) := by decide +kernel
theorem dL_law_2010 : decode cL_law 2010 = .ok (.invokestatic 275, 3) := by decide +kernel
theorem dL_law_2013 : decode cL_law 2013 = .ok (.istore 6, 2) := by decide +kernel
theorem dL_law_2015 : decode cL_law 2015 = .ok (.aload_n 2, 1) := by decide +kernel
theorem dL_law_2016 : decode cL_law 2016 = .ok (.aload_n 0, 1) := by decide +kernel
theorem dL_law_2017 : decode cL_law 2017 = .ok (.iload 5, 2) := by decide +kernel
theorem dL_law_2019 : decode cL_law 2019 = .ok (.iconst 1, 1) := by decide +kernel
theorem dL_law_2020 : decode cL_law 2020 = .ok (.iadd, 1) := by decide +kernel
theorem dL_law_2021 : decode cL_law 2021 = .ok (.iaload, 1) := by decide +kernel
theorem dL_law_2022 : decode cL_law 2022 = .ok (.invokevirtual 277, 3) := by decide +kernel
theorem dL_law_2025 : decode cL_law 2025 = .ok (.istore 7, 2) := by decide +kernel
theorem dL_law_2027 : decode cL_law 2027 = .ok (.aload_n 2, 1) := by decide +kernel
theorem dL_law_2028 : decode cL_law 2028 = .ok (.invokevirtual 200, 3) := by decide +kernel
theorem dL_law_2031 : decode cL_law 2031 = .ok (.iload 6, 2) := by decide +kernel
theorem dL_law_2033 : decode cL_law 2033 = .ok (.if_icmp .eq 5, 3) := by decide +kernel
theorem dL_law_2036 : decode cL_law 2036 = .ok (.iconst 0, 1) := by decide +kernel
theorem dL_law_2037 : decode cL_law 2037 = .ok (.ireturn, 1) := by decide +kernel
theorem dL_law_2038 : decode cL_law 2038 = .ok (.iload 6, 2) := by decide +kernel
theorem dL_law_2040 : decode cL_law 2040 = .ok (.ifCond .ne 15, 3) := by decide +kernel
theorem dL_law_2043 : decode cL_law 2043 = .ok (.aload_n 3, 1) := by decide +kernel
theorem dL_law_2044 : decode cL_law 2044 = .ok (.iconst 0, 1) := by decide +kernel
theorem dL_law_2045 : decode cL_law 2045 = .ok (.laload, 1) := by decide +kernel
theorem dL_law_2046 : decode cL_law 2046 = .ok (.iload 7, 2) := by decide +kernel
theorem dL_law_2048 : decode cL_law 2048 = .ok (.i2l, 1) := by decide +kernel
theorem dL_law_2049 : decode cL_law 2049 = .ok (.lcmp, 1) := by decide +kernel
theorem dL_law_2050 : decode cL_law 2050 = .ok (.ifCond .eq 5, 3) := by decide +kernel
theorem dL_law_2053 : decode cL_law 2053 = .ok (.iconst 0, 1) := by decide +kernel
theorem dL_law_2054 : decode cL_law 2054 = .ok (.ireturn, 1) := by decide +kernel
theorem dL_law_2055 : decode cL_law 2055 = .ok (.goto 1569, 3) := by decide +kernel
set_option maxRecDepth 20000 in
theorem lw_removePart_c_c {p : Program} {l : Launch} {e : Env} {s : State} {m : MethodId} {args : Array Value} {below : List Frame} {meth : Method} {c : Code} {E : zE} {Q : State → Prop} {b0 L i ce sl : Nat} {xs : Nat → Int32} {σ : zS} (ni : Nat) (tx : Nat → Int) (ec : Nat) (eo : Int) (U : zSU) (S : zST) (hh : List zST) (kp : Option zST) (ou : List Nat) (n1 : Nat) (W : zLW p l s m args meth c E b0 L xs) (hi : i + 6 ≤ L) (hcs : ce + 1 ≤ room_1.cells ∧ sl + 6 ≤ room_1.slots) (hR : zRel σ (zDv.mk ni tx ec eo U S hh kp ou)) (hx1 : xs (i + 1) = (zI (n1 : Int))) (hi0 : n1 < U.nb) (ht01 : S.tn n1 ≠ 0)  (kk : zNx p l e s m args below meth c E Q b0 i ce sl) : zV p l e room_1 s m args below meth c 9 E Q ce sl σ 2002 (lwL b0 i E) [] := by
  refine (?_ : zV p l e room_1 s m args below meth c 9 E Q ce sl σ 2002 [(0, .ref b0), (1, .ref (ob E 0)), (2, .ref (ob E 327)), (3, .ref (ob E 339)), (4, .ref (ob E 340)), (5, .int (zI (i : Int)))] [])
  have C := W.2.1
  have hfl := W.1
  have hroom : room_1.cells = 601024 ∧ room_1.slots = 7293034 := ⟨rfl, rfl⟩
  refine zv_aload_n C 1 dL_law_2002 rfl rfl ?_
  refine zv_aload_n C 0 dL_law_2003 rfl rfl ?_
  refine zv_iload C 5 dL_law_2004 rfl ?_
  refine zv_iconst (v := zI 1) C dL_law_2006 rfl ?_
  refine zv_iaddZ C dL_law_2007 ?_
  refine zv_sld (j := i + 1) (v := (zI (n1 : Int))) C W.2.2.1 W.2.2.2.1 W.2.2.2.2.1 W.2.2.2.2.2 (zI_ix (by omega)) (by omega) hx1 dL_law_2008 ?_
  refine zv_aload_n C 3 dL_law_2009 rfl rfl ?_
  refine zv_cH (st := []) C (w_c_X10_removePart hfl E σ ni tx ec eo U S hh kp ou n1 hR.1 (by first | assumption | omega) (by first | assumption | omega)) mL_removePart kL_275 rfl ⟨rfl, rfl⟩ (show zfit (zrm 5 146) 4 room_1 = true from rfl) (Nat.le_of_ble_eq_true rfl) dL_law_2010 ⟨by omega, by omega⟩ (fun r2010 τ2010 hp2010 => ?_)
  obtain ⟨hr0, v9, υ9, hP9, hτ9⟩ := hp2010
  refine zv_eqi (y := zI 0) hr0 ?_
  obtain ⟨hv9, hC9, hF9⟩ := hP9
  have hC1 := zCP_w (τ := τ2010) hC9 (fun x y hx => by rw [hτ9]; exact ⟨rfl, by first | rfl | rw [gJ_sJ, if_neg (by omega)]⟩)
  have hM1 : zMP τ2010 (zDv.mk ni tx ec eo U S hh kp ou) := by rw [hτ9]; exact (zMP_fr hR.2 hF9 : zMP υ9 (zDv.mk ni tx ec eo U S hh kp ou))
  have ho9 : gJ τ2010 339 0 = v9.toInt64 := by rw [hτ9, gJ_sJ, if_pos ⟨rfl, rfl⟩]
  rw [hv9] at ho9
  refine zv_istore (lv' := [(6, .int (zI 0)), (0, .ref b0), (1, .ref (ob E 0)), (2, .ref (ob E 327)), (3, .ref (ob E 339)), (4, .ref (ob E 340)), (5, .int (zI (i : Int)))]) C dL_law_2013  (by decide) rfl ?_
  refine zv_aload_n C 3 dL_law_2015 rfl rfl ?_
  refine zv_aload_n C 1 dL_law_2016 rfl rfl ?_
  refine zv_iload C 6 dL_law_2017 rfl ?_
  refine zv_iconst (v := zI 1) C dL_law_2019 rfl ?_
  refine zv_iaddZ C dL_law_2020 ?_
  refine zv_sld (j := i + 1) (v := (zI (n1 : Int))) C W.2.2.1 W.2.2.2.1 W.2.2.2.2.1 W.2.2.2.2.2 (zI_ix (by omega)) (by omega) hx1 dL_law_2021 ?_
  refine zv_cvi (st := []) C (c_X11_removePart hfl E τ2010 σ ni tx ec eo U S hh kp ou n1 hM1 hR.1.2.2.1 hR.1.2.2.2.1.1 (by first | assumption | omega) (by first | assumption | omega)) mX11_removePart kL_277 (by decide : kd 327 = 10) rfl rfl rfl ⟨rfl, rfl⟩ (show zfit (zrm 2 46) 2 room_1 = true from rfl) (Nat.le_of_ble_eq_true rfl) dL_law_2022 ⟨by omega, by omega⟩ (fun r2022 τ2022 hp2022 => ?_)
  obtain ⟨hr2, hK2⟩ := hp2022
  refine zv_eqi (y := zI ((S.tn n1 : Int) - 1)) hr2 ?_
  have hR2 : zRel τ2022 _ := ⟨zCP_fr hC1 hK2.2.2, hK2.1⟩
  have ht2 : gI τ2022 327 10 = zI 0 := hK2.2.1
  have hJ2 : gJ τ2022 339 0 = gJ τ2010 339 0 := hK2.2.2.2.1 339 0 (by decide)
  refine zv_istore (lv' := [(7, .int (zI ((S.tn n1 : Int) - 1))), (6, .int (zI 0)), (0, .ref b0), (1, .ref (ob E 0)), (2, .ref (ob E 327)), (3, .ref (ob E 339)), (4, .ref (ob E 340)), (5, .int (zI (i : Int)))]) C dL_law_2025  (by decide) rfl ?_
  refine zv_aload_n C 4 dL_law_2027 rfl rfl ?_
  refine zv_cviD (st := []) C (c_X11_thrown hfl E τ2022) mX11_thrown kL_200 (by decide : kd 327 = 10) rfl rfl rfl ⟨rfl, rfl⟩ (show zfit (zrm 0 0) 1 room_1 = true from rfl) (Nat.le_of_ble_eq_true rfl) dL_law_2028 ⟨by omega, by omega⟩ ?_
  refine zv_eqi (y := (zI 0)) (ht2) ?_
  refine zv_iload C 1 dL_law_2031 rfl ?_
  refine zv_icmp_eqZ (tgt := 2038) C (by omega) (by omega) dL_law_2033 (by decide) (fun h2033 => ?_) (fun h2033 => ?_)
  · skip
    refine zv_iload C 1 dL_law_2038 rfl ?_
    refine zv_if_neZ (tgt := 2055) C (by omega) dL_law_2040 (by decide) (fun h2040 => absurd h2040 (by decide)) (fun h2040 => ?_)
    refine zv_aload_n C 5 dL_law_2043 rfl rfl ?_
    refine zv_iconst (v := zI 0) C dL_law_2044 rfl ?_
    refine zv_lald (j := 0) C (by decide : kd 339 = _) (zI_ix (by omega)) (by decide) dL_law_2045 ?_
    refine zv_eql (y := ((zI ((S.tn n1 : Int) - 1)).toInt64)) (hJ2.trans ho9) ?_
    refine zv_iload C 0 dL_law_2046 rfl ?_
    refine zv_i2l C dL_law_2048 ?_
    refine zv_lc_eq (tgt := 2055) C dL_law_2049 dL_law_2050 (by decide) (fun h2049 => ?_) (fun h2049 => ?_)
    · skip
      refine zv_goto (tgt := 3624) C dL_law_2055 (by decide) ?_
      refine zv_sub (lv' := [(0, .ref b0), (1, .ref (ob E 0)), (2, .ref (ob E 327)), (3, .ref (ob E 339)), (4, .ref (ob E 340)), (5, .int (zI (i : Int)))]) [2, 3, 4, 5, 6, 7] (zcons rfl (zcons rfl (zcons rfl (zcons rfl (zcons rfl (zcons rfl rfl)))))) ?_
      exact kk _ _ _ _ (by omega) (by omega) hR2
    · exfalso
      exact h2049 rfl
  · exfalso
    omega
set_option maxRecDepth 20000 in
theorem lw_removePart_x1_x1 {p : Program} {l : Launch} {e : Env} {s : State} {m : MethodId} {args : Array Value} {below : List Frame} {meth : Method} {c : Code} {E : zE} {Q : State → Prop} {b0 L i ce sl : Nat} {xs : Nat → Int32} {σ : zS} (ni : Nat) (tx : Nat → Int) (ec : Nat) (eo : Int) (U : zSU) (S : zST) (hh : List zST) (kp : Option zST) (ou : List Nat) (v1 : Int) (W : zLW p l s m args meth c E b0 L xs) (hi : i + 6 ≤ L) (hcs : ce + 1 ≤ room_1.cells ∧ sl + 6 ≤ room_1.slots) (hR : zRel σ (zDv.mk ni tx ec eo U S hh kp ou)) (hx1 : xs (i + 1) = (zI v1)) (hbi0 : -2147483648 ≤ v1 ∧ v1 < 2147483648) (hno1 : ¬ (0 ≤ v1 ∧ v1 < U.nb))  (kk : zNx p l e s m args below meth c E Q b0 i ce sl) : zV p l e room_1 s m args below meth c 9 E Q ce sl σ 2002 (lwL b0 i E) [] := by
  refine (?_ : zV p l e room_1 s m args below meth c 9 E Q ce sl σ 2002 [(0, .ref b0), (1, .ref (ob E 0)), (2, .ref (ob E 327)), (3, .ref (ob E 339)), (4, .ref (ob E 340)), (5, .int (zI (i : Int)))] [])
  have C := W.2.1
  have hfl := W.1
  have hroom : room_1.cells = 601024 ∧ room_1.slots = 7293034 := ⟨rfl, rfl⟩
  refine zv_aload_n C 1 dL_law_2002 rfl rfl ?_
  refine zv_aload_n C 0 dL_law_2003 rfl rfl ?_
  refine zv_iload C 5 dL_law_2004 rfl ?_
  refine zv_iconst (v := zI 1) C dL_law_2006 rfl ?_
  refine zv_iaddZ C dL_law_2007 ?_
  refine zv_sld (j := i + 1) (v := (zI v1)) C W.2.2.1 W.2.2.2.1 W.2.2.2.2.1 W.2.2.2.2.2 (zI_ix (by omega)) (by omega) hx1 dL_law_2008 ?_
  refine zv_aload_n C 3 dL_law_2009 rfl rfl ?_
  refine zv_cH (st := []) C (w_x1_X10_removePart hfl E σ U v1 hR.1.2.2.1 (by first | assumption | omega) (by first | assumption | omega)) mL_removePart kL_275 rfl ⟨rfl, rfl⟩ (show zfit (zrx 10 222) 4 room_1 = true from rfl) (Nat.le_of_ble_eq_true rfl) dL_law_2010 ⟨by exact hcs.1, by exact hcs.2⟩ (fun r2010 τ2010 hp2010 => ?_)
  obtain ⟨hr0, hP9⟩ := hp2010
  refine zv_eqi (y := zI 1) hr0 ?_
  have hF9 : zFr 318 327 σ τ2010 := by rw [hP9]; exact (by first | exact zFr_refl _ _ _ | exact zFr_rW (zFr_refl _ _ _) (by omega) | exact zFr_rW (zFr_rW (zFr_refl _ _ _) (by omega)) (by omega) | exact qW_f _ _ _ _ | exact qM_f _ _ _ _ _ | exact rW2_f _ _ _ _ _ | exact rW3_f _ _ _ _ _ | exact alW_f _ _ _ _ _ | (split <;> first | exact zFr_refl _ _ _ | exact bW_f _ _ _ _) | assumption)
  have hR1 : zRel τ2010 (zDv.mk ni tx ec eo U S hh kp ou) := zRel_c hR hF9
  refine zv_istore (lv' := [(6, .int (zI 1)), (0, .ref b0), (1, .ref (ob E 0)), (2, .ref (ob E 327)), (3, .ref (ob E 339)), (4, .ref (ob E 340)), (5, .int (zI (i : Int)))]) C dL_law_2013  (by decide) rfl ?_
  refine zv_aload_n C 3 dL_law_2015 rfl rfl ?_
  refine zv_aload_n C 1 dL_law_2016 rfl rfl ?_
  refine zv_iload C 6 dL_law_2017 rfl ?_
  refine zv_iconst (v := zI 1) C dL_law_2019 rfl ?_
  refine zv_iaddZ C dL_law_2020 ?_
  refine zv_sld (j := i + 1) (v := (zI v1)) C W.2.2.1 W.2.2.2.1 W.2.2.2.2.1 W.2.2.2.2.2 (zI_ix (by omega)) (by omega) hx1 dL_law_2021 ?_
  refine zv_cvi (st := []) C (x1_X11_removePart hfl E τ2010 σ U v1 hR1.2.2.2.1 hR.1.2.2.1 (by first | assumption | omega) (by first | assumption | omega)) mX11_removePart kL_277 (by decide : kd 327 = 10) rfl rfl rfl ⟨rfl, rfl⟩ (show zfit (zrm 2 46) 2 room_1 = true from rfl) (Nat.le_of_ble_eq_true rfl) dL_law_2022 ⟨by omega, by omega⟩ (fun r2022 τ2022 hp2022 => ?_)
  obtain ⟨hr2, hK2⟩ := hp2022
  refine zv_eqi (y := zI 0) hr2 ?_
  have hR2 : zRel τ2022 (zDv.mk ni tx ec eo U S hh kp ou) := zRel_m hR1 hK2
  have ht2 : gI τ2022 327 10 = zI 1 := hK2.2
  have hJ2 : gJ τ2022 339 0 = gJ τ2010 339 0 := hK2.1.2.1 339 0 (by decide)
  have hD2 : gD τ2022 340 0 = gD τ2010 340 0 := hK2.1.2.2 340 0
  refine zv_istore (lv' := [(7, .int (zI 0)), (6, .int (zI 1)), (0, .ref b0), (1, .ref (ob E 0)), (2, .ref (ob E 327)), (3, .ref (ob E 339)), (4, .ref (ob E 340)), (5, .int (zI (i : Int)))]) C dL_law_2025  (by decide) rfl ?_
  refine zv_aload_n C 4 dL_law_2027 rfl rfl ?_
  refine zv_cviD (st := []) C (c_X11_thrown hfl E τ2022) mX11_thrown kL_200 (by decide : kd 327 = 10) rfl rfl rfl ⟨rfl, rfl⟩ (show zfit (zrm 0 0) 1 room_1 = true from rfl) (Nat.le_of_ble_eq_true rfl) dL_law_2028 ⟨by omega, by omega⟩ ?_
  refine zv_eqi (y := (zI 1)) (ht2) ?_
  refine zv_iload C 1 dL_law_2031 rfl ?_
  refine zv_icmp_eqZ (tgt := 2038) C (by omega) (by omega) dL_law_2033 (by decide) (fun h2033 => ?_) (fun h2033 => ?_)
  · skip
    refine zv_iload C 1 dL_law_2038 rfl ?_
    refine zv_if_neZ (tgt := 2055) C (by omega) dL_law_2040 (by decide) (fun h2040 => ?_) (fun h2040 => absurd h2040 (by decide))
    refine zv_goto (tgt := 3624) C dL_law_2055 (by decide) ?_
    refine zv_sub (lv' := [(0, .ref b0), (1, .ref (ob E 0)), (2, .ref (ob E 327)), (3, .ref (ob E 339)), (4, .ref (ob E 340)), (5, .int (zI (i : Int)))]) [2, 3, 4, 5, 6, 7] (zcons rfl (zcons rfl (zcons rfl (zcons rfl (zcons rfl (zcons rfl rfl)))))) ?_
    exact kk _ _ _ _ (by omega) (by omega) hR2
  · exfalso
    omega
set_option maxRecDepth 20000 in
theorem lw_removePart_x2_x2 {p : Program} {l : Launch} {e : Env} {s : State} {m : MethodId} {args : Array Value} {below : List Frame} {meth : Method} {c : Code} {E : zE} {Q : State → Prop} {b0 L i ce sl : Nat} {xs : Nat → Int32} {σ : zS} (ni : Nat) (tx : Nat → Int) (ec : Nat) (eo : Int) (U : zSU) (S : zST) (hh : List zST) (kp : Option zST) (ou : List Nat) (n1 : Nat) (W : zLW p l s m args meth c E b0 L xs) (hi : i + 6 ≤ L) (hcs : ce + 1 ≤ room_1.cells ∧ sl + 6 ≤ room_1.slots) (hR : zRel σ (zDv.mk ni tx ec eo U S hh kp ou)) (hx1 : xs (i + 1) = (zI (n1 : Int))) (hi0 : n1 < U.nb) (ht01 : S.tn n1 = 0)  (kk : zNx p l e s m args below meth c E Q b0 i ce sl) : zV p l e room_1 s m args below meth c 9 E Q ce sl σ 2002 (lwL b0 i E) [] := by
  refine (?_ : zV p l e room_1 s m args below meth c 9 E Q ce sl σ 2002 [(0, .ref b0), (1, .ref (ob E 0)), (2, .ref (ob E 327)), (3, .ref (ob E 339)), (4, .ref (ob E 340)), (5, .int (zI (i : Int)))] [])
  have C := W.2.1
  have hfl := W.1
  have hroom : room_1.cells = 601024 ∧ room_1.slots = 7293034 := ⟨rfl, rfl⟩
  refine zv_aload_n C 1 dL_law_2002 rfl rfl ?_
  refine zv_aload_n C 0 dL_law_2003 rfl rfl ?_
  refine zv_iload C 5 dL_law_2004 rfl ?_
  refine zv_iconst (v := zI 1) C dL_law_2006 rfl ?_
  refine zv_iaddZ C dL_law_2007 ?_
  refine zv_sld (j := i + 1) (v := (zI (n1 : Int))) C W.2.2.1 W.2.2.2.1 W.2.2.2.2.1 W.2.2.2.2.2 (zI_ix (by omega)) (by omega) hx1 dL_law_2008 ?_
  refine zv_aload_n C 3 dL_law_2009 rfl rfl ?_
  refine zv_cH (st := []) C (w_x2_X10_removePart hfl E σ U S n1 hR.1.2.2.1 hR.1.2.2.2.1.1 (by first | assumption | omega) (by first | assumption | omega)) mL_removePart kL_275 rfl ⟨rfl, rfl⟩ (show zfit (zrx 10 222) 4 room_1 = true from rfl) (Nat.le_of_ble_eq_true rfl) dL_law_2010 ⟨by exact hcs.1, by exact hcs.2⟩ (fun r2010 τ2010 hp2010 => ?_)
  obtain ⟨hr0, hP9⟩ := hp2010
  refine zv_eqi (y := zI 2) hr0 ?_
  have hF9 : zFr 318 327 σ τ2010 := by rw [hP9]; exact (by first | exact zFr_refl _ _ _ | exact zFr_rW (zFr_refl _ _ _) (by omega) | exact zFr_rW (zFr_rW (zFr_refl _ _ _) (by omega)) (by omega) | exact qW_f _ _ _ _ | exact qM_f _ _ _ _ _ | exact rW2_f _ _ _ _ _ | exact rW3_f _ _ _ _ _ | exact alW_f _ _ _ _ _ | (split <;> first | exact zFr_refl _ _ _ | exact bW_f _ _ _ _) | assumption)
  have hR1 : zRel τ2010 (zDv.mk ni tx ec eo U S hh kp ou) := zRel_c hR hF9
  refine zv_istore (lv' := [(6, .int (zI 2)), (0, .ref b0), (1, .ref (ob E 0)), (2, .ref (ob E 327)), (3, .ref (ob E 339)), (4, .ref (ob E 340)), (5, .int (zI (i : Int)))]) C dL_law_2013  (by decide) rfl ?_
  refine zv_aload_n C 3 dL_law_2015 rfl rfl ?_
  refine zv_aload_n C 1 dL_law_2016 rfl rfl ?_
  refine zv_iload C 6 dL_law_2017 rfl ?_
  refine zv_iconst (v := zI 1) C dL_law_2019 rfl ?_
  refine zv_iaddZ C dL_law_2020 ?_
  refine zv_sld (j := i + 1) (v := (zI (n1 : Int))) C W.2.2.1 W.2.2.2.1 W.2.2.2.2.1 W.2.2.2.2.2 (zI_ix (by omega)) (by omega) hx1 dL_law_2021 ?_
  refine zv_cvi (st := []) C (x2_X11_removePart hfl E τ2010 σ U S n1 hR1.2.2.2.1 hR.1.2.2.1 hR1.2.2.2.2.2.1.1 hR.1.2.2.2.1.1 (by first | assumption | omega) (by first | assumption | omega)) mX11_removePart kL_277 (by decide : kd 327 = 10) rfl rfl rfl ⟨rfl, rfl⟩ (show zfit (zrm 2 46) 2 room_1 = true from rfl) (Nat.le_of_ble_eq_true rfl) dL_law_2022 ⟨by omega, by omega⟩ (fun r2022 τ2022 hp2022 => ?_)
  obtain ⟨hr2, hK2⟩ := hp2022
  refine zv_eqi (y := zI 0) hr2 ?_
  have hR2 : zRel τ2022 (zDv.mk ni tx ec eo U S hh kp ou) := zRel_m hR1 hK2
  have ht2 : gI τ2022 327 10 = zI 2 := hK2.2
  have hJ2 : gJ τ2022 339 0 = gJ τ2010 339 0 := hK2.1.2.1 339 0 (by decide)
  have hD2 : gD τ2022 340 0 = gD τ2010 340 0 := hK2.1.2.2 340 0
  refine zv_istore (lv' := [(7, .int (zI 0)), (6, .int (zI 2)), (0, .ref b0), (1, .ref (ob E 0)), (2, .ref (ob E 327)), (3, .ref (ob E 339)), (4, .ref (ob E 340)), (5, .int (zI (i : Int)))]) C dL_law_2025  (by decide) rfl ?_
  refine zv_aload_n C 4 dL_law_2027 rfl rfl ?_
  refine zv_cviD (st := []) C (c_X11_thrown hfl E τ2022) mX11_thrown kL_200 (by decide : kd 327 = 10) rfl rfl rfl ⟨rfl, rfl⟩ (show zfit (zrm 0 0) 1 room_1 = true from rfl) (Nat.le_of_ble_eq_true rfl) dL_law_2028 ⟨by omega, by omega⟩ ?_
  refine zv_eqi (y := (zI 2)) (ht2) ?_
  refine zv_iload C 1 dL_law_2031 rfl ?_
  refine zv_icmp_eqZ (tgt := 2038) C (by omega) (by omega) dL_law_2033 (by decide) (fun h2033 => ?_) (fun h2033 => ?_)
  · skip
    refine zv_iload C 1 dL_law_2038 rfl ?_
    refine zv_if_neZ (tgt := 2055) C (by omega) dL_law_2040 (by decide) (fun h2040 => ?_) (fun h2040 => absurd h2040 (by decide))
    refine zv_goto (tgt := 3624) C dL_law_2055 (by decide) ?_
    refine zv_sub (lv' := [(0, .ref b0), (1, .ref (ob E 0)), (2, .ref (ob E 327)), (3, .ref (ob E 339)), (4, .ref (ob E 340)), (5, .int (zI (i : Int)))]) [2, 3, 4, 5, 6, 7] (zcons rfl (zcons rfl (zcons rfl (zcons rfl (zcons rfl (zcons rfl rfl)))))) ?_
    exact kk _ _ _ _ (by omega) (by omega) hR2
  · exfalso
    omega
theorem LK_29 {p : Program} {l : Launch} {e : Env} {s : State} {m : MethodId} {args : Array Value} {below : List Frame} {meth : Method} {c : Code} {E : zE} {Q : State → Prop} {b0 L i ce sl : Nat} {xs : Nat → Int32} {σ : zS} (ni : Nat) (tx : Nat → Int) (ec : Nat) (eo : Int) (U : zSU) (S : zST) (hh : List zST) (kp : Option zST) (ou : List Nat) (hFN : zFN) (W : zLW p l s m args meth c E b0 L xs) (hi : i + 6 ≤ L) (hcs : ce + 1 ≤ room_1.cells ∧ sl + 6 ≤ room_1.slots) (hR : zRel σ (zDv.mk ni tx ec eo U S hh kp ou)) (kk : zNx p l e s m args below meth c E Q b0 i ce sl) : zV p l e room_1 s m args below meth c 9 E Q ce sl σ 2002 (lwL b0 i E) [] := by
  obtain ⟨v1, hx1, hv1⟩ := zI_cov (xs (i + 1))
  by_cases g1 : 0 ≤ v1 ∧ v1 < U.nb
  case neg =>
    exact lw_removePart_x1_x1 _ _ _ _ _ _ _ _ _ _ W hi hcs hR hx1 (by first | assumption | omega) (by first | assumption | omega) kk
  obtain ⟨n1, rfl⟩ := Int.eq_ofNat_of_zero_le (show 0 ≤ v1 by omega)
  by_cases g2 : S.tn n1 ≠ 0
  case neg =>
    exact lw_removePart_x2_x2 _ _ _ _ _ _ _ _ _ _ W hi hcs hR hx1 (by first | assumption | omega) (by first | assumption | omega) kk
  exact lw_removePart_c_c _ _ _ _ _ _ _ _ _ _ W hi hcs hR hx1 (by first | assumption | omega) (by first | assumption | omega) kk
theorem dL_law_2058 : decode cL_law 2058 = .ok (.aload_n 1, 1) := by decide +kernel
theorem dL_law_2059 : decode cL_law 2059 = .ok (.aload_n 0, 1) := by decide +kernel
theorem dL_law_2060 : decode cL_law 2060 = .ok (.iload 5, 2) := by decide +kernel
theorem dL_law_2062 : decode cL_law 2062 = .ok (.iconst 1, 1) := by decide +kernel
theorem dL_law_2063 : decode cL_law 2063 = .ok (.iadd, 1) := by decide +kernel
theorem dL_law_2064 : decode cL_law 2064 = .ok (.iaload, 1) := by decide +kernel
theorem dL_law_2065 : decode cL_law 2065 = .ok (.aload_n 3, 1) := by decide +kernel
theorem dL_law_2066 : decode cL_law 2066 = .ok (.invokestatic 278, 3) := by decide +kernel
theorem dL_law_2069 : decode cL_law 2069 = .ok (.istore 6, 2) := by decide +kernel
theorem dL_law_2071 : decode cL_law 2071 = .ok (.aload_n 2, 1) := by decide +kernel
theorem dL_law_2072 : decode cL_law 2072 = .ok (.aload_n 0, 1) := by decide +kernel
theorem dL_law_2073 : decode cL_law 2073 = .ok (.iload 5, 2) := by decide +kernel
theorem dL_law_2075 : decode cL_law 2075 = .ok (.iconst 1, 1) := by decide +kernel
theorem dL_law_2076 : decode cL_law 2076 = .ok (.iadd, 1) := by decide +kernel
theorem dL_law_2077 : decode cL_law 2077 = .ok (.iaload, 1) := by decide +kernel
theorem dL_law_2078 : decode cL_law 2078 = .ok (.invokevirtual 280, 3) := by decide +kernel
theorem dL_law_2081 : decode cL_law 2081 = .ok (.istore 7, 2) := by decide +kernel
theorem dL_law_2083 : decode cL_law 2083 = .ok (.aload_n 2, 1) := by decide +kernel
theorem dL_law_2084 : decode cL_law 2084 = .ok (.invokevirtual 200, 3) := by decide +kernel
theorem dL_law_2087 : decode cL_law 2087 = .ok (.iload 6, 2) := by decide +kernel
theorem dL_law_2089 : decode cL_law 2089 = .ok (.if_icmp .eq 5, 3) := by decide +kernel
theorem dL_law_2092 : decode cL_law 2092 = .ok (.iconst 0, 1) := by decide +kernel
theorem dL_law_2093 : decode cL_law 2093 = .ok (.ireturn, 1) := by decide +kernel
theorem dL_law_2094 : decode cL_law 2094 = .ok (.iload 6, 2) := by decide +kernel
theorem dL_law_2096 : decode cL_law 2096 = .ok (.ifCond .ne 15, 3) := by decide +kernel
theorem dL_law_2099 : decode cL_law 2099 = .ok (.aload_n 3, 1) := by decide +kernel
theorem dL_law_2100 : decode cL_law 2100 = .ok (.iconst 0, 1) := by decide +kernel
theorem dL_law_2101 : decode cL_law 2101 = .ok (.laload, 1) := by decide +kernel
theorem dL_law_2102 : decode cL_law 2102 = .ok (.iload 7, 2) := by decide +kernel
theorem dL_law_2104 : decode cL_law 2104 = .ok (.i2l, 1) := by decide +kernel
theorem dL_law_2105 : decode cL_law 2105 = .ok (.lcmp, 1) := by decide +kernel
theorem dL_law_2106 : decode cL_law 2106 = .ok (.ifCond .eq 5, 3) := by decide +kernel
theorem dL_law_2109 : decode cL_law 2109 = .ok (.iconst 0, 1) := by decide +kernel
theorem dL_law_2110 : decode cL_law 2110 = .ok (.ireturn, 1) := by decide +kernel
theorem dL_law_2111 : decode cL_law 2111 = .ok (.goto 1513, 3) := by decide +kernel
set_option maxRecDepth 20000 in
theorem lw_addStock_c_c {p : Program} {l : Launch} {e : Env} {s : State} {m : MethodId} {args : Array Value} {below : List Frame} {meth : Method} {c : Code} {E : zE} {Q : State → Prop} {b0 L i ce sl : Nat} {xs : Nat → Int32} {σ : zS} (ni : Nat) (tx : Nat → Int) (ec : Nat) (eo : Int) (U : zSU) (S : zST) (hh : List zST) (kp : Option zST) (ou : List Nat) (n1 : Nat) (W : zLW p l s m args meth c E b0 L xs) (hi : i + 6 ≤ L) (hcs : ce + 1 ≤ room_1.cells ∧ sl + 6 ≤ room_1.slots) (hR : zRel σ (zDv.mk ni tx ec eo U S hh kp ou)) (hx1 : xs (i + 1) = (zI (n1 : Int))) (ht0 : 8 ≤ n1 ∧ n1 ≤ 100) (hok1 : S.n < 16 ∧ sHas S.f (n1 : Int) S.n = false)  (kk : zNx p l e s m args below meth c E Q b0 i ce sl) : zV p l e room_1 s m args below meth c 9 E Q ce sl σ 2058 (lwL b0 i E) [] := by
  refine (?_ : zV p l e room_1 s m args below meth c 9 E Q ce sl σ 2058 [(0, .ref b0), (1, .ref (ob E 0)), (2, .ref (ob E 327)), (3, .ref (ob E 339)), (4, .ref (ob E 340)), (5, .int (zI (i : Int)))] [])
  have C := W.2.1
  have hfl := W.1
  have hroom : room_1.cells = 601024 ∧ room_1.slots = 7293034 := ⟨rfl, rfl⟩
  refine zv_aload_n C 1 dL_law_2058 rfl rfl ?_
  refine zv_aload_n C 0 dL_law_2059 rfl rfl ?_
  refine zv_iload C 5 dL_law_2060 rfl ?_
  refine zv_iconst (v := zI 1) C dL_law_2062 rfl ?_
  refine zv_iaddZ C dL_law_2063 ?_
  refine zv_sld (j := i + 1) (v := (zI (n1 : Int))) C W.2.2.1 W.2.2.2.1 W.2.2.2.2.1 W.2.2.2.2.2 (zI_ix (by omega)) (by omega) hx1 dL_law_2064 ?_
  refine zv_aload_n C 3 dL_law_2065 rfl rfl ?_
  refine zv_cH (st := []) C (w_c_X10_addStock hfl E σ ni tx ec eo U S hh kp ou n1 hR.1 (by first | assumption | omega) (by first | assumption | omega)) mL_addStock kL_278 rfl ⟨rfl, rfl⟩ (show zfit (zrm 5 145) 4 room_1 = true from rfl) (Nat.le_of_ble_eq_true rfl) dL_law_2066 ⟨by omega, by omega⟩ (fun r2066 τ2066 hp2066 => ?_)
  obtain ⟨hr0, v9, υ9, hP9, hτ9⟩ := hp2066
  refine zv_eqi (y := zI 0) hr0 ?_
  obtain ⟨hv9, hC9, hF9⟩ := hP9
  have hC1 := zCP_w (τ := τ2066) hC9 (fun x y hx => by rw [hτ9]; exact ⟨rfl, by first | rfl | rw [gJ_sJ, if_neg (by omega)]⟩)
  have hM1 : zMP τ2066 (zDv.mk ni tx ec eo U S hh kp ou) := by rw [hτ9]; exact (zMP_fr hR.2 hF9 : zMP υ9 (zDv.mk ni tx ec eo U S hh kp ou))
  have ho9 : gJ τ2066 339 0 = v9.toInt64 := by rw [hτ9, gJ_sJ, if_pos ⟨rfl, rfl⟩]
  rw [hv9] at ho9
  refine zv_istore (lv' := [(6, .int (zI 0)), (0, .ref b0), (1, .ref (ob E 0)), (2, .ref (ob E 327)), (3, .ref (ob E 339)), (4, .ref (ob E 340)), (5, .int (zI (i : Int)))]) C dL_law_2069  (by decide) rfl ?_
  refine zv_aload_n C 3 dL_law_2071 rfl rfl ?_
  refine zv_aload_n C 1 dL_law_2072 rfl rfl ?_
  refine zv_iload C 6 dL_law_2073 rfl ?_
  refine zv_iconst (v := zI 1) C dL_law_2075 rfl ?_
  refine zv_iaddZ C dL_law_2076 ?_
  refine zv_sld (j := i + 1) (v := (zI (n1 : Int))) C W.2.2.1 W.2.2.2.1 W.2.2.2.2.1 W.2.2.2.2.2 (zI_ix (by omega)) (by omega) hx1 dL_law_2077 ?_
  refine zv_cvi (st := []) C (c_X11_addStock hfl E τ2066 σ ni tx ec eo U S hh kp ou n1 hM1 hR.1.2.2.1 hR.1.2.2.2.1.1 (by first | assumption | omega) (by first | assumption | omega)) mX11_addStock kL_280 (by decide : kd 327 = 10) rfl rfl rfl ⟨rfl, rfl⟩ (show zfit (zrm 1 25) 2 room_1 = true from rfl) (Nat.le_of_ble_eq_true rfl) dL_law_2078 ⟨by omega, by omega⟩ (fun r2078 τ2078 hp2078 => ?_)
  obtain ⟨hr2, hK2⟩ := hp2078
  refine zv_eqi (y := zI ((S.n + 1 : Nat) : Int)) hr2 ?_
  have hR2 : zRel τ2078 _ := ⟨zCP_fr hC1 hK2.2.2, hK2.1⟩
  have ht2 : gI τ2078 327 10 = zI 0 := hK2.2.1
  have hJ2 : gJ τ2078 339 0 = gJ τ2066 339 0 := hK2.2.2.2.1 339 0 (by decide)
  refine zv_istore (lv' := [(7, .int (zI ((S.n + 1 : Nat) : Int))), (6, .int (zI 0)), (0, .ref b0), (1, .ref (ob E 0)), (2, .ref (ob E 327)), (3, .ref (ob E 339)), (4, .ref (ob E 340)), (5, .int (zI (i : Int)))]) C dL_law_2081  (by decide) rfl ?_
  refine zv_aload_n C 4 dL_law_2083 rfl rfl ?_
  refine zv_cviD (st := []) C (c_X11_thrown hfl E τ2078) mX11_thrown kL_200 (by decide : kd 327 = 10) rfl rfl rfl ⟨rfl, rfl⟩ (show zfit (zrm 0 0) 1 room_1 = true from rfl) (Nat.le_of_ble_eq_true rfl) dL_law_2084 ⟨by omega, by omega⟩ ?_
  refine zv_eqi (y := (zI 0)) (ht2) ?_
  refine zv_iload C 1 dL_law_2087 rfl ?_
  refine zv_icmp_eqZ (tgt := 2094) C (by omega) (by omega) dL_law_2089 (by decide) (fun h2089 => ?_) (fun h2089 => ?_)
  · skip
    refine zv_iload C 1 dL_law_2094 rfl ?_
    refine zv_if_neZ (tgt := 2111) C (by omega) dL_law_2096 (by decide) (fun h2096 => absurd h2096 (by decide)) (fun h2096 => ?_)
    refine zv_aload_n C 5 dL_law_2099 rfl rfl ?_
    refine zv_iconst (v := zI 0) C dL_law_2100 rfl ?_
    refine zv_lald (j := 0) C (by decide : kd 339 = _) (zI_ix (by omega)) (by decide) dL_law_2101 ?_
    refine zv_eql (y := ((zI ((S.n + 1 : Nat) : Int)).toInt64)) (hJ2.trans ho9) ?_
    refine zv_iload C 0 dL_law_2102 rfl ?_
    refine zv_i2l C dL_law_2104 ?_
    refine zv_lc_eq (tgt := 2111) C dL_law_2105 dL_law_2106 (by decide) (fun h2105 => ?_) (fun h2105 => ?_)
    · skip
      refine zv_goto (tgt := 3624) C dL_law_2111 (by decide) ?_
      refine zv_sub (lv' := [(0, .ref b0), (1, .ref (ob E 0)), (2, .ref (ob E 327)), (3, .ref (ob E 339)), (4, .ref (ob E 340)), (5, .int (zI (i : Int)))]) [2, 3, 4, 5, 6, 7] (zcons rfl (zcons rfl (zcons rfl (zcons rfl (zcons rfl (zcons rfl rfl)))))) ?_
      exact kk _ _ _ _ (by omega) (by omega) hR2
    · exfalso
      exact h2105 rfl
  · exfalso
    omega
set_option maxRecDepth 20000 in
theorem lw_addStock_x1_x1 {p : Program} {l : Launch} {e : Env} {s : State} {m : MethodId} {args : Array Value} {below : List Frame} {meth : Method} {c : Code} {E : zE} {Q : State → Prop} {b0 L i ce sl : Nat} {xs : Nat → Int32} {σ : zS} (ni : Nat) (tx : Nat → Int) (ec : Nat) (eo : Int) (U : zSU) (S : zST) (hh : List zST) (kp : Option zST) (ou : List Nat) (v1 : Int) (W : zLW p l s m args meth c E b0 L xs) (hi : i + 6 ≤ L) (hcs : ce + 1 ≤ room_1.cells ∧ sl + 6 ≤ room_1.slots) (hR : zRel σ (zDv.mk ni tx ec eo U S hh kp ou)) (hx1 : xs (i + 1) = (zI v1)) (hyi0 : -2147483648 ≤ v1 ∧ v1 < 2147483648) (hno1 : ¬ (8 ≤ v1 ∧ v1 ≤ 100))  (kk : zNx p l e s m args below meth c E Q b0 i ce sl) : zV p l e room_1 s m args below meth c 9 E Q ce sl σ 2058 (lwL b0 i E) [] := by
  refine (?_ : zV p l e room_1 s m args below meth c 9 E Q ce sl σ 2058 [(0, .ref b0), (1, .ref (ob E 0)), (2, .ref (ob E 327)), (3, .ref (ob E 339)), (4, .ref (ob E 340)), (5, .int (zI (i : Int)))] [])
  have C := W.2.1
  have hfl := W.1
  have hroom : room_1.cells = 601024 ∧ room_1.slots = 7293034 := ⟨rfl, rfl⟩
  refine zv_aload_n C 1 dL_law_2058 rfl rfl ?_
  refine zv_aload_n C 0 dL_law_2059 rfl rfl ?_
  refine zv_iload C 5 dL_law_2060 rfl ?_
  refine zv_iconst (v := zI 1) C dL_law_2062 rfl ?_
  refine zv_iaddZ C dL_law_2063 ?_
  refine zv_sld (j := i + 1) (v := (zI v1)) C W.2.2.1 W.2.2.2.1 W.2.2.2.2.1 W.2.2.2.2.2 (zI_ix (by omega)) (by omega) hx1 dL_law_2064 ?_
  refine zv_aload_n C 3 dL_law_2065 rfl rfl ?_
  refine zv_cH (st := []) C (w_x1_X10_addStock hfl E σ v1 (by first | assumption | omega) (by first | assumption | omega)) mL_addStock kL_278 rfl ⟨rfl, rfl⟩ (show zfit (zrx 10 221) 4 room_1 = true from rfl) (Nat.le_of_ble_eq_true rfl) dL_law_2066 ⟨by exact hcs.1, by exact hcs.2⟩ (fun r2066 τ2066 hp2066 => ?_)
  obtain ⟨hr0, hP9⟩ := hp2066
  refine zv_eqi (y := zI 1) hr0 ?_
  have hF9 : zFr 318 327 σ τ2066 := by rw [hP9]; exact (by first | exact zFr_refl _ _ _ | exact zFr_rW (zFr_refl _ _ _) (by omega) | exact zFr_rW (zFr_rW (zFr_refl _ _ _) (by omega)) (by omega) | exact qW_f _ _ _ _ | exact qM_f _ _ _ _ _ | exact rW2_f _ _ _ _ _ | exact rW3_f _ _ _ _ _ | exact alW_f _ _ _ _ _ | (split <;> first | exact zFr_refl _ _ _ | exact bW_f _ _ _ _) | assumption)
  have hR1 : zRel τ2066 (zDv.mk ni tx ec eo U S hh kp ou) := zRel_c hR hF9
  refine zv_istore (lv' := [(6, .int (zI 1)), (0, .ref b0), (1, .ref (ob E 0)), (2, .ref (ob E 327)), (3, .ref (ob E 339)), (4, .ref (ob E 340)), (5, .int (zI (i : Int)))]) C dL_law_2069  (by decide) rfl ?_
  refine zv_aload_n C 3 dL_law_2071 rfl rfl ?_
  refine zv_aload_n C 1 dL_law_2072 rfl rfl ?_
  refine zv_iload C 6 dL_law_2073 rfl ?_
  refine zv_iconst (v := zI 1) C dL_law_2075 rfl ?_
  refine zv_iaddZ C dL_law_2076 ?_
  refine zv_sld (j := i + 1) (v := (zI v1)) C W.2.2.1 W.2.2.2.1 W.2.2.2.2.1 W.2.2.2.2.2 (zI_ix (by omega)) (by omega) hx1 dL_law_2077 ?_
  refine zv_cvi (st := []) C (x1_X11_addStock hfl E τ2066 U.nb S v1 hR1.2.2.2.2.2.1.1 (by first | assumption | omega) (by first | assumption | omega)) mX11_addStock kL_280 (by decide : kd 327 = 10) rfl rfl rfl ⟨rfl, rfl⟩ (show zfit (zrm 1 25) 2 room_1 = true from rfl) (Nat.le_of_ble_eq_true rfl) dL_law_2078 ⟨by omega, by omega⟩ (fun r2078 τ2078 hp2078 => ?_)
  obtain ⟨hr2, hK2⟩ := hp2078
  refine zv_eqi (y := zI 0) hr2 ?_
  have hR2 : zRel τ2078 (zDv.mk ni tx ec eo U S hh kp ou) := zRel_m hR1 hK2
  have ht2 : gI τ2078 327 10 = zI 1 := hK2.2
  have hJ2 : gJ τ2078 339 0 = gJ τ2066 339 0 := hK2.1.2.1 339 0 (by decide)
  have hD2 : gD τ2078 340 0 = gD τ2066 340 0 := hK2.1.2.2 340 0
  refine zv_istore (lv' := [(7, .int (zI 0)), (6, .int (zI 1)), (0, .ref b0), (1, .ref (ob E 0)), (2, .ref (ob E 327)), (3, .ref (ob E 339)), (4, .ref (ob E 340)), (5, .int (zI (i : Int)))]) C dL_law_2081  (by decide) rfl ?_
  refine zv_aload_n C 4 dL_law_2083 rfl rfl ?_
  refine zv_cviD (st := []) C (c_X11_thrown hfl E τ2078) mX11_thrown kL_200 (by decide : kd 327 = 10) rfl rfl rfl ⟨rfl, rfl⟩ (show zfit (zrm 0 0) 1 room_1 = true from rfl) (Nat.le_of_ble_eq_true rfl) dL_law_2084 ⟨by omega, by omega⟩ ?_
  refine zv_eqi (y := (zI 1)) (ht2) ?_
  refine zv_iload C 1 dL_law_2087 rfl ?_
  refine zv_icmp_eqZ (tgt := 2094) C (by omega) (by omega) dL_law_2089 (by decide) (fun h2089 => ?_) (fun h2089 => ?_)
  · skip
    refine zv_iload C 1 dL_law_2094 rfl ?_
    refine zv_if_neZ (tgt := 2111) C (by omega) dL_law_2096 (by decide) (fun h2096 => ?_) (fun h2096 => absurd h2096 (by decide))
    refine zv_goto (tgt := 3624) C dL_law_2111 (by decide) ?_
    refine zv_sub (lv' := [(0, .ref b0), (1, .ref (ob E 0)), (2, .ref (ob E 327)), (3, .ref (ob E 339)), (4, .ref (ob E 340)), (5, .int (zI (i : Int)))]) [2, 3, 4, 5, 6, 7] (zcons rfl (zcons rfl (zcons rfl (zcons rfl (zcons rfl (zcons rfl rfl)))))) ?_
    exact kk _ _ _ _ (by omega) (by omega) hR2
  · exfalso
    omega
set_option maxRecDepth 20000 in
theorem lw_addStock_x2_x2 {p : Program} {l : Launch} {e : Env} {s : State} {m : MethodId} {args : Array Value} {below : List Frame} {meth : Method} {c : Code} {E : zE} {Q : State → Prop} {b0 L i ce sl : Nat} {xs : Nat → Int32} {σ : zS} (ni : Nat) (tx : Nat → Int) (ec : Nat) (eo : Int) (U : zSU) (S : zST) (hh : List zST) (kp : Option zST) (ou : List Nat) (n1 : Nat) (W : zLW p l s m args meth c E b0 L xs) (hi : i + 6 ≤ L) (hcs : ce + 1 ≤ room_1.cells ∧ sl + 6 ≤ room_1.slots) (hR : zRel σ (zDv.mk ni tx ec eo U S hh kp ou)) (hx1 : xs (i + 1) = (zI (n1 : Int))) (ht0 : 8 ≤ n1 ∧ n1 ≤ 100) (hno1 : ¬ (S.n < 16 ∧ sHas S.f (n1 : Int) S.n = false))  (kk : zNx p l e s m args below meth c E Q b0 i ce sl) : zV p l e room_1 s m args below meth c 9 E Q ce sl σ 2058 (lwL b0 i E) [] := by
  refine (?_ : zV p l e room_1 s m args below meth c 9 E Q ce sl σ 2058 [(0, .ref b0), (1, .ref (ob E 0)), (2, .ref (ob E 327)), (3, .ref (ob E 339)), (4, .ref (ob E 340)), (5, .int (zI (i : Int)))] [])
  have C := W.2.1
  have hfl := W.1
  have hroom : room_1.cells = 601024 ∧ room_1.slots = 7293034 := ⟨rfl, rfl⟩
  refine zv_aload_n C 1 dL_law_2058 rfl rfl ?_
  refine zv_aload_n C 0 dL_law_2059 rfl rfl ?_
  refine zv_iload C 5 dL_law_2060 rfl ?_
  refine zv_iconst (v := zI 1) C dL_law_2062 rfl ?_
  refine zv_iaddZ C dL_law_2063 ?_
  refine zv_sld (j := i + 1) (v := (zI (n1 : Int))) C W.2.2.1 W.2.2.2.1 W.2.2.2.2.1 W.2.2.2.2.2 (zI_ix (by omega)) (by omega) hx1 dL_law_2064 ?_
  refine zv_aload_n C 3 dL_law_2065 rfl rfl ?_
  refine zv_cH (st := []) C (w_x2_X10_addStock hfl E σ S n1 hR.1.2.2.2.1.1 (by first | assumption | omega) (by first | assumption | omega)) mL_addStock kL_278 rfl ⟨rfl, rfl⟩ (show zfit (zrx 10 221) 4 room_1 = true from rfl) (Nat.le_of_ble_eq_true rfl) dL_law_2066 ⟨by exact hcs.1, by exact hcs.2⟩ (fun r2066 τ2066 hp2066 => ?_)
  obtain ⟨hr0, hP9⟩ := hp2066
  refine zv_eqi (y := zI 2) hr0 ?_
  have hF9 : zFr 318 327 σ τ2066 := by rw [hP9]; exact (by first | exact zFr_refl _ _ _ | exact zFr_rW (zFr_refl _ _ _) (by omega) | exact zFr_rW (zFr_rW (zFr_refl _ _ _) (by omega)) (by omega) | exact qW_f _ _ _ _ | exact qM_f _ _ _ _ _ | exact rW2_f _ _ _ _ _ | exact rW3_f _ _ _ _ _ | exact alW_f _ _ _ _ _ | (split <;> first | exact zFr_refl _ _ _ | exact bW_f _ _ _ _) | assumption)
  have hR1 : zRel τ2066 (zDv.mk ni tx ec eo U S hh kp ou) := zRel_c hR hF9
  refine zv_istore (lv' := [(6, .int (zI 2)), (0, .ref b0), (1, .ref (ob E 0)), (2, .ref (ob E 327)), (3, .ref (ob E 339)), (4, .ref (ob E 340)), (5, .int (zI (i : Int)))]) C dL_law_2069  (by decide) rfl ?_
  refine zv_aload_n C 3 dL_law_2071 rfl rfl ?_
  refine zv_aload_n C 1 dL_law_2072 rfl rfl ?_
  refine zv_iload C 6 dL_law_2073 rfl ?_
  refine zv_iconst (v := zI 1) C dL_law_2075 rfl ?_
  refine zv_iaddZ C dL_law_2076 ?_
  refine zv_sld (j := i + 1) (v := (zI (n1 : Int))) C W.2.2.1 W.2.2.2.1 W.2.2.2.2.1 W.2.2.2.2.2 (zI_ix (by omega)) (by omega) hx1 dL_law_2077 ?_
  refine zv_cvi (st := []) C (x2_X11_addStock hfl E τ2066 σ U S n1 hR1.2.2.2.1 hR.1.2.2.1 hR1.2.2.2.2.2.1.1 hR.1.2.2.2.1.1 (by first | assumption | omega) (by first | assumption | omega)) mX11_addStock kL_280 (by decide : kd 327 = 10) rfl rfl rfl ⟨rfl, rfl⟩ (show zfit (zrm 1 25) 2 room_1 = true from rfl) (Nat.le_of_ble_eq_true rfl) dL_law_2078 ⟨by omega, by omega⟩ (fun r2078 τ2078 hp2078 => ?_)
  obtain ⟨hr2, hK2⟩ := hp2078
  refine zv_eqi (y := zI 0) hr2 ?_
  have hR2 : zRel τ2078 (zDv.mk ni tx ec eo U S hh kp ou) := zRel_m hR1 hK2
  have ht2 : gI τ2078 327 10 = zI 2 := hK2.2
  have hJ2 : gJ τ2078 339 0 = gJ τ2066 339 0 := hK2.1.2.1 339 0 (by decide)
  have hD2 : gD τ2078 340 0 = gD τ2066 340 0 := hK2.1.2.2 340 0
  refine zv_istore (lv' := [(7, .int (zI 0)), (6, .int (zI 2)), (0, .ref b0), (1, .ref (ob E 0)), (2, .ref (ob E 327)), (3, .ref (ob E 339)), (4, .ref (ob E 340)), (5, .int (zI (i : Int)))]) C dL_law_2081  (by decide) rfl ?_
  refine zv_aload_n C 4 dL_law_2083 rfl rfl ?_
  refine zv_cviD (st := []) C (c_X11_thrown hfl E τ2078) mX11_thrown kL_200 (by decide : kd 327 = 10) rfl rfl rfl ⟨rfl, rfl⟩ (show zfit (zrm 0 0) 1 room_1 = true from rfl) (Nat.le_of_ble_eq_true rfl) dL_law_2084 ⟨by omega, by omega⟩ ?_
  refine zv_eqi (y := (zI 2)) (ht2) ?_
  refine zv_iload C 1 dL_law_2087 rfl ?_
  refine zv_icmp_eqZ (tgt := 2094) C (by omega) (by omega) dL_law_2089 (by decide) (fun h2089 => ?_) (fun h2089 => ?_)
  · skip
    refine zv_iload C 1 dL_law_2094 rfl ?_
    refine zv_if_neZ (tgt := 2111) C (by omega) dL_law_2096 (by decide) (fun h2096 => ?_) (fun h2096 => absurd h2096 (by decide))
    refine zv_goto (tgt := 3624) C dL_law_2111 (by decide) ?_
    refine zv_sub (lv' := [(0, .ref b0), (1, .ref (ob E 0)), (2, .ref (ob E 327)), (3, .ref (ob E 339)), (4, .ref (ob E 340)), (5, .int (zI (i : Int)))]) [2, 3, 4, 5, 6, 7] (zcons rfl (zcons rfl (zcons rfl (zcons rfl (zcons rfl (zcons rfl rfl)))))) ?_
    exact kk _ _ _ _ (by omega) (by omega) hR2
  · exfalso
    omega
theorem LK_30 {p : Program} {l : Launch} {e : Env} {s : State} {m : MethodId} {args : Array Value} {below : List Frame} {meth : Method} {c : Code} {E : zE} {Q : State → Prop} {b0 L i ce sl : Nat} {xs : Nat → Int32} {σ : zS} (ni : Nat) (tx : Nat → Int) (ec : Nat) (eo : Int) (U : zSU) (S : zST) (hh : List zST) (kp : Option zST) (ou : List Nat) (hFN : zFN) (W : zLW p l s m args meth c E b0 L xs) (hi : i + 6 ≤ L) (hcs : ce + 1 ≤ room_1.cells ∧ sl + 6 ≤ room_1.slots) (hR : zRel σ (zDv.mk ni tx ec eo U S hh kp ou)) (kk : zNx p l e s m args below meth c E Q b0 i ce sl) : zV p l e room_1 s m args below meth c 9 E Q ce sl σ 2058 (lwL b0 i E) [] := by
  obtain ⟨v1, hx1, hv1⟩ := zI_cov (xs (i + 1))
  by_cases g1 : 8 ≤ v1 ∧ v1 ≤ 100
  case neg =>
    exact lw_addStock_x1_x1 _ _ _ _ _ _ _ _ _ _ W hi hcs hR hx1 (by first | assumption | omega) (by first | assumption | omega) kk
  obtain ⟨n1, rfl⟩ := Int.eq_ofNat_of_zero_le (show 0 ≤ v1 by omega)
  by_cases g2 : S.n < 16 ∧ sHas S.f (n1 : Int) S.n = false
  case neg =>
    exact lw_addStock_x2_x2 _ _ _ _ _ _ _ _ _ _ W hi hcs hR hx1 (by first | assumption | omega) (by first | assumption | omega) kk
  exact lw_addStock_c_c _ _ _ _ _ _ _ _ _ _ W hi hcs hR hx1 (by first | assumption | omega) (by first | assumption | omega) kk
theorem dL_law_2139 : decode cL_law 2139 = .ok (.aload_n 1, 1) := by decide +kernel
theorem dL_law_2140 : decode cL_law 2140 = .ok (.aload_n 0, 1) := by decide +kernel
theorem dL_law_2141 : decode cL_law 2141 = .ok (.iload 5, 2) := by decide +kernel
theorem dL_law_2143 : decode cL_law 2143 = .ok (.iconst 1, 1) := by decide +kernel
theorem dL_law_2144 : decode cL_law 2144 = .ok (.iadd, 1) := by decide +kernel
theorem dL_law_2145 : decode cL_law 2145 = .ok (.iaload, 1) := by decide +kernel
theorem dL_law_2146 : decode cL_law 2146 = .ok (.aload_n 3, 1) := by decide +kernel
theorem dL_law_2147 : decode cL_law 2147 = .ok (.invokestatic 285, 3) := by decide +kernel
theorem dL_law_2150 : decode cL_law 2150 = .ok (.istore 6, 2) := by decide +kernel
theorem dL_law_2152 : decode cL_law 2152 = .ok (.aload_n 2, 1) := by decide +kernel
theorem dL_law_2153 : decode cL_law 2153 = .ok (.aload_n 0, 1) := by decide +kernel
theorem dL_law_2154 : decode cL_law 2154 = .ok (.iload 5, 2) := by decide +kernel
theorem dL_law_2156 : decode cL_law 2156 = .ok (.iconst 1, 1) := by decide +kernel
theorem dL_law_2157 : decode cL_law 2157 = .ok (.iadd, 1) := by decide +kernel
theorem dL_law_2158 : decode cL_law 2158 = .ok (.iaload, 1) := by decide +kernel
theorem dL_law_2159 : decode cL_law 2159 = .ok (.invokevirtual 287, 3) := by decide +kernel
theorem dL_law_2162 : decode cL_law 2162 = .ok (.istore 7, 2) := by decide +kernel
theorem dL_law_2164 : decode cL_law 2164 = .ok (.aload_n 2, 1) := by decide +kernel
theorem dL_law_2165 : decode cL_law 2165 = .ok (.invokevirtual 200, 3) := by decide +kernel
theorem dL_law_2168 : decode cL_law 2168 = .ok (.iload 6, 2) := by decide +kernel
theorem dL_law_2170 : decode cL_law 2170 = .ok (.if_icmp .eq 5, 3) := by decide +kernel
theorem dL_law_2173 : decode cL_law 2173 = .ok (.iconst 0, 1) := by decide +kernel
theorem dL_law_2174 : decode cL_law 2174 = .ok (.ireturn, 1) := by decide +kernel
theorem dL_law_2175 : decode cL_law 2175 = .ok (.iload 6, 2) := by decide +kernel
theorem dL_law_2177 : decode cL_law 2177 = .ok (.ifCond .ne 15, 3) := by decide +kernel
theorem dL_law_2180 : decode cL_law 2180 = .ok (.aload_n 3, 1) := by decide +kernel
theorem dL_law_2181 : decode cL_law 2181 = .ok (.iconst 0, 1) := by decide +kernel
theorem dL_law_2182 : decode cL_law 2182 = .ok (.laload, 1) := by decide +kernel
theorem dL_law_2183 : decode cL_law 2183 = .ok (.iload 7, 2) := by decide +kernel
theorem dL_law_2185 : decode cL_law 2185 = .ok (.i2l, 1) := by decide +kernel
theorem dL_law_2186 : decode cL_law 2186 = .ok (.lcmp, 1) := by decide +kernel
theorem dL_law_2187 : decode cL_law 2187 = .ok (.ifCond .eq 5, 3) := by decide +kernel
theorem dL_law_2190 : decode cL_law 2190 = .ok (.iconst 0, 1) := by decide +kernel
theorem dL_law_2191 : decode cL_law 2191 = .ok (.ireturn, 1) := by decide +kernel
theorem dL_law_2192 : decode cL_law 2192 = .ok (.goto 1432, 3) := by decide +kernel
set_option maxRecDepth 20000 in
theorem lw_setSlack_c_c {p : Program} {l : Launch} {e : Env} {s : State} {m : MethodId} {args : Array Value} {below : List Frame} {meth : Method} {c : Code} {E : zE} {Q : State → Prop} {b0 L i ce sl : Nat} {xs : Nat → Int32} {σ : zS} (ni : Nat) (tx : Nat → Int) (ec : Nat) (eo : Int) (U : zSU) (S : zST) (hh : List zST) (kp : Option zST) (ou : List Nat) (n1 : Nat) (W : zLW p l s m args meth c E b0 L xs) (hi : i + 6 ≤ L) (hcs : ce + 1 ≤ room_1.cells ∧ sl + 6 ≤ room_1.slots) (hR : zRel σ (zDv.mk ni tx ec eo U S hh kp ou)) (hx1 : xs (i + 1) = (zI (n1 : Int))) (ht0 : n1 ≤ 999)  (kk : zNx p l e s m args below meth c E Q b0 i ce sl) : zV p l e room_1 s m args below meth c 9 E Q ce sl σ 2139 (lwL b0 i E) [] := by
  refine (?_ : zV p l e room_1 s m args below meth c 9 E Q ce sl σ 2139 [(0, .ref b0), (1, .ref (ob E 0)), (2, .ref (ob E 327)), (3, .ref (ob E 339)), (4, .ref (ob E 340)), (5, .int (zI (i : Int)))] [])
  have C := W.2.1
  have hfl := W.1
  have hroom : room_1.cells = 601024 ∧ room_1.slots = 7293034 := ⟨rfl, rfl⟩
  refine zv_aload_n C 1 dL_law_2139 rfl rfl ?_
  refine zv_aload_n C 0 dL_law_2140 rfl rfl ?_
  refine zv_iload C 5 dL_law_2141 rfl ?_
  refine zv_iconst (v := zI 1) C dL_law_2143 rfl ?_
  refine zv_iaddZ C dL_law_2144 ?_
  refine zv_sld (j := i + 1) (v := (zI (n1 : Int))) C W.2.2.1 W.2.2.2.1 W.2.2.2.2.1 W.2.2.2.2.2 (zI_ix (by omega)) (by omega) hx1 dL_law_2145 ?_
  refine zv_aload_n C 3 dL_law_2146 rfl rfl ?_
  refine zv_cH (st := []) C (w_c_X10_setSlack hfl E σ ni tx ec eo U S hh kp ou n1 hR.1 (by first | assumption | omega)) mL_setSlack kL_285 rfl ⟨rfl, rfl⟩ (show zfit (zrm 5 146) 4 room_1 = true from rfl) (Nat.le_of_ble_eq_true rfl) dL_law_2147 ⟨by omega, by omega⟩ (fun r2147 τ2147 hp2147 => ?_)
  obtain ⟨hr0, v9, υ9, hP9, hτ9⟩ := hp2147
  refine zv_eqi (y := zI 0) hr0 ?_
  obtain ⟨hv9, hC9, hF9⟩ := hP9
  have hC1 := zCP_w (τ := τ2147) hC9 (fun x y hx => by rw [hτ9]; exact ⟨rfl, by first | rfl | rw [gJ_sJ, if_neg (by omega)]⟩)
  have hM1 : zMP τ2147 (zDv.mk ni tx ec eo U S hh kp ou) := by rw [hτ9]; exact (zMP_fr hR.2 hF9 : zMP υ9 (zDv.mk ni tx ec eo U S hh kp ou))
  have ho9 : gJ τ2147 339 0 = v9.toInt64 := by rw [hτ9, gJ_sJ, if_pos ⟨rfl, rfl⟩]
  rw [hv9] at ho9
  refine zv_istore (lv' := [(6, .int (zI 0)), (0, .ref b0), (1, .ref (ob E 0)), (2, .ref (ob E 327)), (3, .ref (ob E 339)), (4, .ref (ob E 340)), (5, .int (zI (i : Int)))]) C dL_law_2150  (by decide) rfl ?_
  refine zv_aload_n C 3 dL_law_2152 rfl rfl ?_
  refine zv_aload_n C 1 dL_law_2153 rfl rfl ?_
  refine zv_iload C 6 dL_law_2154 rfl ?_
  refine zv_iconst (v := zI 1) C dL_law_2156 rfl ?_
  refine zv_iaddZ C dL_law_2157 ?_
  refine zv_sld (j := i + 1) (v := (zI (n1 : Int))) C W.2.2.1 W.2.2.2.1 W.2.2.2.2.1 W.2.2.2.2.2 (zI_ix (by omega)) (by omega) hx1 dL_law_2158 ?_
  refine zv_cvi (st := []) C (c_X11_setSlack hfl E τ2147 σ ni tx ec eo U S hh kp ou n1 hM1 hR.1.2.2.1 hR.1.2.2.2.1.1 (by first | assumption | omega)) mX11_setSlack kL_287 (by decide : kd 327 = 10) rfl rfl rfl ⟨rfl, rfl⟩ (show zfit (zrm 1 25) 4 room_1 = true from rfl) (Nat.le_of_ble_eq_true rfl) dL_law_2159 ⟨by omega, by omega⟩ (fun r2159 τ2159 hp2159 => ?_)
  obtain ⟨hr2, hK2⟩ := hp2159
  refine zv_eqi (y := zI (S.sl : Int)) hr2 ?_
  have hR2 : zRel τ2159 _ := ⟨zCP_fr hC1 hK2.2.2, hK2.1⟩
  have ht2 : gI τ2159 327 10 = zI 0 := hK2.2.1
  have hJ2 : gJ τ2159 339 0 = gJ τ2147 339 0 := hK2.2.2.2.1 339 0 (by decide)
  refine zv_istore (lv' := [(7, .int (zI (S.sl : Int))), (6, .int (zI 0)), (0, .ref b0), (1, .ref (ob E 0)), (2, .ref (ob E 327)), (3, .ref (ob E 339)), (4, .ref (ob E 340)), (5, .int (zI (i : Int)))]) C dL_law_2162  (by decide) rfl ?_
  refine zv_aload_n C 4 dL_law_2164 rfl rfl ?_
  refine zv_cviD (st := []) C (c_X11_thrown hfl E τ2159) mX11_thrown kL_200 (by decide : kd 327 = 10) rfl rfl rfl ⟨rfl, rfl⟩ (show zfit (zrm 0 0) 1 room_1 = true from rfl) (Nat.le_of_ble_eq_true rfl) dL_law_2165 ⟨by omega, by omega⟩ ?_
  refine zv_eqi (y := (zI 0)) (ht2) ?_
  refine zv_iload C 1 dL_law_2168 rfl ?_
  refine zv_icmp_eqZ (tgt := 2175) C (by omega) (by omega) dL_law_2170 (by decide) (fun h2170 => ?_) (fun h2170 => ?_)
  · skip
    refine zv_iload C 1 dL_law_2175 rfl ?_
    refine zv_if_neZ (tgt := 2192) C (by omega) dL_law_2177 (by decide) (fun h2177 => absurd h2177 (by decide)) (fun h2177 => ?_)
    refine zv_aload_n C 5 dL_law_2180 rfl rfl ?_
    refine zv_iconst (v := zI 0) C dL_law_2181 rfl ?_
    refine zv_lald (j := 0) C (by decide : kd 339 = _) (zI_ix (by omega)) (by decide) dL_law_2182 ?_
    refine zv_eql (y := ((zI (S.sl : Int)).toInt64)) (hJ2.trans ho9) ?_
    refine zv_iload C 0 dL_law_2183 rfl ?_
    refine zv_i2l C dL_law_2185 ?_
    refine zv_lc_eq (tgt := 2192) C dL_law_2186 dL_law_2187 (by decide) (fun h2186 => ?_) (fun h2186 => ?_)
    · skip
      refine zv_goto (tgt := 3624) C dL_law_2192 (by decide) ?_
      refine zv_sub (lv' := [(0, .ref b0), (1, .ref (ob E 0)), (2, .ref (ob E 327)), (3, .ref (ob E 339)), (4, .ref (ob E 340)), (5, .int (zI (i : Int)))]) [2, 3, 4, 5, 6, 7] (zcons rfl (zcons rfl (zcons rfl (zcons rfl (zcons rfl (zcons rfl rfl)))))) ?_
      exact kk _ _ _ _ (by omega) (by omega) hR2
    · exfalso
      exact h2186 rfl
  · exfalso
    omega
set_option maxRecDepth 20000 in
theorem lw_setSlack_x1_x1 {p : Program} {l : Launch} {e : Env} {s : State} {m : MethodId} {args : Array Value} {below : List Frame} {meth : Method} {c : Code} {E : zE} {Q : State → Prop} {b0 L i ce sl : Nat} {xs : Nat → Int32} {σ : zS} (ni : Nat) (tx : Nat → Int) (ec : Nat) (eo : Int) (U : zSU) (S : zST) (hh : List zST) (kp : Option zST) (ou : List Nat) (v1 : Int) (W : zLW p l s m args meth c E b0 L xs) (hi : i + 6 ≤ L) (hcs : ce + 1 ≤ room_1.cells ∧ sl + 6 ≤ room_1.slots) (hR : zRel σ (zDv.mk ni tx ec eo U S hh kp ou)) (hx1 : xs (i + 1) = (zI v1)) (hyi0 : -2147483648 ≤ v1 ∧ v1 < 2147483648) (hno1 : ¬ (0 ≤ v1 ∧ v1 ≤ 999))  (kk : zNx p l e s m args below meth c E Q b0 i ce sl) : zV p l e room_1 s m args below meth c 9 E Q ce sl σ 2139 (lwL b0 i E) [] := by
  refine (?_ : zV p l e room_1 s m args below meth c 9 E Q ce sl σ 2139 [(0, .ref b0), (1, .ref (ob E 0)), (2, .ref (ob E 327)), (3, .ref (ob E 339)), (4, .ref (ob E 340)), (5, .int (zI (i : Int)))] [])
  have C := W.2.1
  have hfl := W.1
  have hroom : room_1.cells = 601024 ∧ room_1.slots = 7293034 := ⟨rfl, rfl⟩
  refine zv_aload_n C 1 dL_law_2139 rfl rfl ?_
  refine zv_aload_n C 0 dL_law_2140 rfl rfl ?_
  refine zv_iload C 5 dL_law_2141 rfl ?_
  refine zv_iconst (v := zI 1) C dL_law_2143 rfl ?_
  refine zv_iaddZ C dL_law_2144 ?_
  refine zv_sld (j := i + 1) (v := (zI v1)) C W.2.2.1 W.2.2.2.1 W.2.2.2.2.1 W.2.2.2.2.2 (zI_ix (by omega)) (by omega) hx1 dL_law_2145 ?_
  refine zv_aload_n C 3 dL_law_2146 rfl rfl ?_
  refine zv_cH (st := []) C (w_x1_X10_setSlack hfl E σ v1 (by first | assumption | omega) (by first | assumption | omega)) mL_setSlack kL_285 rfl ⟨rfl, rfl⟩ (show zfit (zrx 10 222) 4 room_1 = true from rfl) (Nat.le_of_ble_eq_true rfl) dL_law_2147 ⟨by exact hcs.1, by exact hcs.2⟩ (fun r2147 τ2147 hp2147 => ?_)
  obtain ⟨hr0, hP9⟩ := hp2147
  refine zv_eqi (y := zI 1) hr0 ?_
  have hF9 : zFr 318 327 σ τ2147 := by rw [hP9]; exact (by first | exact zFr_refl _ _ _ | exact zFr_rW (zFr_refl _ _ _) (by omega) | exact zFr_rW (zFr_rW (zFr_refl _ _ _) (by omega)) (by omega) | exact qW_f _ _ _ _ | exact qM_f _ _ _ _ _ | exact rW2_f _ _ _ _ _ | exact rW3_f _ _ _ _ _ | exact alW_f _ _ _ _ _ | (split <;> first | exact zFr_refl _ _ _ | exact bW_f _ _ _ _) | assumption)
  have hR1 : zRel τ2147 (zDv.mk ni tx ec eo U S hh kp ou) := zRel_c hR hF9
  refine zv_istore (lv' := [(6, .int (zI 1)), (0, .ref b0), (1, .ref (ob E 0)), (2, .ref (ob E 327)), (3, .ref (ob E 339)), (4, .ref (ob E 340)), (5, .int (zI (i : Int)))]) C dL_law_2150  (by decide) rfl ?_
  refine zv_aload_n C 3 dL_law_2152 rfl rfl ?_
  refine zv_aload_n C 1 dL_law_2153 rfl rfl ?_
  refine zv_iload C 6 dL_law_2154 rfl ?_
  refine zv_iconst (v := zI 1) C dL_law_2156 rfl ?_
  refine zv_iaddZ C dL_law_2157 ?_
  refine zv_sld (j := i + 1) (v := (zI v1)) C W.2.2.1 W.2.2.2.1 W.2.2.2.2.1 W.2.2.2.2.2 (zI_ix (by omega)) (by omega) hx1 dL_law_2158 ?_
  refine zv_cvi (st := []) C (x1_X11_setSlack hfl E τ2147 v1 (by first | assumption | omega) (by first | assumption | omega)) mX11_setSlack kL_287 (by decide : kd 327 = 10) rfl rfl rfl ⟨rfl, rfl⟩ (show zfit (zrm 1 25) 4 room_1 = true from rfl) (Nat.le_of_ble_eq_true rfl) dL_law_2159 ⟨by omega, by omega⟩ (fun r2159 τ2159 hp2159 => ?_)
  obtain ⟨hr2, hK2⟩ := hp2159
  refine zv_eqi (y := zI 0) hr2 ?_
  have hR2 : zRel τ2159 (zDv.mk ni tx ec eo U S hh kp ou) := zRel_m hR1 hK2
  have ht2 : gI τ2159 327 10 = zI 1 := hK2.2
  have hJ2 : gJ τ2159 339 0 = gJ τ2147 339 0 := hK2.1.2.1 339 0 (by decide)
  have hD2 : gD τ2159 340 0 = gD τ2147 340 0 := hK2.1.2.2 340 0
  refine zv_istore (lv' := [(7, .int (zI 0)), (6, .int (zI 1)), (0, .ref b0), (1, .ref (ob E 0)), (2, .ref (ob E 327)), (3, .ref (ob E 339)), (4, .ref (ob E 340)), (5, .int (zI (i : Int)))]) C dL_law_2162  (by decide) rfl ?_
  refine zv_aload_n C 4 dL_law_2164 rfl rfl ?_
  refine zv_cviD (st := []) C (c_X11_thrown hfl E τ2159) mX11_thrown kL_200 (by decide : kd 327 = 10) rfl rfl rfl ⟨rfl, rfl⟩ (show zfit (zrm 0 0) 1 room_1 = true from rfl) (Nat.le_of_ble_eq_true rfl) dL_law_2165 ⟨by omega, by omega⟩ ?_
  refine zv_eqi (y := (zI 1)) (ht2) ?_
  refine zv_iload C 1 dL_law_2168 rfl ?_
  refine zv_icmp_eqZ (tgt := 2175) C (by omega) (by omega) dL_law_2170 (by decide) (fun h2170 => ?_) (fun h2170 => ?_)
  · skip
    refine zv_iload C 1 dL_law_2175 rfl ?_
    refine zv_if_neZ (tgt := 2192) C (by omega) dL_law_2177 (by decide) (fun h2177 => ?_) (fun h2177 => absurd h2177 (by decide))
    refine zv_goto (tgt := 3624) C dL_law_2192 (by decide) ?_
    refine zv_sub (lv' := [(0, .ref b0), (1, .ref (ob E 0)), (2, .ref (ob E 327)), (3, .ref (ob E 339)), (4, .ref (ob E 340)), (5, .int (zI (i : Int)))]) [2, 3, 4, 5, 6, 7] (zcons rfl (zcons rfl (zcons rfl (zcons rfl (zcons rfl (zcons rfl rfl)))))) ?_
    exact kk _ _ _ _ (by omega) (by omega) hR2
  · exfalso
    omega
theorem LK_32 {p : Program} {l : Launch} {e : Env} {s : State} {m : MethodId} {args : Array Value} {below : List Frame} {meth : Method} {c : Code} {E : zE} {Q : State → Prop} {b0 L i ce sl : Nat} {xs : Nat → Int32} {σ : zS} (ni : Nat) (tx : Nat → Int) (ec : Nat) (eo : Int) (U : zSU) (S : zST) (hh : List zST) (kp : Option zST) (ou : List Nat) (hFN : zFN) (W : zLW p l s m args meth c E b0 L xs) (hi : i + 6 ≤ L) (hcs : ce + 1 ≤ room_1.cells ∧ sl + 6 ≤ room_1.slots) (hR : zRel σ (zDv.mk ni tx ec eo U S hh kp ou)) (kk : zNx p l e s m args below meth c E Q b0 i ce sl) : zV p l e room_1 s m args below meth c 9 E Q ce sl σ 2139 (lwL b0 i E) [] := by
  obtain ⟨v1, hx1, hv1⟩ := zI_cov (xs (i + 1))
  by_cases g1 : 0 ≤ v1 ∧ v1 ≤ 999
  case neg =>
    exact lw_setSlack_x1_x1 _ _ _ _ _ _ _ _ _ _ W hi hcs hR hx1 (by first | assumption | omega) (by first | assumption | omega) kk
  obtain ⟨n1, rfl⟩ := Int.eq_ofNat_of_zero_le (show 0 ≤ v1 by omega)
  exact lw_setSlack_c_c _ _ _ _ _ _ _ _ _ _ W hi hcs hR hx1 (by first | assumption | omega) kk
theorem dL_law_2195 : decode cL_law 2195 = .ok (.aload_n 1, 1) := by decide +kernel
theorem dL_law_2196 : decode cL_law 2196 = .ok (.aload_n 0, 1) := by decide +kernel
theorem dL_law_2197 : decode cL_law 2197 = .ok (.iload 5, 2) := by decide +kernel
theorem dL_law_2199 : decode cL_law 2199 = .ok (.iconst 1, 1) := by decide +kernel
theorem dL_law_2200 : decode cL_law 2200 = .ok (.iadd, 1) := by decide +kernel
theorem dL_law_2201 : decode cL_law 2201 = .ok (.iaload, 1) := by decide +kernel
theorem dL_law_2202 : decode cL_law 2202 = .ok (.aload_n 3, 1) := by decide +kernel
theorem dL_law_2203 : decode cL_law 2203 = .ok (.invokestatic 288, 3) := by decide +kernel
theorem dL_law_2206 : decode cL_law 2206 = .ok (.istore 6, 2) := by decide +kernel
theorem dL_law_2208 : decode cL_law 2208 = .ok (.aload_n 2, 1) := by decide +kernel
theorem dL_law_2209 : decode cL_law 2209 = .ok (.aload_n 0, 1) := by decide +kernel
theorem dL_law_2210 : decode cL_law 2210 = .ok (.iload 5, 2) := by decide +kernel
theorem dL_law_2212 : decode cL_law 2212 = .ok (.iconst 1, 1) := by decide +kernel
theorem dL_law_2213 : decode cL_law 2213 = .ok (.iadd, 1) := by decide +kernel
theorem dL_law_2214 : decode cL_law 2214 = .ok (.iaload, 1) := by decide +kernel
theorem dL_law_2215 : decode cL_law 2215 = .ok (.invokevirtual 290, 3) := by decide +kernel
theorem dL_law_2218 : decode cL_law 2218 = .ok (.istore 7, 2) := by decide +kernel
theorem dL_law_2220 : decode cL_law 2220 = .ok (.aload_n 2, 1) := by decide +kernel
theorem dL_law_2221 : decode cL_law 2221 = .ok (.invokevirtual 200, 3) := by decide +kernel
theorem dL_law_2224 : decode cL_law 2224 = .ok (.iload 6, 2) := by decide +kernel
theorem dL_law_2226 : decode cL_law 2226 = .ok (.if_icmp .eq 5, 3) := by decide +kernel
theorem dL_law_2229 : decode cL_law 2229 = .ok (.iconst 0, 1) := by decide +kernel
theorem dL_law_2230 : decode cL_law 2230 = .ok (.ireturn, 1) := by decide +kernel
theorem dL_law_2231 : decode cL_law 2231 = .ok (.iload 6, 2) := by decide +kernel
theorem dL_law_2233 : decode cL_law 2233 = .ok (.ifCond .ne 15, 3) := by decide +kernel
theorem dL_law_2236 : decode cL_law 2236 = .ok (.aload_n 3, 1) := by decide +kernel
theorem dL_law_2237 : decode cL_law 2237 = .ok (.iconst 0, 1) := by decide +kernel
theorem dL_law_2238 : decode cL_law 2238 = .ok (.laload, 1) := by decide +kernel
theorem dL_law_2239 : decode cL_law 2239 = .ok (.iload 7, 2) := by decide +kernel
theorem dL_law_2241 : decode cL_law 2241 = .ok (.i2l, 1) := by decide +kernel
theorem dL_law_2242 : decode cL_law 2242 = .ok (.lcmp, 1) := by decide +kernel
theorem dL_law_2243 : decode cL_law 2243 = .ok (.ifCond .eq 5, 3) := by decide +kernel
theorem dL_law_2246 : decode cL_law 2246 = .ok (.iconst 0, 1) := by decide +kernel
theorem dL_law_2247 : decode cL_law 2247 = .ok (.ireturn, 1) := by decide +kernel
theorem dL_law_2248 : decode cL_law 2248 = .ok (.goto 1376, 3) := by decide +kernel
set_option maxRecDepth 20000 in
theorem lw_crank_c_c {p : Program} {l : Launch} {e : Env} {s : State} {m : MethodId} {args : Array Value} {below : List Frame} {meth : Method} {c : Code} {E : zE} {Q : State → Prop} {b0 L i ce sl : Nat} {xs : Nat → Int32} {σ : zS} (ni : Nat) (tx : Nat → Int) (ec : Nat) (eo : Int) (U : zSU) (S : zST) (hh : List zST) (kp : Option zST) (ou : List Nat) (n1 : Nat) (W : zLW p l s m args meth c E b0 L xs) (hi : i + 6 ≤ L) (hcs : ce + 1 ≤ room_1.cells ∧ sl + 6 ≤ room_1.slots) (hR : zRel σ (zDv.mk ni tx ec eo U S hh kp ou)) (hx1 : xs (i + 1) = (zI (n1 : Int))) (hd40 : n1 ≤ 400000)  (kk : zNx p l e s m args below meth c E Q b0 i ce sl) : zV p l e room_1 s m args below meth c 9 E Q ce sl σ 2195 (lwL b0 i E) [] := by
  refine (?_ : zV p l e room_1 s m args below meth c 9 E Q ce sl σ 2195 [(0, .ref b0), (1, .ref (ob E 0)), (2, .ref (ob E 327)), (3, .ref (ob E 339)), (4, .ref (ob E 340)), (5, .int (zI (i : Int)))] [])
  have C := W.2.1
  have hfl := W.1
  have hroom : room_1.cells = 601024 ∧ room_1.slots = 7293034 := ⟨rfl, rfl⟩
  refine zv_aload_n C 1 dL_law_2195 rfl rfl ?_
  refine zv_aload_n C 0 dL_law_2196 rfl rfl ?_
  refine zv_iload C 5 dL_law_2197 rfl ?_
  refine zv_iconst (v := zI 1) C dL_law_2199 rfl ?_
  refine zv_iaddZ C dL_law_2200 ?_
  refine zv_sld (j := i + 1) (v := (zI (n1 : Int))) C W.2.2.1 W.2.2.2.1 W.2.2.2.2.1 W.2.2.2.2.2 (zI_ix (by omega)) (by omega) hx1 dL_law_2201 ?_
  refine zv_aload_n C 3 dL_law_2202 rfl rfl ?_
  refine zv_cH (st := []) C (w_c_X10_crank hfl E σ ni tx ec eo U S hh kp ou n1 hR.1 (by first | assumption | omega)) mL_crank kL_288 rfl ⟨rfl, rfl⟩ (show zfit (zrm 5 151) 4 room_1 = true from rfl) (Nat.le_of_ble_eq_true rfl) dL_law_2203 ⟨by omega, by omega⟩ (fun r2203 τ2203 hp2203 => ?_)
  obtain ⟨hr0, v9, υ9, hP9, hτ9⟩ := hp2203
  refine zv_eqi (y := zI 0) hr0 ?_
  obtain ⟨hv9, hC9, hF9⟩ := hP9
  have hC1 := zCP_w (τ := τ2203) hC9 (fun x y hx => by rw [hτ9]; exact ⟨rfl, by first | rfl | rw [gJ_sJ, if_neg (by omega)]⟩)
  have hM1 : zMP τ2203 (zDv.mk ni tx ec eo U S hh kp ou) := by rw [hτ9]; exact (zMP_fr hR.2 hF9 : zMP υ9 (zDv.mk ni tx ec eo U S hh kp ou))
  have ho9 : gJ τ2203 339 0 = v9.toInt64 := by rw [hτ9, gJ_sJ, if_pos ⟨rfl, rfl⟩]
  rw [hv9] at ho9
  refine zv_istore (lv' := [(6, .int (zI 0)), (0, .ref b0), (1, .ref (ob E 0)), (2, .ref (ob E 327)), (3, .ref (ob E 339)), (4, .ref (ob E 340)), (5, .int (zI (i : Int)))]) C dL_law_2206  (by decide) rfl ?_
  refine zv_aload_n C 3 dL_law_2208 rfl rfl ?_
  refine zv_aload_n C 1 dL_law_2209 rfl rfl ?_
  refine zv_iload C 6 dL_law_2210 rfl ?_
  refine zv_iconst (v := zI 1) C dL_law_2212 rfl ?_
  refine zv_iaddZ C dL_law_2213 ?_
  refine zv_sld (j := i + 1) (v := (zI (n1 : Int))) C W.2.2.1 W.2.2.2.1 W.2.2.2.2.1 W.2.2.2.2.2 (zI_ix (by omega)) (by omega) hx1 dL_law_2214 ?_
  refine zv_cvi (st := []) C (c_X11_crank hfl E τ2203 σ ni tx ec eo U S hh kp ou n1 hM1 hR.1.2.2.1 hR.1.2.2.2.1.1 (by first | assumption | omega) hR.1.2.2.2.1.2) mX11_crank kL_290 (by decide : kd 327 = 10) rfl rfl rfl ⟨rfl, rfl⟩ (show zfit (zrm 2 45) 4 room_1 = true from rfl) (Nat.le_of_ble_eq_true rfl) dL_law_2215 ⟨by omega, by omega⟩ (fun r2215 τ2215 hp2215 => ?_)
  obtain ⟨hr2, hK2⟩ := hp2215
  refine zv_eqi (y := zI (S.dy : Int)) hr2 ?_
  have hR2 : zRel τ2215 _ := ⟨zCP_fr hC1 hK2.2.2, hK2.1⟩
  have ht2 : gI τ2215 327 10 = zI 0 := hK2.2.1
  have hJ2 : gJ τ2215 339 0 = gJ τ2203 339 0 := hK2.2.2.2.1 339 0 (by decide)
  refine zv_istore (lv' := [(7, .int (zI (S.dy : Int))), (6, .int (zI 0)), (0, .ref b0), (1, .ref (ob E 0)), (2, .ref (ob E 327)), (3, .ref (ob E 339)), (4, .ref (ob E 340)), (5, .int (zI (i : Int)))]) C dL_law_2218  (by decide) rfl ?_
  refine zv_aload_n C 4 dL_law_2220 rfl rfl ?_
  refine zv_cviD (st := []) C (c_X11_thrown hfl E τ2215) mX11_thrown kL_200 (by decide : kd 327 = 10) rfl rfl rfl ⟨rfl, rfl⟩ (show zfit (zrm 0 0) 1 room_1 = true from rfl) (Nat.le_of_ble_eq_true rfl) dL_law_2221 ⟨by omega, by omega⟩ ?_
  refine zv_eqi (y := (zI 0)) (ht2) ?_
  refine zv_iload C 1 dL_law_2224 rfl ?_
  refine zv_icmp_eqZ (tgt := 2231) C (by omega) (by omega) dL_law_2226 (by decide) (fun h2226 => ?_) (fun h2226 => ?_)
  · skip
    refine zv_iload C 1 dL_law_2231 rfl ?_
    refine zv_if_neZ (tgt := 2248) C (by omega) dL_law_2233 (by decide) (fun h2233 => absurd h2233 (by decide)) (fun h2233 => ?_)
    refine zv_aload_n C 5 dL_law_2236 rfl rfl ?_
    refine zv_iconst (v := zI 0) C dL_law_2237 rfl ?_
    refine zv_lald (j := 0) C (by decide : kd 339 = _) (zI_ix (by omega)) (by decide) dL_law_2238 ?_
    refine zv_eql (y := ((zI (S.dy : Int)).toInt64)) (hJ2.trans ho9) ?_
    refine zv_iload C 0 dL_law_2239 rfl ?_
    refine zv_i2l C dL_law_2241 ?_
    refine zv_lc_eq (tgt := 2248) C dL_law_2242 dL_law_2243 (by decide) (fun h2242 => ?_) (fun h2242 => ?_)
    · skip
      refine zv_goto (tgt := 3624) C dL_law_2248 (by decide) ?_
      refine zv_sub (lv' := [(0, .ref b0), (1, .ref (ob E 0)), (2, .ref (ob E 327)), (3, .ref (ob E 339)), (4, .ref (ob E 340)), (5, .int (zI (i : Int)))]) [2, 3, 4, 5, 6, 7] (zcons rfl (zcons rfl (zcons rfl (zcons rfl (zcons rfl (zcons rfl rfl)))))) ?_
      exact kk _ _ _ _ (by omega) (by omega) hR2
    · exfalso
      exact h2242 rfl
  · exfalso
    omega
set_option maxRecDepth 20000 in
theorem lw_crank_x1_x1 {p : Program} {l : Launch} {e : Env} {s : State} {m : MethodId} {args : Array Value} {below : List Frame} {meth : Method} {c : Code} {E : zE} {Q : State → Prop} {b0 L i ce sl : Nat} {xs : Nat → Int32} {σ : zS} (ni : Nat) (tx : Nat → Int) (ec : Nat) (eo : Int) (U : zSU) (S : zST) (hh : List zST) (kp : Option zST) (ou : List Nat) (v1 : Int) (W : zLW p l s m args meth c E b0 L xs) (hi : i + 6 ≤ L) (hcs : ce + 1 ≤ room_1.cells ∧ sl + 6 ≤ room_1.slots) (hR : zRel σ (zDv.mk ni tx ec eo U S hh kp ou)) (hx1 : xs (i + 1) = (zI v1)) (hyi0 : -2147483648 ≤ v1 ∧ v1 < 2147483648) (hno1 : ¬ (0 ≤ v1 ∧ v1 ≤ 400000))  (kk : zNx p l e s m args below meth c E Q b0 i ce sl) : zV p l e room_1 s m args below meth c 9 E Q ce sl σ 2195 (lwL b0 i E) [] := by
  refine (?_ : zV p l e room_1 s m args below meth c 9 E Q ce sl σ 2195 [(0, .ref b0), (1, .ref (ob E 0)), (2, .ref (ob E 327)), (3, .ref (ob E 339)), (4, .ref (ob E 340)), (5, .int (zI (i : Int)))] [])
  have C := W.2.1
  have hfl := W.1
  have hroom : room_1.cells = 601024 ∧ room_1.slots = 7293034 := ⟨rfl, rfl⟩
  refine zv_aload_n C 1 dL_law_2195 rfl rfl ?_
  refine zv_aload_n C 0 dL_law_2196 rfl rfl ?_
  refine zv_iload C 5 dL_law_2197 rfl ?_
  refine zv_iconst (v := zI 1) C dL_law_2199 rfl ?_
  refine zv_iaddZ C dL_law_2200 ?_
  refine zv_sld (j := i + 1) (v := (zI v1)) C W.2.2.1 W.2.2.2.1 W.2.2.2.2.1 W.2.2.2.2.2 (zI_ix (by omega)) (by omega) hx1 dL_law_2201 ?_
  refine zv_aload_n C 3 dL_law_2202 rfl rfl ?_
  refine zv_cH (st := []) C (w_x1_X10_crank hfl E σ v1 (by first | assumption | omega) (by first | assumption | omega)) mL_crank kL_288 rfl ⟨rfl, rfl⟩ (show zfit (zrx 10 227) 4 room_1 = true from rfl) (Nat.le_of_ble_eq_true rfl) dL_law_2203 ⟨by exact hcs.1, by exact hcs.2⟩ (fun r2203 τ2203 hp2203 => ?_)
  obtain ⟨hr0, hP9⟩ := hp2203
  refine zv_eqi (y := zI 1) hr0 ?_
  have hF9 : zFr 318 327 σ τ2203 := by rw [hP9]; exact (by first | exact zFr_refl _ _ _ | exact zFr_rW (zFr_refl _ _ _) (by omega) | exact zFr_rW (zFr_rW (zFr_refl _ _ _) (by omega)) (by omega) | exact qW_f _ _ _ _ | exact qM_f _ _ _ _ _ | exact rW2_f _ _ _ _ _ | exact rW3_f _ _ _ _ _ | exact alW_f _ _ _ _ _ | (split <;> first | exact zFr_refl _ _ _ | exact bW_f _ _ _ _) | assumption)
  have hR1 : zRel τ2203 (zDv.mk ni tx ec eo U S hh kp ou) := zRel_c hR hF9
  refine zv_istore (lv' := [(6, .int (zI 1)), (0, .ref b0), (1, .ref (ob E 0)), (2, .ref (ob E 327)), (3, .ref (ob E 339)), (4, .ref (ob E 340)), (5, .int (zI (i : Int)))]) C dL_law_2206  (by decide) rfl ?_
  refine zv_aload_n C 3 dL_law_2208 rfl rfl ?_
  refine zv_aload_n C 1 dL_law_2209 rfl rfl ?_
  refine zv_iload C 6 dL_law_2210 rfl ?_
  refine zv_iconst (v := zI 1) C dL_law_2212 rfl ?_
  refine zv_iaddZ C dL_law_2213 ?_
  refine zv_sld (j := i + 1) (v := (zI v1)) C W.2.2.1 W.2.2.2.1 W.2.2.2.2.1 W.2.2.2.2.2 (zI_ix (by omega)) (by omega) hx1 dL_law_2214 ?_
  refine zv_cvi (st := []) C (x1_X11_crank hfl E τ2203 v1 (by first | assumption | omega) (by first | assumption | omega)) mX11_crank kL_290 (by decide : kd 327 = 10) rfl rfl rfl ⟨rfl, rfl⟩ (show zfit (zrm 2 45) 4 room_1 = true from rfl) (Nat.le_of_ble_eq_true rfl) dL_law_2215 ⟨by omega, by omega⟩ (fun r2215 τ2215 hp2215 => ?_)
  obtain ⟨hr2, hK2⟩ := hp2215
  refine zv_eqi (y := zI 0) hr2 ?_
  have hR2 : zRel τ2215 (zDv.mk ni tx ec eo U S hh kp ou) := zRel_m hR1 hK2
  have ht2 : gI τ2215 327 10 = zI 1 := hK2.2
  have hJ2 : gJ τ2215 339 0 = gJ τ2203 339 0 := hK2.1.2.1 339 0 (by decide)
  have hD2 : gD τ2215 340 0 = gD τ2203 340 0 := hK2.1.2.2 340 0
  refine zv_istore (lv' := [(7, .int (zI 0)), (6, .int (zI 1)), (0, .ref b0), (1, .ref (ob E 0)), (2, .ref (ob E 327)), (3, .ref (ob E 339)), (4, .ref (ob E 340)), (5, .int (zI (i : Int)))]) C dL_law_2218  (by decide) rfl ?_
  refine zv_aload_n C 4 dL_law_2220 rfl rfl ?_
  refine zv_cviD (st := []) C (c_X11_thrown hfl E τ2215) mX11_thrown kL_200 (by decide : kd 327 = 10) rfl rfl rfl ⟨rfl, rfl⟩ (show zfit (zrm 0 0) 1 room_1 = true from rfl) (Nat.le_of_ble_eq_true rfl) dL_law_2221 ⟨by omega, by omega⟩ ?_
  refine zv_eqi (y := (zI 1)) (ht2) ?_
  refine zv_iload C 1 dL_law_2224 rfl ?_
  refine zv_icmp_eqZ (tgt := 2231) C (by omega) (by omega) dL_law_2226 (by decide) (fun h2226 => ?_) (fun h2226 => ?_)
  · skip
    refine zv_iload C 1 dL_law_2231 rfl ?_
    refine zv_if_neZ (tgt := 2248) C (by omega) dL_law_2233 (by decide) (fun h2233 => ?_) (fun h2233 => absurd h2233 (by decide))
    refine zv_goto (tgt := 3624) C dL_law_2248 (by decide) ?_
    refine zv_sub (lv' := [(0, .ref b0), (1, .ref (ob E 0)), (2, .ref (ob E 327)), (3, .ref (ob E 339)), (4, .ref (ob E 340)), (5, .int (zI (i : Int)))]) [2, 3, 4, 5, 6, 7] (zcons rfl (zcons rfl (zcons rfl (zcons rfl (zcons rfl (zcons rfl rfl)))))) ?_
    exact kk _ _ _ _ (by omega) (by omega) hR2
  · exfalso
    omega
theorem LK_33 {p : Program} {l : Launch} {e : Env} {s : State} {m : MethodId} {args : Array Value} {below : List Frame} {meth : Method} {c : Code} {E : zE} {Q : State → Prop} {b0 L i ce sl : Nat} {xs : Nat → Int32} {σ : zS} (ni : Nat) (tx : Nat → Int) (ec : Nat) (eo : Int) (U : zSU) (S : zST) (hh : List zST) (kp : Option zST) (ou : List Nat) (hFN : zFN) (W : zLW p l s m args meth c E b0 L xs) (hi : i + 6 ≤ L) (hcs : ce + 1 ≤ room_1.cells ∧ sl + 6 ≤ room_1.slots) (hR : zRel σ (zDv.mk ni tx ec eo U S hh kp ou)) (kk : zNx p l e s m args below meth c E Q b0 i ce sl) : zV p l e room_1 s m args below meth c 9 E Q ce sl σ 2195 (lwL b0 i E) [] := by
  obtain ⟨v1, hx1, hv1⟩ := zI_cov (xs (i + 1))
  by_cases g1 : 0 ≤ v1 ∧ v1 ≤ 400000
  case neg =>
    exact lw_crank_x1_x1 _ _ _ _ _ _ _ _ _ _ W hi hcs hR hx1 (by first | assumption | omega) (by first | assumption | omega) kk
  obtain ⟨n1, rfl⟩ := Int.eq_ofNat_of_zero_le (show 0 ≤ v1 by omega)
  exact lw_crank_c_c _ _ _ _ _ _ _ _ _ _ W hi hcs hR hx1 (by first | assumption | omega) kk
theorem dL_law_2251 : decode cL_law 2251 = .ok (.aload_n 1, 1) := by decide +kernel
theorem dL_law_2252 : decode cL_law 2252 = .ok (.aload_n 0, 1) := by decide +kernel
theorem dL_law_2253 : decode cL_law 2253 = .ok (.iload 5, 2) := by decide +kernel
theorem dL_law_2255 : decode cL_law 2255 = .ok (.iconst 1, 1) := by decide +kernel
theorem dL_law_2256 : decode cL_law 2256 = .ok (.iadd, 1) := by decide +kernel
theorem dL_law_2257 : decode cL_law 2257 = .ok (.iaload, 1) := by decide +kernel
theorem dL_law_2258 : decode cL_law 2258 = .ok (.aload_n 3, 1) := by decide +kernel
theorem dL_law_2259 : decode cL_law 2259 = .ok (.invokestatic 291, 3) := by decide +kernel
theorem dL_law_2262 : decode cL_law 2262 = .ok (.istore 6, 2) := by decide +kernel
theorem dL_law_2264 : decode cL_law 2264 = .ok (.aload_n 2, 1) := by decide +kernel
theorem dL_law_2265 : decode cL_law 2265 = .ok (.aload_n 0, 1) := by decide +kernel
theorem dL_law_2266 : decode cL_law 2266 = .ok (.iload 5, 2) := by decide +kernel
theorem dL_law_2268 : decode cL_law 2268 = .ok (.iconst 1, 1) := by decide +kernel
theorem dL_law_2269 : decode cL_law 2269 = .ok (.iadd, 1) := by decide +kernel
theorem dL_law_2270 : decode cL_law 2270 = .ok (.iaload, 1) := by decide +kernel
theorem dL_law_2271 : decode cL_law 2271 = .ok (.invokevirtual 293, 3) := by decide +kernel
theorem dL_law_2274 : decode cL_law 2274 = .ok (.istore 7, 2) := by decide +kernel
theorem dL_law_2276 : decode cL_law 2276 = .ok (.aload_n 2, 1) := by decide +kernel
theorem dL_law_2277 : decode cL_law 2277 = .ok (.invokevirtual 200, 3) := by decide +kernel
theorem dL_law_2280 : decode cL_law 2280 = .ok (.iload 6, 2) := by decide +kernel
theorem dL_law_2282 : decode cL_law 2282 = .ok (.if_icmp .eq 5, 3) := by decide +kernel
theorem dL_law_2285 : decode cL_law 2285 = .ok (.iconst 0, 1) := by decide +kernel
theorem dL_law_2286 : decode cL_law 2286 = .ok (.ireturn, 1) := by decide +kernel
theorem dL_law_2287 : decode cL_law 2287 = .ok (.iload 6, 2) := by decide +kernel
theorem dL_law_2289 : decode cL_law 2289 = .ok (.ifCond .ne 15, 3) := by decide +kernel
theorem dL_law_2292 : decode cL_law 2292 = .ok (.aload_n 3, 1) := by decide +kernel
theorem dL_law_2293 : decode cL_law 2293 = .ok (.iconst 0, 1) := by decide +kernel
theorem dL_law_2294 : decode cL_law 2294 = .ok (.laload, 1) := by decide +kernel
theorem dL_law_2295 : decode cL_law 2295 = .ok (.iload 7, 2) := by decide +kernel
theorem dL_law_2297 : decode cL_law 2297 = .ok (.i2l, 1) := by decide +kernel
theorem dL_law_2298 : decode cL_law 2298 = .ok (.lcmp, 1) := by decide +kernel
theorem dL_law_2299 : decode cL_law 2299 = .ok (.ifCond .eq 5, 3) := by decide +kernel
theorem dL_law_2302 : decode cL_law 2302 = .ok (.iconst 0, 1) := by decide +kernel
theorem dL_law_2303 : decode cL_law 2303 = .ok (.ireturn, 1) := by decide +kernel
theorem dL_law_2304 : decode cL_law 2304 = .ok (.goto 1320, 3) := by decide +kernel
set_option maxRecDepth 20000 in
theorem lw_backlash_c_c {p : Program} {l : Launch} {e : Env} {s : State} {m : MethodId} {args : Array Value} {below : List Frame} {meth : Method} {c : Code} {E : zE} {Q : State → Prop} {b0 L i ce sl : Nat} {xs : Nat → Int32} {σ : zS} (ni : Nat) (tx : Nat → Int) (ec : Nat) (eo : Int) (U : zSU) (S : zST) (hh : List zST) (kp : Option zST) (ou : List Nat) (n1 : Nat) (W : zLW p l s m args meth c E b0 L xs) (hi : i + 6 ≤ L) (hcs : ce + 1 ≤ room_1.cells ∧ sl + 6 ≤ room_1.slots) (hR : zRel σ (zDv.mk ni tx ec eo U S hh kp ou)) (hx1 : xs (i + 1) = (zI (n1 : Int))) (hi0 : n1 < U.nb)  (kk : zNx p l e s m args below meth c E Q b0 i ce sl) : zV p l e room_1 s m args below meth c 9 E Q ce sl σ 2251 (lwL b0 i E) [] := by
  refine (?_ : zV p l e room_1 s m args below meth c 9 E Q ce sl σ 2251 [(0, .ref b0), (1, .ref (ob E 0)), (2, .ref (ob E 327)), (3, .ref (ob E 339)), (4, .ref (ob E 340)), (5, .int (zI (i : Int)))] [])
  have C := W.2.1
  have hfl := W.1
  have hroom : room_1.cells = 601024 ∧ room_1.slots = 7293034 := ⟨rfl, rfl⟩
  refine zv_aload_n C 1 dL_law_2251 rfl rfl ?_
  refine zv_aload_n C 0 dL_law_2252 rfl rfl ?_
  refine zv_iload C 5 dL_law_2253 rfl ?_
  refine zv_iconst (v := zI 1) C dL_law_2255 rfl ?_
  refine zv_iaddZ C dL_law_2256 ?_
  refine zv_sld (j := i + 1) (v := (zI (n1 : Int))) C W.2.2.1 W.2.2.2.1 W.2.2.2.2.1 W.2.2.2.2.2 (zI_ix (by omega)) (by omega) hx1 dL_law_2257 ?_
  refine zv_aload_n C 3 dL_law_2258 rfl rfl ?_
  refine zv_cH (st := []) C (w_c_X10_backlash hfl E σ U S n1 hR.1.2.2.1 hR.1.2.2.2.1.1 (by first | assumption | omega)) mL_backlash kL_291 rfl ⟨rfl, rfl⟩ (show zfit (zrm 4 91) 4 room_1 = true from rfl) (Nat.le_of_ble_eq_true rfl) dL_law_2259 ⟨by omega, by omega⟩ (fun r2259 τ2259 hp2259 => ?_)
  obtain ⟨hr0, v9, υ9, hP9, hτ9⟩ := hp2259
  refine zv_eqi (y := zI 0) hr0 ?_
  obtain ⟨hv9, hW9⟩ := hP9
  have hF9 : zFr 318 327 σ υ9 := by first | exact hW9 | (rw [hW9]; exact (by first | exact zFr_refl _ _ _ | exact zFr_rW (zFr_refl _ _ _) (by omega) | exact zFr_rW (zFr_rW (zFr_refl _ _ _) (by omega)) (by omega) | exact qW_f _ _ _ _ | exact qM_f _ _ _ _ _ | exact rW2_f _ _ _ _ _ | exact rW3_f _ _ _ _ _ | exact alW_f _ _ _ _ _ | (split <;> first | exact zFr_refl _ _ _ | exact bW_f _ _ _ _) | assumption))
  have hR1 : zRel τ2259 (zDv.mk ni tx ec eo U S hh kp ou) := by rw [hτ9]; exact zRel_J (zRel_c hR hF9) _
  have ho9 : gJ τ2259 339 0 = v9.toInt64 := by rw [hτ9, gJ_sJ, if_pos ⟨rfl, rfl⟩]
  rw [hv9] at ho9
  refine zv_istore (lv' := [(6, .int (zI 0)), (0, .ref b0), (1, .ref (ob E 0)), (2, .ref (ob E 327)), (3, .ref (ob E 339)), (4, .ref (ob E 340)), (5, .int (zI (i : Int)))]) C dL_law_2262  (by decide) rfl ?_
  refine zv_aload_n C 3 dL_law_2264 rfl rfl ?_
  refine zv_aload_n C 1 dL_law_2265 rfl rfl ?_
  refine zv_iload C 6 dL_law_2266 rfl ?_
  refine zv_iconst (v := zI 1) C dL_law_2268 rfl ?_
  refine zv_iaddZ C dL_law_2269 ?_
  refine zv_sld (j := i + 1) (v := (zI (n1 : Int))) C W.2.2.1 W.2.2.2.1 W.2.2.2.2.1 W.2.2.2.2.2 (zI_ix (by omega)) (by omega) hx1 dL_law_2270 ?_
  refine zv_cvi (st := []) C (c_X11_backlash hfl E τ2259 σ U S n1 hR1.2.2.2.1 hR.1.2.2.1 hR1.2.2.2.2.2.1.1 hR.1.2.2.2.1.1 (by first | assumption | omega)) mX11_backlash kL_293 (by decide : kd 327 = 10) rfl rfl rfl ⟨rfl, rfl⟩ (show zfit (zrm 2 46) 2 room_1 = true from rfl) (Nat.le_of_ble_eq_true rfl) dL_law_2271 ⟨by omega, by omega⟩ (fun r2271 τ2271 hp2271 => ?_)
  obtain ⟨hr2, hK2⟩ := hp2271
  refine zv_eqi (y := zI (qPlay S n1)) hr2 ?_
  have hR2 : zRel τ2271 (zDv.mk ni tx ec eo U S hh kp ou) := zRel_m hR1 hK2
  have ht2 : gI τ2271 327 10 = zI 0 := hK2.2
  have hJ2 : gJ τ2271 339 0 = gJ τ2259 339 0 := hK2.1.2.1 339 0 (by decide)
  have hD2 : gD τ2271 340 0 = gD τ2259 340 0 := hK2.1.2.2 340 0
  refine zv_istore (lv' := [(7, .int (zI (qPlay S n1))), (6, .int (zI 0)), (0, .ref b0), (1, .ref (ob E 0)), (2, .ref (ob E 327)), (3, .ref (ob E 339)), (4, .ref (ob E 340)), (5, .int (zI (i : Int)))]) C dL_law_2274  (by decide) rfl ?_
  refine zv_aload_n C 4 dL_law_2276 rfl rfl ?_
  refine zv_cviD (st := []) C (c_X11_thrown hfl E τ2271) mX11_thrown kL_200 (by decide : kd 327 = 10) rfl rfl rfl ⟨rfl, rfl⟩ (show zfit (zrm 0 0) 1 room_1 = true from rfl) (Nat.le_of_ble_eq_true rfl) dL_law_2277 ⟨by omega, by omega⟩ ?_
  refine zv_eqi (y := (zI 0)) (ht2) ?_
  refine zv_iload C 1 dL_law_2280 rfl ?_
  refine zv_icmp_eqZ (tgt := 2287) C (by omega) (by omega) dL_law_2282 (by decide) (fun h2282 => ?_) (fun h2282 => ?_)
  · skip
    refine zv_iload C 1 dL_law_2287 rfl ?_
    refine zv_if_neZ (tgt := 2304) C (by omega) dL_law_2289 (by decide) (fun h2289 => absurd h2289 (by decide)) (fun h2289 => ?_)
    refine zv_aload_n C 5 dL_law_2292 rfl rfl ?_
    refine zv_iconst (v := zI 0) C dL_law_2293 rfl ?_
    refine zv_lald (j := 0) C (by decide : kd 339 = _) (zI_ix (by omega)) (by decide) dL_law_2294 ?_
    refine zv_eql (y := ((zI (qPlay S n1)).toInt64)) (hJ2.trans ho9) ?_
    refine zv_iload C 0 dL_law_2295 rfl ?_
    refine zv_i2l C dL_law_2297 ?_
    refine zv_lc_eq (tgt := 2304) C dL_law_2298 dL_law_2299 (by decide) (fun h2298 => ?_) (fun h2298 => ?_)
    · skip
      refine zv_goto (tgt := 3624) C dL_law_2304 (by decide) ?_
      refine zv_sub (lv' := [(0, .ref b0), (1, .ref (ob E 0)), (2, .ref (ob E 327)), (3, .ref (ob E 339)), (4, .ref (ob E 340)), (5, .int (zI (i : Int)))]) [2, 3, 4, 5, 6, 7] (zcons rfl (zcons rfl (zcons rfl (zcons rfl (zcons rfl (zcons rfl rfl)))))) ?_
      exact kk _ _ _ _ (by omega) (by omega) hR2
    · exfalso
      exact h2298 rfl
  · exfalso
    omega
set_option maxRecDepth 20000 in
theorem lw_backlash_x1_x1 {p : Program} {l : Launch} {e : Env} {s : State} {m : MethodId} {args : Array Value} {below : List Frame} {meth : Method} {c : Code} {E : zE} {Q : State → Prop} {b0 L i ce sl : Nat} {xs : Nat → Int32} {σ : zS} (ni : Nat) (tx : Nat → Int) (ec : Nat) (eo : Int) (U : zSU) (S : zST) (hh : List zST) (kp : Option zST) (ou : List Nat) (v1 : Int) (W : zLW p l s m args meth c E b0 L xs) (hi : i + 6 ≤ L) (hcs : ce + 1 ≤ room_1.cells ∧ sl + 6 ≤ room_1.slots) (hR : zRel σ (zDv.mk ni tx ec eo U S hh kp ou)) (hx1 : xs (i + 1) = (zI v1)) (hbi0 : -2147483648 ≤ v1 ∧ v1 < 2147483648) (hno1 : ¬ (0 ≤ v1 ∧ v1 < U.nb))  (kk : zNx p l e s m args below meth c E Q b0 i ce sl) : zV p l e room_1 s m args below meth c 9 E Q ce sl σ 2251 (lwL b0 i E) [] := by
  refine (?_ : zV p l e room_1 s m args below meth c 9 E Q ce sl σ 2251 [(0, .ref b0), (1, .ref (ob E 0)), (2, .ref (ob E 327)), (3, .ref (ob E 339)), (4, .ref (ob E 340)), (5, .int (zI (i : Int)))] [])
  have C := W.2.1
  have hfl := W.1
  have hroom : room_1.cells = 601024 ∧ room_1.slots = 7293034 := ⟨rfl, rfl⟩
  refine zv_aload_n C 1 dL_law_2251 rfl rfl ?_
  refine zv_aload_n C 0 dL_law_2252 rfl rfl ?_
  refine zv_iload C 5 dL_law_2253 rfl ?_
  refine zv_iconst (v := zI 1) C dL_law_2255 rfl ?_
  refine zv_iaddZ C dL_law_2256 ?_
  refine zv_sld (j := i + 1) (v := (zI v1)) C W.2.2.1 W.2.2.2.1 W.2.2.2.2.1 W.2.2.2.2.2 (zI_ix (by omega)) (by omega) hx1 dL_law_2257 ?_
  refine zv_aload_n C 3 dL_law_2258 rfl rfl ?_
  refine zv_cH (st := []) C (w_x1_X10_backlash hfl E σ U v1 hR.1.2.2.1 (by first | assumption | omega) (by first | assumption | omega)) mL_backlash kL_291 rfl ⟨rfl, rfl⟩ (show zfit (zrx 10 221) 4 room_1 = true from rfl) (Nat.le_of_ble_eq_true rfl) dL_law_2259 ⟨by exact hcs.1, by exact hcs.2⟩ (fun r2259 τ2259 hp2259 => ?_)
  obtain ⟨hr0, hP9⟩ := hp2259
  refine zv_eqi (y := zI 1) hr0 ?_
  have hF9 : zFr 318 327 σ τ2259 := by rw [hP9]; exact (by first | exact zFr_refl _ _ _ | exact zFr_rW (zFr_refl _ _ _) (by omega) | exact zFr_rW (zFr_rW (zFr_refl _ _ _) (by omega)) (by omega) | exact qW_f _ _ _ _ | exact qM_f _ _ _ _ _ | exact rW2_f _ _ _ _ _ | exact rW3_f _ _ _ _ _ | exact alW_f _ _ _ _ _ | (split <;> first | exact zFr_refl _ _ _ | exact bW_f _ _ _ _) | assumption)
  have hR1 : zRel τ2259 (zDv.mk ni tx ec eo U S hh kp ou) := zRel_c hR hF9
  refine zv_istore (lv' := [(6, .int (zI 1)), (0, .ref b0), (1, .ref (ob E 0)), (2, .ref (ob E 327)), (3, .ref (ob E 339)), (4, .ref (ob E 340)), (5, .int (zI (i : Int)))]) C dL_law_2262  (by decide) rfl ?_
  refine zv_aload_n C 3 dL_law_2264 rfl rfl ?_
  refine zv_aload_n C 1 dL_law_2265 rfl rfl ?_
  refine zv_iload C 6 dL_law_2266 rfl ?_
  refine zv_iconst (v := zI 1) C dL_law_2268 rfl ?_
  refine zv_iaddZ C dL_law_2269 ?_
  refine zv_sld (j := i + 1) (v := (zI v1)) C W.2.2.1 W.2.2.2.1 W.2.2.2.2.1 W.2.2.2.2.2 (zI_ix (by omega)) (by omega) hx1 dL_law_2270 ?_
  refine zv_cvi (st := []) C (x1_X11_backlash hfl E τ2259 σ U v1 hR1.2.2.2.1 hR.1.2.2.1 (by first | assumption | omega) (by first | assumption | omega)) mX11_backlash kL_293 (by decide : kd 327 = 10) rfl rfl rfl ⟨rfl, rfl⟩ (show zfit (zrm 2 46) 2 room_1 = true from rfl) (Nat.le_of_ble_eq_true rfl) dL_law_2271 ⟨by omega, by omega⟩ (fun r2271 τ2271 hp2271 => ?_)
  obtain ⟨hr2, hK2⟩ := hp2271
  refine zv_eqi (y := zI 0) hr2 ?_
  have hR2 : zRel τ2271 (zDv.mk ni tx ec eo U S hh kp ou) := zRel_m hR1 hK2
  have ht2 : gI τ2271 327 10 = zI 1 := hK2.2
  have hJ2 : gJ τ2271 339 0 = gJ τ2259 339 0 := hK2.1.2.1 339 0 (by decide)
  have hD2 : gD τ2271 340 0 = gD τ2259 340 0 := hK2.1.2.2 340 0
  refine zv_istore (lv' := [(7, .int (zI 0)), (6, .int (zI 1)), (0, .ref b0), (1, .ref (ob E 0)), (2, .ref (ob E 327)), (3, .ref (ob E 339)), (4, .ref (ob E 340)), (5, .int (zI (i : Int)))]) C dL_law_2274  (by decide) rfl ?_
  refine zv_aload_n C 4 dL_law_2276 rfl rfl ?_
  refine zv_cviD (st := []) C (c_X11_thrown hfl E τ2271) mX11_thrown kL_200 (by decide : kd 327 = 10) rfl rfl rfl ⟨rfl, rfl⟩ (show zfit (zrm 0 0) 1 room_1 = true from rfl) (Nat.le_of_ble_eq_true rfl) dL_law_2277 ⟨by omega, by omega⟩ ?_
  refine zv_eqi (y := (zI 1)) (ht2) ?_
  refine zv_iload C 1 dL_law_2280 rfl ?_
  refine zv_icmp_eqZ (tgt := 2287) C (by omega) (by omega) dL_law_2282 (by decide) (fun h2282 => ?_) (fun h2282 => ?_)
  · skip
    refine zv_iload C 1 dL_law_2287 rfl ?_
    refine zv_if_neZ (tgt := 2304) C (by omega) dL_law_2289 (by decide) (fun h2289 => ?_) (fun h2289 => absurd h2289 (by decide))
    refine zv_goto (tgt := 3624) C dL_law_2304 (by decide) ?_
    refine zv_sub (lv' := [(0, .ref b0), (1, .ref (ob E 0)), (2, .ref (ob E 327)), (3, .ref (ob E 339)), (4, .ref (ob E 340)), (5, .int (zI (i : Int)))]) [2, 3, 4, 5, 6, 7] (zcons rfl (zcons rfl (zcons rfl (zcons rfl (zcons rfl (zcons rfl rfl)))))) ?_
    exact kk _ _ _ _ (by omega) (by omega) hR2
  · exfalso
    omega
theorem LK_34 {p : Program} {l : Launch} {e : Env} {s : State} {m : MethodId} {args : Array Value} {below : List Frame} {meth : Method} {c : Code} {E : zE} {Q : State → Prop} {b0 L i ce sl : Nat} {xs : Nat → Int32} {σ : zS} (ni : Nat) (tx : Nat → Int) (ec : Nat) (eo : Int) (U : zSU) (S : zST) (hh : List zST) (kp : Option zST) (ou : List Nat) (hFN : zFN) (W : zLW p l s m args meth c E b0 L xs) (hi : i + 6 ≤ L) (hcs : ce + 1 ≤ room_1.cells ∧ sl + 6 ≤ room_1.slots) (hR : zRel σ (zDv.mk ni tx ec eo U S hh kp ou)) (kk : zNx p l e s m args below meth c E Q b0 i ce sl) : zV p l e room_1 s m args below meth c 9 E Q ce sl σ 2251 (lwL b0 i E) [] := by
  obtain ⟨v1, hx1, hv1⟩ := zI_cov (xs (i + 1))
  by_cases g1 : 0 ≤ v1 ∧ v1 < U.nb
  case neg =>
    exact lw_backlash_x1_x1 _ _ _ _ _ _ _ _ _ _ W hi hcs hR hx1 (by first | assumption | omega) (by first | assumption | omega) kk
  obtain ⟨n1, rfl⟩ := Int.eq_ofNat_of_zero_le (show 0 ≤ v1 by omega)
  exact lw_backlash_c_c _ _ _ _ _ _ _ _ _ _ W hi hcs hR hx1 (by first | assumption | omega) kk
theorem dL_law_2307 : decode cL_law 2307 = .ok (.aload_n 1, 1) := by decide +kernel
theorem dL_law_2308 : decode cL_law 2308 = .ok (.aload_n 0, 1) := by decide +kernel
theorem dL_law_2309 : decode cL_law 2309 = .ok (.iload 5, 2) := by decide +kernel
theorem dL_law_2311 : decode cL_law 2311 = .ok (.iconst 1, 1) := by decide +kernel
theorem dL_law_2312 : decode cL_law 2312 = .ok (.iadd, 1) := by decide +kernel
theorem dL_law_2313 : decode cL_law 2313 = .ok (.iaload, 1) := by decide +kernel
theorem dL_law_2314 : decode cL_law 2314 = .ok (.aload_n 3, 1) := by decide +kernel
theorem dL_law_2315 : decode cL_law 2315 = .ok (.invokestatic 294, 3) := by decide +kernel
theorem dL_law_2318 : decode cL_law 2318 = .ok (.istore 6, 2) := by decide +kernel
theorem dL_law_2320 : decode cL_law 2320 = .ok (.aload_n 2, 1) := by decide +kernel
theorem dL_law_2321 : decode cL_law 2321 = .ok (.aload_n 0, 1) := by decide +kernel
theorem dL_law_2322 : decode cL_law 2322 = .ok (.iload 5, 2) := by decide +kernel
theorem dL_law_2324 : decode cL_law 2324 = .ok (.iconst 1, 1) := by decide +kernel
theorem dL_law_2325 : decode cL_law 2325 = .ok (.iadd, 1) := by decide +kernel
theorem dL_law_2326 : decode cL_law 2326 = .ok (.iaload, 1) := by decide +kernel
theorem dL_law_2327 : decode cL_law 2327 = .ok (.invokevirtual 296, 3) := by decide +kernel
theorem dL_law_2330 : decode cL_law 2330 = .ok (.istore 7, 2) := by decide +kernel
theorem dL_law_2332 : decode cL_law 2332 = .ok (.aload_n 2, 1) := by decide +kernel
theorem dL_law_2333 : decode cL_law 2333 = .ok (.invokevirtual 200, 3) := by decide +kernel
theorem dL_law_2336 : decode cL_law 2336 = .ok (.iload 6, 2) := by decide +kernel
theorem dL_law_2338 : decode cL_law 2338 = .ok (.if_icmp .eq 5, 3) := by decide +kernel
theorem dL_law_2341 : decode cL_law 2341 = .ok (.iconst 0, 1) := by decide +kernel
theorem dL_law_2342 : decode cL_law 2342 = .ok (.ireturn, 1) := by decide +kernel
theorem dL_law_2343 : decode cL_law 2343 = .ok (.iload 6, 2) := by decide +kernel
theorem dL_law_2345 : decode cL_law 2345 = .ok (.ifCond .ne 15, 3) := by decide +kernel
theorem dL_law_2348 : decode cL_law 2348 = .ok (.aload_n 3, 1) := by decide +kernel
theorem dL_law_2349 : decode cL_law 2349 = .ok (.iconst 0, 1) := by decide +kernel
theorem dL_law_2350 : decode cL_law 2350 = .ok (.laload, 1) := by decide +kernel
theorem dL_law_2351 : decode cL_law 2351 = .ok (.iload 7, 2) := by decide +kernel
theorem dL_law_2353 : decode cL_law 2353 = .ok (.i2l, 1) := by decide +kernel
theorem dL_law_2354 : decode cL_law 2354 = .ok (.lcmp, 1) := by decide +kernel
theorem dL_law_2355 : decode cL_law 2355 = .ok (.ifCond .eq 5, 3) := by decide +kernel
theorem dL_law_2358 : decode cL_law 2358 = .ok (.iconst 0, 1) := by decide +kernel
theorem dL_law_2359 : decode cL_law 2359 = .ok (.ireturn, 1) := by decide +kernel
theorem dL_law_2360 : decode cL_law 2360 = .ok (.goto 1264, 3) := by decide +kernel
set_option maxRecDepth 20000 in
theorem lw_lag_c_c {p : Program} {l : Launch} {e : Env} {s : State} {m : MethodId} {args : Array Value} {below : List Frame} {meth : Method} {c : Code} {E : zE} {Q : State → Prop} {b0 L i ce sl : Nat} {xs : Nat → Int32} {σ : zS} (ni : Nat) (tx : Nat → Int) (ec : Nat) (eo : Int) (U : zSU) (S : zST) (hh : List zST) (kp : Option zST) (ou : List Nat) (n1 : Nat) (W : zLW p l s m args meth c E b0 L xs) (hi : i + 6 ≤ L) (hcs : ce + 1 ≤ room_1.cells ∧ sl + 6 ≤ room_1.slots) (hR : zRel σ (zDv.mk ni tx ec eo U S hh kp ou)) (hx1 : xs (i + 1) = (zI (n1 : Int))) (hi0 : n1 < U.nb)  (kk : zNx p l e s m args below meth c E Q b0 i ce sl) : zV p l e room_1 s m args below meth c 9 E Q ce sl σ 2307 (lwL b0 i E) [] := by
  refine (?_ : zV p l e room_1 s m args below meth c 9 E Q ce sl σ 2307 [(0, .ref b0), (1, .ref (ob E 0)), (2, .ref (ob E 327)), (3, .ref (ob E 339)), (4, .ref (ob E 340)), (5, .int (zI (i : Int)))] [])
  have C := W.2.1
  have hfl := W.1
  have hroom : room_1.cells = 601024 ∧ room_1.slots = 7293034 := ⟨rfl, rfl⟩
  refine zv_aload_n C 1 dL_law_2307 rfl rfl ?_
  refine zv_aload_n C 0 dL_law_2308 rfl rfl ?_
  refine zv_iload C 5 dL_law_2309 rfl ?_
  refine zv_iconst (v := zI 1) C dL_law_2311 rfl ?_
  refine zv_iaddZ C dL_law_2312 ?_
  refine zv_sld (j := i + 1) (v := (zI (n1 : Int))) C W.2.2.1 W.2.2.2.1 W.2.2.2.2.1 W.2.2.2.2.2 (zI_ix (by omega)) (by omega) hx1 dL_law_2313 ?_
  refine zv_aload_n C 3 dL_law_2314 rfl rfl ?_
  refine zv_cH (st := []) C (w_c_X10_lag hfl E σ U S n1 hR.1.2.2.1 hR.1.2.2.2.1.1 (by first | assumption | omega)) mL_lag kL_294 rfl ⟨rfl, rfl⟩ (show zfit (zrm 2 42) 4 room_1 = true from rfl) (Nat.le_of_ble_eq_true rfl) dL_law_2315 ⟨by omega, by omega⟩ (fun r2315 τ2315 hp2315 => ?_)
  obtain ⟨hr0, v9, υ9, hP9, hτ9⟩ := hp2315
  refine zv_eqi (y := zI 0) hr0 ?_
  obtain ⟨hv9, hW9⟩ := hP9
  have hF9 : zFr 318 327 σ υ9 := by first | exact hW9 | (rw [hW9]; exact (by first | exact zFr_refl _ _ _ | exact zFr_rW (zFr_refl _ _ _) (by omega) | exact zFr_rW (zFr_rW (zFr_refl _ _ _) (by omega)) (by omega) | exact qW_f _ _ _ _ | exact qM_f _ _ _ _ _ | exact rW2_f _ _ _ _ _ | exact rW3_f _ _ _ _ _ | exact alW_f _ _ _ _ _ | (split <;> first | exact zFr_refl _ _ _ | exact bW_f _ _ _ _) | assumption))
  have hR1 : zRel τ2315 (zDv.mk ni tx ec eo U S hh kp ou) := by rw [hτ9]; exact zRel_J (zRel_c hR hF9) _
  have ho9 : gJ τ2315 339 0 = v9.toInt64 := by rw [hτ9, gJ_sJ, if_pos ⟨rfl, rfl⟩]
  rw [hv9] at ho9
  refine zv_istore (lv' := [(6, .int (zI 0)), (0, .ref b0), (1, .ref (ob E 0)), (2, .ref (ob E 327)), (3, .ref (ob E 339)), (4, .ref (ob E 340)), (5, .int (zI (i : Int)))]) C dL_law_2318  (by decide) rfl ?_
  refine zv_aload_n C 3 dL_law_2320 rfl rfl ?_
  refine zv_aload_n C 1 dL_law_2321 rfl rfl ?_
  refine zv_iload C 6 dL_law_2322 rfl ?_
  refine zv_iconst (v := zI 1) C dL_law_2324 rfl ?_
  refine zv_iaddZ C dL_law_2325 ?_
  refine zv_sld (j := i + 1) (v := (zI (n1 : Int))) C W.2.2.1 W.2.2.2.1 W.2.2.2.2.1 W.2.2.2.2.2 (zI_ix (by omega)) (by omega) hx1 dL_law_2326 ?_
  refine zv_cvi (st := []) C (c_X11_lag hfl E τ2315 σ U S n1 hR1.2.2.2.1 hR.1.2.2.1 hR1.2.2.2.2.2.1.1 hR.1.2.2.2.1.1 (by first | assumption | omega)) mX11_lag kL_296 (by decide : kd 327 = 10) rfl rfl rfl ⟨rfl, rfl⟩ (show zfit (zrm 2 46) 2 room_1 = true from rfl) (Nat.le_of_ble_eq_true rfl) dL_law_2327 ⟨by omega, by omega⟩ (fun r2327 τ2327 hp2327 => ?_)
  obtain ⟨hr2, hK2⟩ := hp2327
  refine zv_eqi (y := zI (S.lg n1)) hr2 ?_
  have hR2 : zRel τ2327 (zDv.mk ni tx ec eo U S hh kp ou) := zRel_m hR1 hK2
  have ht2 : gI τ2327 327 10 = zI 0 := hK2.2
  have hJ2 : gJ τ2327 339 0 = gJ τ2315 339 0 := hK2.1.2.1 339 0 (by decide)
  have hD2 : gD τ2327 340 0 = gD τ2315 340 0 := hK2.1.2.2 340 0
  refine zv_istore (lv' := [(7, .int (zI (S.lg n1))), (6, .int (zI 0)), (0, .ref b0), (1, .ref (ob E 0)), (2, .ref (ob E 327)), (3, .ref (ob E 339)), (4, .ref (ob E 340)), (5, .int (zI (i : Int)))]) C dL_law_2330  (by decide) rfl ?_
  refine zv_aload_n C 4 dL_law_2332 rfl rfl ?_
  refine zv_cviD (st := []) C (c_X11_thrown hfl E τ2327) mX11_thrown kL_200 (by decide : kd 327 = 10) rfl rfl rfl ⟨rfl, rfl⟩ (show zfit (zrm 0 0) 1 room_1 = true from rfl) (Nat.le_of_ble_eq_true rfl) dL_law_2333 ⟨by omega, by omega⟩ ?_
  refine zv_eqi (y := (zI 0)) (ht2) ?_
  refine zv_iload C 1 dL_law_2336 rfl ?_
  refine zv_icmp_eqZ (tgt := 2343) C (by omega) (by omega) dL_law_2338 (by decide) (fun h2338 => ?_) (fun h2338 => ?_)
  · skip
    refine zv_iload C 1 dL_law_2343 rfl ?_
    refine zv_if_neZ (tgt := 2360) C (by omega) dL_law_2345 (by decide) (fun h2345 => absurd h2345 (by decide)) (fun h2345 => ?_)
    refine zv_aload_n C 5 dL_law_2348 rfl rfl ?_
    refine zv_iconst (v := zI 0) C dL_law_2349 rfl ?_
    refine zv_lald (j := 0) C (by decide : kd 339 = _) (zI_ix (by omega)) (by decide) dL_law_2350 ?_
    refine zv_eql (y := ((zI (S.lg n1)).toInt64)) (hJ2.trans ho9) ?_
    refine zv_iload C 0 dL_law_2351 rfl ?_
    refine zv_i2l C dL_law_2353 ?_
    refine zv_lc_eq (tgt := 2360) C dL_law_2354 dL_law_2355 (by decide) (fun h2354 => ?_) (fun h2354 => ?_)
    · skip
      refine zv_goto (tgt := 3624) C dL_law_2360 (by decide) ?_
      refine zv_sub (lv' := [(0, .ref b0), (1, .ref (ob E 0)), (2, .ref (ob E 327)), (3, .ref (ob E 339)), (4, .ref (ob E 340)), (5, .int (zI (i : Int)))]) [2, 3, 4, 5, 6, 7] (zcons rfl (zcons rfl (zcons rfl (zcons rfl (zcons rfl (zcons rfl rfl)))))) ?_
      exact kk _ _ _ _ (by omega) (by omega) hR2
    · exfalso
      exact h2354 rfl
  · exfalso
    omega
set_option maxRecDepth 20000 in
theorem lw_lag_x1_x1 {p : Program} {l : Launch} {e : Env} {s : State} {m : MethodId} {args : Array Value} {below : List Frame} {meth : Method} {c : Code} {E : zE} {Q : State → Prop} {b0 L i ce sl : Nat} {xs : Nat → Int32} {σ : zS} (ni : Nat) (tx : Nat → Int) (ec : Nat) (eo : Int) (U : zSU) (S : zST) (hh : List zST) (kp : Option zST) (ou : List Nat) (v1 : Int) (W : zLW p l s m args meth c E b0 L xs) (hi : i + 6 ≤ L) (hcs : ce + 1 ≤ room_1.cells ∧ sl + 6 ≤ room_1.slots) (hR : zRel σ (zDv.mk ni tx ec eo U S hh kp ou)) (hx1 : xs (i + 1) = (zI v1)) (hbi0 : -2147483648 ≤ v1 ∧ v1 < 2147483648) (hno1 : ¬ (0 ≤ v1 ∧ v1 < U.nb))  (kk : zNx p l e s m args below meth c E Q b0 i ce sl) : zV p l e room_1 s m args below meth c 9 E Q ce sl σ 2307 (lwL b0 i E) [] := by
  refine (?_ : zV p l e room_1 s m args below meth c 9 E Q ce sl σ 2307 [(0, .ref b0), (1, .ref (ob E 0)), (2, .ref (ob E 327)), (3, .ref (ob E 339)), (4, .ref (ob E 340)), (5, .int (zI (i : Int)))] [])
  have C := W.2.1
  have hfl := W.1
  have hroom : room_1.cells = 601024 ∧ room_1.slots = 7293034 := ⟨rfl, rfl⟩
  refine zv_aload_n C 1 dL_law_2307 rfl rfl ?_
  refine zv_aload_n C 0 dL_law_2308 rfl rfl ?_
  refine zv_iload C 5 dL_law_2309 rfl ?_
  refine zv_iconst (v := zI 1) C dL_law_2311 rfl ?_
  refine zv_iaddZ C dL_law_2312 ?_
  refine zv_sld (j := i + 1) (v := (zI v1)) C W.2.2.1 W.2.2.2.1 W.2.2.2.2.1 W.2.2.2.2.2 (zI_ix (by omega)) (by omega) hx1 dL_law_2313 ?_
  refine zv_aload_n C 3 dL_law_2314 rfl rfl ?_
  refine zv_cH (st := []) C (w_x1_X10_lag hfl E σ U v1 hR.1.2.2.1 (by first | assumption | omega) (by first | assumption | omega)) mL_lag kL_294 rfl ⟨rfl, rfl⟩ (show zfit (zrx 10 221) 4 room_1 = true from rfl) (Nat.le_of_ble_eq_true rfl) dL_law_2315 ⟨by exact hcs.1, by exact hcs.2⟩ (fun r2315 τ2315 hp2315 => ?_)
  obtain ⟨hr0, hP9⟩ := hp2315
  refine zv_eqi (y := zI 1) hr0 ?_
  have hF9 : zFr 318 327 σ τ2315 := by rw [hP9]; exact (by first | exact zFr_refl _ _ _ | exact zFr_rW (zFr_refl _ _ _) (by omega) | exact zFr_rW (zFr_rW (zFr_refl _ _ _) (by omega)) (by omega) | exact qW_f _ _ _ _ | exact qM_f _ _ _ _ _ | exact rW2_f _ _ _ _ _ | exact rW3_f _ _ _ _ _ | exact alW_f _ _ _ _ _ | (split <;> first | exact zFr_refl _ _ _ | exact bW_f _ _ _ _) | assumption)
  have hR1 : zRel τ2315 (zDv.mk ni tx ec eo U S hh kp ou) := zRel_c hR hF9
  refine zv_istore (lv' := [(6, .int (zI 1)), (0, .ref b0), (1, .ref (ob E 0)), (2, .ref (ob E 327)), (3, .ref (ob E 339)), (4, .ref (ob E 340)), (5, .int (zI (i : Int)))]) C dL_law_2318  (by decide) rfl ?_
  refine zv_aload_n C 3 dL_law_2320 rfl rfl ?_
  refine zv_aload_n C 1 dL_law_2321 rfl rfl ?_
  refine zv_iload C 6 dL_law_2322 rfl ?_
  refine zv_iconst (v := zI 1) C dL_law_2324 rfl ?_
  refine zv_iaddZ C dL_law_2325 ?_
  refine zv_sld (j := i + 1) (v := (zI v1)) C W.2.2.1 W.2.2.2.1 W.2.2.2.2.1 W.2.2.2.2.2 (zI_ix (by omega)) (by omega) hx1 dL_law_2326 ?_
  refine zv_cvi (st := []) C (x1_X11_lag hfl E τ2315 σ U v1 hR1.2.2.2.1 hR.1.2.2.1 (by first | assumption | omega) (by first | assumption | omega)) mX11_lag kL_296 (by decide : kd 327 = 10) rfl rfl rfl ⟨rfl, rfl⟩ (show zfit (zrm 2 46) 2 room_1 = true from rfl) (Nat.le_of_ble_eq_true rfl) dL_law_2327 ⟨by omega, by omega⟩ (fun r2327 τ2327 hp2327 => ?_)
  obtain ⟨hr2, hK2⟩ := hp2327
  refine zv_eqi (y := zI 0) hr2 ?_
  have hR2 : zRel τ2327 (zDv.mk ni tx ec eo U S hh kp ou) := zRel_m hR1 hK2
  have ht2 : gI τ2327 327 10 = zI 1 := hK2.2
  have hJ2 : gJ τ2327 339 0 = gJ τ2315 339 0 := hK2.1.2.1 339 0 (by decide)
  have hD2 : gD τ2327 340 0 = gD τ2315 340 0 := hK2.1.2.2 340 0
  refine zv_istore (lv' := [(7, .int (zI 0)), (6, .int (zI 1)), (0, .ref b0), (1, .ref (ob E 0)), (2, .ref (ob E 327)), (3, .ref (ob E 339)), (4, .ref (ob E 340)), (5, .int (zI (i : Int)))]) C dL_law_2330  (by decide) rfl ?_
  refine zv_aload_n C 4 dL_law_2332 rfl rfl ?_
  refine zv_cviD (st := []) C (c_X11_thrown hfl E τ2327) mX11_thrown kL_200 (by decide : kd 327 = 10) rfl rfl rfl ⟨rfl, rfl⟩ (show zfit (zrm 0 0) 1 room_1 = true from rfl) (Nat.le_of_ble_eq_true rfl) dL_law_2333 ⟨by omega, by omega⟩ ?_
  refine zv_eqi (y := (zI 1)) (ht2) ?_
  refine zv_iload C 1 dL_law_2336 rfl ?_
  refine zv_icmp_eqZ (tgt := 2343) C (by omega) (by omega) dL_law_2338 (by decide) (fun h2338 => ?_) (fun h2338 => ?_)
  · skip
    refine zv_iload C 1 dL_law_2343 rfl ?_
    refine zv_if_neZ (tgt := 2360) C (by omega) dL_law_2345 (by decide) (fun h2345 => ?_) (fun h2345 => absurd h2345 (by decide))
    refine zv_goto (tgt := 3624) C dL_law_2360 (by decide) ?_
    refine zv_sub (lv' := [(0, .ref b0), (1, .ref (ob E 0)), (2, .ref (ob E 327)), (3, .ref (ob E 339)), (4, .ref (ob E 340)), (5, .int (zI (i : Int)))]) [2, 3, 4, 5, 6, 7] (zcons rfl (zcons rfl (zcons rfl (zcons rfl (zcons rfl (zcons rfl rfl)))))) ?_
    exact kk _ _ _ _ (by omega) (by omega) hR2
  · exfalso
    omega
theorem LK_35 {p : Program} {l : Launch} {e : Env} {s : State} {m : MethodId} {args : Array Value} {below : List Frame} {meth : Method} {c : Code} {E : zE} {Q : State → Prop} {b0 L i ce sl : Nat} {xs : Nat → Int32} {σ : zS} (ni : Nat) (tx : Nat → Int) (ec : Nat) (eo : Int) (U : zSU) (S : zST) (hh : List zST) (kp : Option zST) (ou : List Nat) (hFN : zFN) (W : zLW p l s m args meth c E b0 L xs) (hi : i + 6 ≤ L) (hcs : ce + 1 ≤ room_1.cells ∧ sl + 6 ≤ room_1.slots) (hR : zRel σ (zDv.mk ni tx ec eo U S hh kp ou)) (kk : zNx p l e s m args below meth c E Q b0 i ce sl) : zV p l e room_1 s m args below meth c 9 E Q ce sl σ 2307 (lwL b0 i E) [] := by
  obtain ⟨v1, hx1, hv1⟩ := zI_cov (xs (i + 1))
  by_cases g1 : 0 ≤ v1 ∧ v1 < U.nb
  case neg =>
    exact lw_lag_x1_x1 _ _ _ _ _ _ _ _ _ _ W hi hcs hR hx1 (by first | assumption | omega) (by first | assumption | omega) kk
  obtain ⟨n1, rfl⟩ := Int.eq_ofNat_of_zero_le (show 0 ≤ v1 by omega)
  exact lw_lag_c_c _ _ _ _ _ _ _ _ _ _ W hi hcs hR hx1 (by first | assumption | omega) kk
theorem dL_law_2363 : decode cL_law 2363 = .ok (.aload_n 1, 1) := by decide +kernel
theorem dL_law_2364 : decode cL_law 2364 = .ok (.aload_n 0, 1) := by decide +kernel
theorem dL_law_2365 : decode cL_law 2365 = .ok (.iload 5, 2) := by decide +kernel
theorem dL_law_2367 : decode cL_law 2367 = .ok (.iconst 1, 1) := by decide +kernel
theorem dL_law_2368 : decode cL_law 2368 = .ok (.iadd, 1) := by decide +kernel
theorem dL_law_2369 : decode cL_law 2369 = .ok (.iaload, 1) := by decide +kernel
theorem dL_law_2370 : decode cL_law 2370 = .ok (.aload_n 3, 1) := by decide +kernel
theorem dL_law_2371 : decode cL_law 2371 = .ok (.invokestatic 297, 3) := by decide +kernel
theorem dL_law_2374 : decode cL_law 2374 = .ok (.istore 6, 2) := by decide +kernel
theorem dL_law_2376 : decode cL_law 2376 = .ok (.aload_n 2, 1) := by decide +kernel
theorem dL_law_2377 : decode cL_law 2377 = .ok (.aload_n 0, 1) := by decide +kernel
theorem dL_law_2378 : decode cL_law 2378 = .ok (.iload 5, 2) := by decide +kernel
theorem dL_law_2380 : decode cL_law 2380 = .ok (.iconst 1, 1) := by decide +kernel
theorem dL_law_2381 : decode cL_law 2381 = .ok (.iadd, 1) := by decide +kernel
theorem dL_law_2382 : decode cL_law 2382 = .ok (.iaload, 1) := by decide +kernel
theorem dL_law_2383 : decode cL_law 2383 = .ok (.invokevirtual 299, 3) := by decide +kernel
theorem dL_law_2386 : decode cL_law 2386 = .ok (.istore 7, 2) := by decide +kernel
theorem dL_law_2388 : decode cL_law 2388 = .ok (.aload_n 2, 1) := by decide +kernel
theorem dL_law_2389 : decode cL_law 2389 = .ok (.invokevirtual 200, 3) := by decide +kernel
theorem dL_law_2392 : decode cL_law 2392 = .ok (.iload 6, 2) := by decide +kernel
theorem dL_law_2394 : decode cL_law 2394 = .ok (.if_icmp .eq 5, 3) := by decide +kernel
theorem dL_law_2397 : decode cL_law 2397 = .ok (.iconst 0, 1) := by decide +kernel
theorem dL_law_2398 : decode cL_law 2398 = .ok (.ireturn, 1) := by decide +kernel
theorem dL_law_2399 : decode cL_law 2399 = .ok (.iload 6, 2) := by decide +kernel
theorem dL_law_2401 : decode cL_law 2401 = .ok (.ifCond .ne 15, 3) := by decide +kernel
theorem dL_law_2404 : decode cL_law 2404 = .ok (.aload_n 3, 1) := by decide +kernel
theorem dL_law_2405 : decode cL_law 2405 = .ok (.iconst 0, 1) := by decide +kernel
theorem dL_law_2406 : decode cL_law 2406 = .ok (.laload, 1) := by decide +kernel
theorem dL_law_2407 : decode cL_law 2407 = .ok (.iload 7, 2) := by decide +kernel
theorem dL_law_2409 : decode cL_law 2409 = .ok (.i2l, 1) := by decide +kernel
theorem dL_law_2410 : decode cL_law 2410 = .ok (.lcmp, 1) := by decide +kernel
theorem dL_law_2411 : decode cL_law 2411 = .ok (.ifCond .eq 5, 3) := by decide +kernel
theorem dL_law_2414 : decode cL_law 2414 = .ok (.iconst 0, 1) := by decide +kernel
theorem dL_law_2415 : decode cL_law 2415 = .ok (.ireturn, 1) := by decide +kernel
theorem dL_law_2416 : decode cL_law 2416 = .ok (.goto 1208, 3) := by decide +kernel
set_option maxRecDepth 20000 in
theorem lw_shown_c_c {p : Program} {l : Launch} {e : Env} {s : State} {m : MethodId} {args : Array Value} {below : List Frame} {meth : Method} {c : Code} {E : zE} {Q : State → Prop} {b0 L i ce sl : Nat} {xs : Nat → Int32} {σ : zS} (ni : Nat) (tx : Nat → Int) (ec : Nat) (eo : Int) (U : zSU) (S : zST) (hh : List zST) (kp : Option zST) (ou : List Nat) (n1 : Nat) (W : zLW p l s m args meth c E b0 L xs) (hi : i + 6 ≤ L) (hcs : ce + 1 ≤ room_1.cells ∧ sl + 6 ≤ room_1.slots) (hR : zRel σ (zDv.mk ni tx ec eo U S hh kp ou)) (hx1 : xs (i + 1) = (zI (n1 : Int))) (hi0 : n1 < U.nb)  (kk : zNx p l e s m args below meth c E Q b0 i ce sl) : zV p l e room_1 s m args below meth c 9 E Q ce sl σ 2363 (lwL b0 i E) [] := by
  refine (?_ : zV p l e room_1 s m args below meth c 9 E Q ce sl σ 2363 [(0, .ref b0), (1, .ref (ob E 0)), (2, .ref (ob E 327)), (3, .ref (ob E 339)), (4, .ref (ob E 340)), (5, .int (zI (i : Int)))] [])
  have C := W.2.1
  have hfl := W.1
  have hroom : room_1.cells = 601024 ∧ room_1.slots = 7293034 := ⟨rfl, rfl⟩
  refine zv_aload_n C 1 dL_law_2363 rfl rfl ?_
  refine zv_aload_n C 0 dL_law_2364 rfl rfl ?_
  refine zv_iload C 5 dL_law_2365 rfl ?_
  refine zv_iconst (v := zI 1) C dL_law_2367 rfl ?_
  refine zv_iaddZ C dL_law_2368 ?_
  refine zv_sld (j := i + 1) (v := (zI (n1 : Int))) C W.2.2.1 W.2.2.2.1 W.2.2.2.2.1 W.2.2.2.2.2 (zI_ix (by omega)) (by omega) hx1 dL_law_2369 ?_
  refine zv_aload_n C 3 dL_law_2370 rfl rfl ?_
  refine zv_cH (st := []) C (w_c_X10_shown hfl E σ U S n1 hR.1.2.2.1 hR.1.2.2.2.1.1 (by first | assumption | omega) hR.1.2.2.2.1.2) mL_shown kL_297 rfl ⟨rfl, rfl⟩ (show zfit (zrm 5 128) 4 room_1 = true from rfl) (Nat.le_of_ble_eq_true rfl) dL_law_2371 ⟨by omega, by omega⟩ (fun r2371 τ2371 hp2371 => ?_)
  obtain ⟨hr0, v9, υ9, hP9, hτ9⟩ := hp2371
  refine zv_eqi (y := zI 0) hr0 ?_
  obtain ⟨hv9, hW9⟩ := hP9
  have hF9 : zFr 318 327 σ υ9 := by first | exact hW9 | (rw [hW9]; exact (by first | exact zFr_refl _ _ _ | exact zFr_rW (zFr_refl _ _ _) (by omega) | exact zFr_rW (zFr_rW (zFr_refl _ _ _) (by omega)) (by omega) | exact qW_f _ _ _ _ | exact qM_f _ _ _ _ _ | exact rW2_f _ _ _ _ _ | exact rW3_f _ _ _ _ _ | exact alW_f _ _ _ _ _ | (split <;> first | exact zFr_refl _ _ _ | exact bW_f _ _ _ _) | assumption))
  have hR1 : zRel τ2371 (zDv.mk ni tx ec eo U S hh kp ou) := by rw [hτ9]; exact zRel_J (zRel_c hR hF9) _
  have ho9 : gJ τ2371 339 0 = v9.toInt64 := by rw [hτ9, gJ_sJ, if_pos ⟨rfl, rfl⟩]
  rw [hv9] at ho9
  refine zv_istore (lv' := [(6, .int (zI 0)), (0, .ref b0), (1, .ref (ob E 0)), (2, .ref (ob E 327)), (3, .ref (ob E 339)), (4, .ref (ob E 340)), (5, .int (zI (i : Int)))]) C dL_law_2374  (by decide) rfl ?_
  refine zv_aload_n C 3 dL_law_2376 rfl rfl ?_
  refine zv_aload_n C 1 dL_law_2377 rfl rfl ?_
  refine zv_iload C 6 dL_law_2378 rfl ?_
  refine zv_iconst (v := zI 1) C dL_law_2380 rfl ?_
  refine zv_iaddZ C dL_law_2381 ?_
  refine zv_sld (j := i + 1) (v := (zI (n1 : Int))) C W.2.2.1 W.2.2.2.1 W.2.2.2.2.1 W.2.2.2.2.2 (zI_ix (by omega)) (by omega) hx1 dL_law_2382 ?_
  refine zv_cvi (st := []) C (c_X11_shown hfl E τ2371 σ U S n1 hR1.2.2.2.1 hR.1.2.2.1 hR1.2.2.2.2.2.1.1 hR.1.2.2.2.1.1 (by first | assumption | omega) hR.1.2.2.2.1.2) mX11_shown kL_299 (by decide : kd 327 = 10) rfl rfl rfl ⟨rfl, rfl⟩ (show zfit (zrm 2 46) 2 room_1 = true from rfl) (Nat.le_of_ble_eq_true rfl) dL_law_2383 ⟨by omega, by omega⟩ (fun r2383 τ2383 hp2383 => ?_)
  obtain ⟨hr2, hK2⟩ := hp2383
  refine zv_eqi (y := zI ((qDrum U S n1 (S.dy : Int) + S.lg n1) % 1296000)) hr2 ?_
  have hR2 : zRel τ2383 (zDv.mk ni tx ec eo U S hh kp ou) := zRel_m hR1 hK2
  have ht2 : gI τ2383 327 10 = zI 0 := hK2.2
  have hJ2 : gJ τ2383 339 0 = gJ τ2371 339 0 := hK2.1.2.1 339 0 (by decide)
  have hD2 : gD τ2383 340 0 = gD τ2371 340 0 := hK2.1.2.2 340 0
  refine zv_istore (lv' := [(7, .int (zI ((qDrum U S n1 (S.dy : Int) + S.lg n1) % 1296000))), (6, .int (zI 0)), (0, .ref b0), (1, .ref (ob E 0)), (2, .ref (ob E 327)), (3, .ref (ob E 339)), (4, .ref (ob E 340)), (5, .int (zI (i : Int)))]) C dL_law_2386  (by decide) rfl ?_
  refine zv_aload_n C 4 dL_law_2388 rfl rfl ?_
  refine zv_cviD (st := []) C (c_X11_thrown hfl E τ2383) mX11_thrown kL_200 (by decide : kd 327 = 10) rfl rfl rfl ⟨rfl, rfl⟩ (show zfit (zrm 0 0) 1 room_1 = true from rfl) (Nat.le_of_ble_eq_true rfl) dL_law_2389 ⟨by omega, by omega⟩ ?_
  refine zv_eqi (y := (zI 0)) (ht2) ?_
  refine zv_iload C 1 dL_law_2392 rfl ?_
  refine zv_icmp_eqZ (tgt := 2399) C (by omega) (by omega) dL_law_2394 (by decide) (fun h2394 => ?_) (fun h2394 => ?_)
  · skip
    refine zv_iload C 1 dL_law_2399 rfl ?_
    refine zv_if_neZ (tgt := 2416) C (by omega) dL_law_2401 (by decide) (fun h2401 => absurd h2401 (by decide)) (fun h2401 => ?_)
    refine zv_aload_n C 5 dL_law_2404 rfl rfl ?_
    refine zv_iconst (v := zI 0) C dL_law_2405 rfl ?_
    refine zv_lald (j := 0) C (by decide : kd 339 = _) (zI_ix (by omega)) (by decide) dL_law_2406 ?_
    refine zv_eql (y := ((zI ((qDrum U S n1 (S.dy : Int) + S.lg n1) % 1296000)).toInt64)) (hJ2.trans ho9) ?_
    refine zv_iload C 0 dL_law_2407 rfl ?_
    refine zv_i2l C dL_law_2409 ?_
    refine zv_lc_eq (tgt := 2416) C dL_law_2410 dL_law_2411 (by decide) (fun h2410 => ?_) (fun h2410 => ?_)
    · skip
      refine zv_goto (tgt := 3624) C dL_law_2416 (by decide) ?_
      refine zv_sub (lv' := [(0, .ref b0), (1, .ref (ob E 0)), (2, .ref (ob E 327)), (3, .ref (ob E 339)), (4, .ref (ob E 340)), (5, .int (zI (i : Int)))]) [2, 3, 4, 5, 6, 7] (zcons rfl (zcons rfl (zcons rfl (zcons rfl (zcons rfl (zcons rfl rfl)))))) ?_
      exact kk _ _ _ _ (by omega) (by omega) hR2
    · exfalso
      exact h2410 rfl
  · exfalso
    omega
set_option maxRecDepth 20000 in
theorem lw_shown_x1_x1 {p : Program} {l : Launch} {e : Env} {s : State} {m : MethodId} {args : Array Value} {below : List Frame} {meth : Method} {c : Code} {E : zE} {Q : State → Prop} {b0 L i ce sl : Nat} {xs : Nat → Int32} {σ : zS} (ni : Nat) (tx : Nat → Int) (ec : Nat) (eo : Int) (U : zSU) (S : zST) (hh : List zST) (kp : Option zST) (ou : List Nat) (v1 : Int) (W : zLW p l s m args meth c E b0 L xs) (hi : i + 6 ≤ L) (hcs : ce + 1 ≤ room_1.cells ∧ sl + 6 ≤ room_1.slots) (hR : zRel σ (zDv.mk ni tx ec eo U S hh kp ou)) (hx1 : xs (i + 1) = (zI v1)) (hbi0 : -2147483648 ≤ v1 ∧ v1 < 2147483648) (hno1 : ¬ (0 ≤ v1 ∧ v1 < U.nb))  (kk : zNx p l e s m args below meth c E Q b0 i ce sl) : zV p l e room_1 s m args below meth c 9 E Q ce sl σ 2363 (lwL b0 i E) [] := by
  refine (?_ : zV p l e room_1 s m args below meth c 9 E Q ce sl σ 2363 [(0, .ref b0), (1, .ref (ob E 0)), (2, .ref (ob E 327)), (3, .ref (ob E 339)), (4, .ref (ob E 340)), (5, .int (zI (i : Int)))] [])
  have C := W.2.1
  have hfl := W.1
  have hroom : room_1.cells = 601024 ∧ room_1.slots = 7293034 := ⟨rfl, rfl⟩
  refine zv_aload_n C 1 dL_law_2363 rfl rfl ?_
  refine zv_aload_n C 0 dL_law_2364 rfl rfl ?_
  refine zv_iload C 5 dL_law_2365 rfl ?_
  refine zv_iconst (v := zI 1) C dL_law_2367 rfl ?_
  refine zv_iaddZ C dL_law_2368 ?_
  refine zv_sld (j := i + 1) (v := (zI v1)) C W.2.2.1 W.2.2.2.1 W.2.2.2.2.1 W.2.2.2.2.2 (zI_ix (by omega)) (by omega) hx1 dL_law_2369 ?_
  refine zv_aload_n C 3 dL_law_2370 rfl rfl ?_
  refine zv_cH (st := []) C (w_x1_X10_shown hfl E σ U v1 hR.1.2.2.1 (by first | assumption | omega) (by first | assumption | omega)) mL_shown kL_297 rfl ⟨rfl, rfl⟩ (show zfit (zrx 10 223) 4 room_1 = true from rfl) (Nat.le_of_ble_eq_true rfl) dL_law_2371 ⟨by exact hcs.1, by exact hcs.2⟩ (fun r2371 τ2371 hp2371 => ?_)
  obtain ⟨hr0, hP9⟩ := hp2371
  refine zv_eqi (y := zI 1) hr0 ?_
  have hF9 : zFr 318 327 σ τ2371 := by rw [hP9]; exact (by first | exact zFr_refl _ _ _ | exact zFr_rW (zFr_refl _ _ _) (by omega) | exact zFr_rW (zFr_rW (zFr_refl _ _ _) (by omega)) (by omega) | exact qW_f _ _ _ _ | exact qM_f _ _ _ _ _ | exact rW2_f _ _ _ _ _ | exact rW3_f _ _ _ _ _ | exact alW_f _ _ _ _ _ | (split <;> first | exact zFr_refl _ _ _ | exact bW_f _ _ _ _) | assumption)
  have hR1 : zRel τ2371 (zDv.mk ni tx ec eo U S hh kp ou) := zRel_c hR hF9
  refine zv_istore (lv' := [(6, .int (zI 1)), (0, .ref b0), (1, .ref (ob E 0)), (2, .ref (ob E 327)), (3, .ref (ob E 339)), (4, .ref (ob E 340)), (5, .int (zI (i : Int)))]) C dL_law_2374  (by decide) rfl ?_
  refine zv_aload_n C 3 dL_law_2376 rfl rfl ?_
  refine zv_aload_n C 1 dL_law_2377 rfl rfl ?_
  refine zv_iload C 6 dL_law_2378 rfl ?_
  refine zv_iconst (v := zI 1) C dL_law_2380 rfl ?_
  refine zv_iaddZ C dL_law_2381 ?_
  refine zv_sld (j := i + 1) (v := (zI v1)) C W.2.2.1 W.2.2.2.1 W.2.2.2.2.1 W.2.2.2.2.2 (zI_ix (by omega)) (by omega) hx1 dL_law_2382 ?_
  refine zv_cvi (st := []) C (x1_X11_shown hfl E τ2371 σ U v1 hR1.2.2.2.1 hR.1.2.2.1 (by first | assumption | omega) (by first | assumption | omega)) mX11_shown kL_299 (by decide : kd 327 = 10) rfl rfl rfl ⟨rfl, rfl⟩ (show zfit (zrm 2 46) 2 room_1 = true from rfl) (Nat.le_of_ble_eq_true rfl) dL_law_2383 ⟨by omega, by omega⟩ (fun r2383 τ2383 hp2383 => ?_)
  obtain ⟨hr2, hK2⟩ := hp2383
  refine zv_eqi (y := zI 0) hr2 ?_
  have hR2 : zRel τ2383 (zDv.mk ni tx ec eo U S hh kp ou) := zRel_m hR1 hK2
  have ht2 : gI τ2383 327 10 = zI 1 := hK2.2
  have hJ2 : gJ τ2383 339 0 = gJ τ2371 339 0 := hK2.1.2.1 339 0 (by decide)
  have hD2 : gD τ2383 340 0 = gD τ2371 340 0 := hK2.1.2.2 340 0
  refine zv_istore (lv' := [(7, .int (zI 0)), (6, .int (zI 1)), (0, .ref b0), (1, .ref (ob E 0)), (2, .ref (ob E 327)), (3, .ref (ob E 339)), (4, .ref (ob E 340)), (5, .int (zI (i : Int)))]) C dL_law_2386  (by decide) rfl ?_
  refine zv_aload_n C 4 dL_law_2388 rfl rfl ?_
  refine zv_cviD (st := []) C (c_X11_thrown hfl E τ2383) mX11_thrown kL_200 (by decide : kd 327 = 10) rfl rfl rfl ⟨rfl, rfl⟩ (show zfit (zrm 0 0) 1 room_1 = true from rfl) (Nat.le_of_ble_eq_true rfl) dL_law_2389 ⟨by omega, by omega⟩ ?_
  refine zv_eqi (y := (zI 1)) (ht2) ?_
  refine zv_iload C 1 dL_law_2392 rfl ?_
  refine zv_icmp_eqZ (tgt := 2399) C (by omega) (by omega) dL_law_2394 (by decide) (fun h2394 => ?_) (fun h2394 => ?_)
  · skip
    refine zv_iload C 1 dL_law_2399 rfl ?_
    refine zv_if_neZ (tgt := 2416) C (by omega) dL_law_2401 (by decide) (fun h2401 => ?_) (fun h2401 => absurd h2401 (by decide))
    refine zv_goto (tgt := 3624) C dL_law_2416 (by decide) ?_
    refine zv_sub (lv' := [(0, .ref b0), (1, .ref (ob E 0)), (2, .ref (ob E 327)), (3, .ref (ob E 339)), (4, .ref (ob E 340)), (5, .int (zI (i : Int)))]) [2, 3, 4, 5, 6, 7] (zcons rfl (zcons rfl (zcons rfl (zcons rfl (zcons rfl (zcons rfl rfl)))))) ?_
    exact kk _ _ _ _ (by omega) (by omega) hR2
  · exfalso
    omega
theorem LK_36 {p : Program} {l : Launch} {e : Env} {s : State} {m : MethodId} {args : Array Value} {below : List Frame} {meth : Method} {c : Code} {E : zE} {Q : State → Prop} {b0 L i ce sl : Nat} {xs : Nat → Int32} {σ : zS} (ni : Nat) (tx : Nat → Int) (ec : Nat) (eo : Int) (U : zSU) (S : zST) (hh : List zST) (kp : Option zST) (ou : List Nat) (hFN : zFN) (W : zLW p l s m args meth c E b0 L xs) (hi : i + 6 ≤ L) (hcs : ce + 1 ≤ room_1.cells ∧ sl + 6 ≤ room_1.slots) (hR : zRel σ (zDv.mk ni tx ec eo U S hh kp ou)) (kk : zNx p l e s m args below meth c E Q b0 i ce sl) : zV p l e room_1 s m args below meth c 9 E Q ce sl σ 2363 (lwL b0 i E) [] := by
  obtain ⟨v1, hx1, hv1⟩ := zI_cov (xs (i + 1))
  by_cases g1 : 0 ≤ v1 ∧ v1 < U.nb
  case neg =>
    exact lw_shown_x1_x1 _ _ _ _ _ _ _ _ _ _ W hi hcs hR hx1 (by first | assumption | omega) (by first | assumption | omega) kk
  obtain ⟨n1, rfl⟩ := Int.eq_ofNat_of_zero_le (show 0 ≤ v1 by omega)
  exact lw_shown_c_c _ _ _ _ _ _ _ _ _ _ W hi hcs hR hx1 (by first | assumption | omega) kk
theorem dL_law_2419 : decode cL_law 2419 = .ok (.aload_n 1, 1) := by decide +kernel
theorem dL_law_2420 : decode cL_law 2420 = .ok (.aload_n 0, 1) := by decide +kernel
theorem dL_law_2421 : decode cL_law 2421 = .ok (.iload 5, 2) := by decide +kernel
theorem dL_law_2423 : decode cL_law 2423 = .ok (.iconst 1, 1) := by decide +kernel
theorem dL_law_2424 : decode cL_law 2424 = .ok (.iadd, 1) := by decide +kernel
theorem dL_law_2425 : decode cL_law 2425 = .ok (.iaload, 1) := by decide +kernel
theorem dL_law_2426 : decode cL_law 2426 = .ok (.aload_n 3, 1) := by decide +kernel
theorem dL_law_2427 : decode cL_law 2427 = .ok (.invokestatic 300, 3) := by decide +kernel
theorem dL_law_2430 : decode cL_law 2430 = .ok (.istore 6, 2) := by decide +kernel
theorem dL_law_2432 : decode cL_law 2432 = .ok (.aload_n 2, 1) := by decide +kernel
theorem dL_law_2433 : decode cL_law 2433 = .ok (.aload_n 0, 1) := by decide +kernel
theorem dL_law_2434 : decode cL_law 2434 = .ok (.iload 5, 2) := by decide +kernel
theorem dL_law_2436 : decode cL_law 2436 = .ok (.iconst 1, 1) := by decide +kernel
theorem dL_law_2437 : decode cL_law 2437 = .ok (.iadd, 1) := by decide +kernel
theorem dL_law_2438 : decode cL_law 2438 = .ok (.iaload, 1) := by decide +kernel
theorem dL_law_2439 : decode cL_law 2439 = .ok (.invokevirtual 302, 3) := by decide +kernel
theorem dL_law_2442 : decode cL_law 2442 = .ok (.istore 7, 2) := by decide +kernel
theorem dL_law_2444 : decode cL_law 2444 = .ok (.aload_n 2, 1) := by decide +kernel
theorem dL_law_2445 : decode cL_law 2445 = .ok (.invokevirtual 200, 3) := by decide +kernel
theorem dL_law_2448 : decode cL_law 2448 = .ok (.iload 6, 2) := by decide +kernel
theorem dL_law_2450 : decode cL_law 2450 = .ok (.if_icmp .eq 5, 3) := by decide +kernel
theorem dL_law_2453 : decode cL_law 2453 = .ok (.iconst 0, 1) := by decide +kernel
theorem dL_law_2454 : decode cL_law 2454 = .ok (.ireturn, 1) := by decide +kernel
theorem dL_law_2455 : decode cL_law 2455 = .ok (.iload 6, 2) := by decide +kernel
theorem dL_law_2457 : decode cL_law 2457 = .ok (.ifCond .ne 15, 3) := by decide +kernel
theorem dL_law_2460 : decode cL_law 2460 = .ok (.aload_n 3, 1) := by decide +kernel
theorem dL_law_2461 : decode cL_law 2461 = .ok (.iconst 0, 1) := by decide +kernel
theorem dL_law_2462 : decode cL_law 2462 = .ok (.laload, 1) := by decide +kernel
theorem dL_law_2463 : decode cL_law 2463 = .ok (.iload 7, 2) := by decide +kernel
theorem dL_law_2465 : decode cL_law 2465 = .ok (.i2l, 1) := by decide +kernel
theorem dL_law_2466 : decode cL_law 2466 = .ok (.lcmp, 1) := by decide +kernel
theorem dL_law_2467 : decode cL_law 2467 = .ok (.ifCond .eq 5, 3) := by decide +kernel
theorem dL_law_2470 : decode cL_law 2470 = .ok (.iconst 0, 1) := by decide +kernel
theorem dL_law_2471 : decode cL_law 2471 = .ok (.ireturn, 1) := by decide +kernel
theorem dL_law_2472 : decode cL_law 2472 = .ok (.goto 1152, 3) := by decide +kernel
set_option maxRecDepth 20000 in
theorem lw_missing_c_c {p : Program} {l : Launch} {e : Env} {s : State} {m : MethodId} {args : Array Value} {below : List Frame} {meth : Method} {c : Code} {E : zE} {Q : State → Prop} {b0 L i ce sl : Nat} {xs : Nat → Int32} {σ : zS} (ni : Nat) (tx : Nat → Int) (ec : Nat) (eo : Int) (U : zSU) (S : zST) (hh : List zST) (kp : Option zST) (ou : List Nat) (n1 : Nat) (W : zLW p l s m args meth c E b0 L xs) (hi : i + 6 ≤ L) (hcs : ce + 1 ≤ room_1.cells ∧ sl + 6 ≤ room_1.slots) (hR : zRel σ (zDv.mk ni tx ec eo U S hh kp ou)) (hx1 : xs (i + 1) = (zI (n1 : Int))) (hi0 : n1 < U.nb)  (kk : zNx p l e s m args below meth c E Q b0 i ce sl) : zV p l e room_1 s m args below meth c 9 E Q ce sl σ 2419 (lwL b0 i E) [] := by
  refine (?_ : zV p l e room_1 s m args below meth c 9 E Q ce sl σ 2419 [(0, .ref b0), (1, .ref (ob E 0)), (2, .ref (ob E 327)), (3, .ref (ob E 339)), (4, .ref (ob E 340)), (5, .int (zI (i : Int)))] [])
  have C := W.2.1
  have hfl := W.1
  have hroom : room_1.cells = 601024 ∧ room_1.slots = 7293034 := ⟨rfl, rfl⟩
  refine zv_aload_n C 1 dL_law_2419 rfl rfl ?_
  refine zv_aload_n C 0 dL_law_2420 rfl rfl ?_
  refine zv_iload C 5 dL_law_2421 rfl ?_
  refine zv_iconst (v := zI 1) C dL_law_2423 rfl ?_
  refine zv_iaddZ C dL_law_2424 ?_
  refine zv_sld (j := i + 1) (v := (zI (n1 : Int))) C W.2.2.1 W.2.2.2.1 W.2.2.2.2.1 W.2.2.2.2.2 (zI_ix (by omega)) (by omega) hx1 dL_law_2425 ?_
  refine zv_aload_n C 3 dL_law_2426 rfl rfl ?_
  refine zv_cH (st := []) C (w_c_X10_missing hfl E σ U S n1 hR.1.2.2.1 hR.1.2.2.2.1.1 (by first | assumption | omega)) mL_missing kL_300 rfl ⟨rfl, rfl⟩ (show zfit (zrm 3 68) 4 room_1 = true from rfl) (Nat.le_of_ble_eq_true rfl) dL_law_2427 ⟨by omega, by omega⟩ (fun r2427 τ2427 hp2427 => ?_)
  obtain ⟨hr0, v9, υ9, hP9, hτ9⟩ := hp2427
  refine zv_eqi (y := zI 0) hr0 ?_
  obtain ⟨hv9, hW9⟩ := hP9
  have hF9 : zFr 318 327 σ υ9 := by first | exact hW9 | (rw [hW9]; exact (by first | exact zFr_refl _ _ _ | exact zFr_rW (zFr_refl _ _ _) (by omega) | exact zFr_rW (zFr_rW (zFr_refl _ _ _) (by omega)) (by omega) | exact qW_f _ _ _ _ | exact qM_f _ _ _ _ _ | exact rW2_f _ _ _ _ _ | exact rW3_f _ _ _ _ _ | exact alW_f _ _ _ _ _ | (split <;> first | exact zFr_refl _ _ _ | exact bW_f _ _ _ _) | assumption))
  have hR1 : zRel τ2427 (zDv.mk ni tx ec eo U S hh kp ou) := by rw [hτ9]; exact zRel_J (zRel_c hR hF9) _
  have ho9 : gJ τ2427 339 0 = v9.toInt64 := by rw [hτ9, gJ_sJ, if_pos ⟨rfl, rfl⟩]
  rw [hv9] at ho9
  refine zv_istore (lv' := [(6, .int (zI 0)), (0, .ref b0), (1, .ref (ob E 0)), (2, .ref (ob E 327)), (3, .ref (ob E 339)), (4, .ref (ob E 340)), (5, .int (zI (i : Int)))]) C dL_law_2430  (by decide) rfl ?_
  refine zv_aload_n C 3 dL_law_2432 rfl rfl ?_
  refine zv_aload_n C 1 dL_law_2433 rfl rfl ?_
  refine zv_iload C 6 dL_law_2434 rfl ?_
  refine zv_iconst (v := zI 1) C dL_law_2436 rfl ?_
  refine zv_iaddZ C dL_law_2437 ?_
  refine zv_sld (j := i + 1) (v := (zI (n1 : Int))) C W.2.2.1 W.2.2.2.1 W.2.2.2.2.1 W.2.2.2.2.2 (zI_ix (by omega)) (by omega) hx1 dL_law_2438 ?_
  refine zv_cvi (st := []) C (c_X11_missing hfl E τ2427 σ U S n1 hR1.2.2.2.1 hR.1.2.2.1 hR1.2.2.2.2.2.1.1 hR.1.2.2.2.1.1 (by first | assumption | omega)) mX11_missing kL_302 (by decide : kd 327 = 10) rfl rfl rfl ⟨rfl, rfl⟩ (show zfit (zrm 2 46) 4 room_1 = true from rfl) (Nat.le_of_ble_eq_true rfl) dL_law_2439 ⟨by omega, by omega⟩ (fun r2439 τ2439 hp2439 => ?_)
  obtain ⟨hr2, hK2⟩ := hp2439
  refine zv_eqi (y := zI (dMis S n1 (S.tn n1) : Int)) hr2 ?_
  have hR2 : zRel τ2439 (zDv.mk ni tx ec eo U S hh kp ou) := zRel_m hR1 hK2
  have ht2 : gI τ2439 327 10 = zI 0 := hK2.2
  have hJ2 : gJ τ2439 339 0 = gJ τ2427 339 0 := hK2.1.2.1 339 0 (by decide)
  have hD2 : gD τ2439 340 0 = gD τ2427 340 0 := hK2.1.2.2 340 0
  refine zv_istore (lv' := [(7, .int (zI (dMis S n1 (S.tn n1) : Int))), (6, .int (zI 0)), (0, .ref b0), (1, .ref (ob E 0)), (2, .ref (ob E 327)), (3, .ref (ob E 339)), (4, .ref (ob E 340)), (5, .int (zI (i : Int)))]) C dL_law_2442  (by decide) rfl ?_
  refine zv_aload_n C 4 dL_law_2444 rfl rfl ?_
  refine zv_cviD (st := []) C (c_X11_thrown hfl E τ2439) mX11_thrown kL_200 (by decide : kd 327 = 10) rfl rfl rfl ⟨rfl, rfl⟩ (show zfit (zrm 0 0) 1 room_1 = true from rfl) (Nat.le_of_ble_eq_true rfl) dL_law_2445 ⟨by omega, by omega⟩ ?_
  refine zv_eqi (y := (zI 0)) (ht2) ?_
  refine zv_iload C 1 dL_law_2448 rfl ?_
  refine zv_icmp_eqZ (tgt := 2455) C (by omega) (by omega) dL_law_2450 (by decide) (fun h2450 => ?_) (fun h2450 => ?_)
  · skip
    refine zv_iload C 1 dL_law_2455 rfl ?_
    refine zv_if_neZ (tgt := 2472) C (by omega) dL_law_2457 (by decide) (fun h2457 => absurd h2457 (by decide)) (fun h2457 => ?_)
    refine zv_aload_n C 5 dL_law_2460 rfl rfl ?_
    refine zv_iconst (v := zI 0) C dL_law_2461 rfl ?_
    refine zv_lald (j := 0) C (by decide : kd 339 = _) (zI_ix (by omega)) (by decide) dL_law_2462 ?_
    refine zv_eql (y := ((zI (dMis S n1 (S.tn n1) : Int)).toInt64)) (hJ2.trans ho9) ?_
    refine zv_iload C 0 dL_law_2463 rfl ?_
    refine zv_i2l C dL_law_2465 ?_
    refine zv_lc_eq (tgt := 2472) C dL_law_2466 dL_law_2467 (by decide) (fun h2466 => ?_) (fun h2466 => ?_)
    · skip
      refine zv_goto (tgt := 3624) C dL_law_2472 (by decide) ?_
      refine zv_sub (lv' := [(0, .ref b0), (1, .ref (ob E 0)), (2, .ref (ob E 327)), (3, .ref (ob E 339)), (4, .ref (ob E 340)), (5, .int (zI (i : Int)))]) [2, 3, 4, 5, 6, 7] (zcons rfl (zcons rfl (zcons rfl (zcons rfl (zcons rfl (zcons rfl rfl)))))) ?_
      exact kk _ _ _ _ (by omega) (by omega) hR2
    · exfalso
      exact h2466 rfl
  · exfalso
    omega
set_option maxRecDepth 20000 in
theorem lw_missing_x1_x1 {p : Program} {l : Launch} {e : Env} {s : State} {m : MethodId} {args : Array Value} {below : List Frame} {meth : Method} {c : Code} {E : zE} {Q : State → Prop} {b0 L i ce sl : Nat} {xs : Nat → Int32} {σ : zS} (ni : Nat) (tx : Nat → Int) (ec : Nat) (eo : Int) (U : zSU) (S : zST) (hh : List zST) (kp : Option zST) (ou : List Nat) (v1 : Int) (W : zLW p l s m args meth c E b0 L xs) (hi : i + 6 ≤ L) (hcs : ce + 1 ≤ room_1.cells ∧ sl + 6 ≤ room_1.slots) (hR : zRel σ (zDv.mk ni tx ec eo U S hh kp ou)) (hx1 : xs (i + 1) = (zI v1)) (hbi0 : -2147483648 ≤ v1 ∧ v1 < 2147483648) (hno1 : ¬ (0 ≤ v1 ∧ v1 < U.nb))  (kk : zNx p l e s m args below meth c E Q b0 i ce sl) : zV p l e room_1 s m args below meth c 9 E Q ce sl σ 2419 (lwL b0 i E) [] := by
  refine (?_ : zV p l e room_1 s m args below meth c 9 E Q ce sl σ 2419 [(0, .ref b0), (1, .ref (ob E 0)), (2, .ref (ob E 327)), (3, .ref (ob E 339)), (4, .ref (ob E 340)), (5, .int (zI (i : Int)))] [])
  have C := W.2.1
  have hfl := W.1
  have hroom : room_1.cells = 601024 ∧ room_1.slots = 7293034 := ⟨rfl, rfl⟩
  refine zv_aload_n C 1 dL_law_2419 rfl rfl ?_
  refine zv_aload_n C 0 dL_law_2420 rfl rfl ?_
  refine zv_iload C 5 dL_law_2421 rfl ?_
  refine zv_iconst (v := zI 1) C dL_law_2423 rfl ?_
  refine zv_iaddZ C dL_law_2424 ?_
  refine zv_sld (j := i + 1) (v := (zI v1)) C W.2.2.1 W.2.2.2.1 W.2.2.2.2.1 W.2.2.2.2.2 (zI_ix (by omega)) (by omega) hx1 dL_law_2425 ?_
  refine zv_aload_n C 3 dL_law_2426 rfl rfl ?_
  refine zv_cH (st := []) C (w_x1_X10_missing hfl E σ U v1 hR.1.2.2.1 (by first | assumption | omega) (by first | assumption | omega)) mL_missing kL_300 rfl ⟨rfl, rfl⟩ (show zfit (zrx 10 224) 4 room_1 = true from rfl) (Nat.le_of_ble_eq_true rfl) dL_law_2427 ⟨by exact hcs.1, by exact hcs.2⟩ (fun r2427 τ2427 hp2427 => ?_)
  obtain ⟨hr0, hP9⟩ := hp2427
  refine zv_eqi (y := zI 1) hr0 ?_
  have hF9 : zFr 318 327 σ τ2427 := by rw [hP9]; exact (by first | exact zFr_refl _ _ _ | exact zFr_rW (zFr_refl _ _ _) (by omega) | exact zFr_rW (zFr_rW (zFr_refl _ _ _) (by omega)) (by omega) | exact qW_f _ _ _ _ | exact qM_f _ _ _ _ _ | exact rW2_f _ _ _ _ _ | exact rW3_f _ _ _ _ _ | exact alW_f _ _ _ _ _ | (split <;> first | exact zFr_refl _ _ _ | exact bW_f _ _ _ _) | assumption)
  have hR1 : zRel τ2427 (zDv.mk ni tx ec eo U S hh kp ou) := zRel_c hR hF9
  refine zv_istore (lv' := [(6, .int (zI 1)), (0, .ref b0), (1, .ref (ob E 0)), (2, .ref (ob E 327)), (3, .ref (ob E 339)), (4, .ref (ob E 340)), (5, .int (zI (i : Int)))]) C dL_law_2430  (by decide) rfl ?_
  refine zv_aload_n C 3 dL_law_2432 rfl rfl ?_
  refine zv_aload_n C 1 dL_law_2433 rfl rfl ?_
  refine zv_iload C 6 dL_law_2434 rfl ?_
  refine zv_iconst (v := zI 1) C dL_law_2436 rfl ?_
  refine zv_iaddZ C dL_law_2437 ?_
  refine zv_sld (j := i + 1) (v := (zI v1)) C W.2.2.1 W.2.2.2.1 W.2.2.2.2.1 W.2.2.2.2.2 (zI_ix (by omega)) (by omega) hx1 dL_law_2438 ?_
  refine zv_cvi (st := []) C (x1_X11_missing hfl E τ2427 σ U v1 hR1.2.2.2.1 hR.1.2.2.1 (by first | assumption | omega) (by first | assumption | omega)) mX11_missing kL_302 (by decide : kd 327 = 10) rfl rfl rfl ⟨rfl, rfl⟩ (show zfit (zrm 2 46) 4 room_1 = true from rfl) (Nat.le_of_ble_eq_true rfl) dL_law_2439 ⟨by omega, by omega⟩ (fun r2439 τ2439 hp2439 => ?_)
  obtain ⟨hr2, hK2⟩ := hp2439
  refine zv_eqi (y := zI 0) hr2 ?_
  have hR2 : zRel τ2439 (zDv.mk ni tx ec eo U S hh kp ou) := zRel_m hR1 hK2
  have ht2 : gI τ2439 327 10 = zI 1 := hK2.2
  have hJ2 : gJ τ2439 339 0 = gJ τ2427 339 0 := hK2.1.2.1 339 0 (by decide)
  have hD2 : gD τ2439 340 0 = gD τ2427 340 0 := hK2.1.2.2 340 0
  refine zv_istore (lv' := [(7, .int (zI 0)), (6, .int (zI 1)), (0, .ref b0), (1, .ref (ob E 0)), (2, .ref (ob E 327)), (3, .ref (ob E 339)), (4, .ref (ob E 340)), (5, .int (zI (i : Int)))]) C dL_law_2442  (by decide) rfl ?_
  refine zv_aload_n C 4 dL_law_2444 rfl rfl ?_
  refine zv_cviD (st := []) C (c_X11_thrown hfl E τ2439) mX11_thrown kL_200 (by decide : kd 327 = 10) rfl rfl rfl ⟨rfl, rfl⟩ (show zfit (zrm 0 0) 1 room_1 = true from rfl) (Nat.le_of_ble_eq_true rfl) dL_law_2445 ⟨by omega, by omega⟩ ?_
  refine zv_eqi (y := (zI 1)) (ht2) ?_
  refine zv_iload C 1 dL_law_2448 rfl ?_
  refine zv_icmp_eqZ (tgt := 2455) C (by omega) (by omega) dL_law_2450 (by decide) (fun h2450 => ?_) (fun h2450 => ?_)
  · skip
    refine zv_iload C 1 dL_law_2455 rfl ?_
    refine zv_if_neZ (tgt := 2472) C (by omega) dL_law_2457 (by decide) (fun h2457 => ?_) (fun h2457 => absurd h2457 (by decide))
    refine zv_goto (tgt := 3624) C dL_law_2472 (by decide) ?_
    refine zv_sub (lv' := [(0, .ref b0), (1, .ref (ob E 0)), (2, .ref (ob E 327)), (3, .ref (ob E 339)), (4, .ref (ob E 340)), (5, .int (zI (i : Int)))]) [2, 3, 4, 5, 6, 7] (zcons rfl (zcons rfl (zcons rfl (zcons rfl (zcons rfl (zcons rfl rfl)))))) ?_
    exact kk _ _ _ _ (by omega) (by omega) hR2
  · exfalso
    omega
theorem LK_37 {p : Program} {l : Launch} {e : Env} {s : State} {m : MethodId} {args : Array Value} {below : List Frame} {meth : Method} {c : Code} {E : zE} {Q : State → Prop} {b0 L i ce sl : Nat} {xs : Nat → Int32} {σ : zS} (ni : Nat) (tx : Nat → Int) (ec : Nat) (eo : Int) (U : zSU) (S : zST) (hh : List zST) (kp : Option zST) (ou : List Nat) (hFN : zFN) (W : zLW p l s m args meth c E b0 L xs) (hi : i + 6 ≤ L) (hcs : ce + 1 ≤ room_1.cells ∧ sl + 6 ≤ room_1.slots) (hR : zRel σ (zDv.mk ni tx ec eo U S hh kp ou)) (kk : zNx p l e s m args below meth c E Q b0 i ce sl) : zV p l e room_1 s m args below meth c 9 E Q ce sl σ 2419 (lwL b0 i E) [] := by
  obtain ⟨v1, hx1, hv1⟩ := zI_cov (xs (i + 1))
  by_cases g1 : 0 ≤ v1 ∧ v1 < U.nb
  case neg =>
    exact lw_missing_x1_x1 _ _ _ _ _ _ _ _ _ _ W hi hcs hR hx1 (by first | assumption | omega) (by first | assumption | omega) kk
  obtain ⟨n1, rfl⟩ := Int.eq_ofNat_of_zero_le (show 0 ≤ v1 by omega)
  exact lw_missing_c_c _ _ _ _ _ _ _ _ _ _ W hi hcs hR hx1 (by first | assumption | omega) kk
