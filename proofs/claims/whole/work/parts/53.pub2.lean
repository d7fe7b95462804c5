set_option maxRecDepth 20000 in
theorem c_X10_daysOf {l : Launch} (hfl : l.stackTraces = false) (E : zE) (σ : zS) (U : zSU) (y : Int) (hU : zSUp σ 29 U) (hy : U.s0 ≤ y ∧ y ≤ U.s0 + 999) : zRi l E yX10_daysOf cX10_daysOf 2 .int (zrm 2 43) [.ref (ob E 0), .int (zI y)] σ (fun r τ => r = zI (yEnd U.s0 y - yEnd U.s0 (y - 1)) ∧ τ = σ) := by
  refine Met.ofW (cc := cX10_daysOf) (maxL := 2) (ret := (some .int)) (by decide +kernel) rfl ?_
  intro p e s m args below meth c s₁ B hml hv
  obtain ⟨rfl, hd⟩ := hv
  have C := zX_of (own := RX10) hfl B hml rfl hd rfl
  have hr := B.returns
  refine zV_go hd (Nat.le_of_ble_eq_true rfl) (lv := [(0, .ref (ob E 0)), (1, .int (zI y))]) rfl ?_
  have hnb : U.nb ≤ 8 := hU.2.2.1
  have hs0 := hU.2.2.2.1
  
  refine zv_aload_n C 0 dX10_daysOf_0 rfl rfl ?_
  refine zv_iload_n C 1 dX10_daysOf_1 rfl rfl ?_
  refine zv_cvvD (st := []) C (c_X10_needYear hfl E σ U y hU (by omega) hy) mX10_needYear kX10_192 (by decide : kd 0 = 9) rfl rfl rfl ⟨rfl, rfl⟩ (show zfit (zrm 1 22) 2 (zrm 2 43) = true from rfl) (Nat.le_of_ble_eq_true rfl) dX10_daysOf_2 ⟨Nat.zero_le _, Nat.zero_le _⟩ ?_
  refine zv_aload_n C 0 dX10_daysOf_5 rfl rfl ?_
  refine zG9_1 C (by decide : kd 0 = _) kX10_19 dX10_daysOf_6 ?_
  refine zv_iload_n C 1 dX10_daysOf_9 rfl rfl ?_
  refine zv_cviD (st := []) C (c_X4_endDay hfl E σ 29 U.s0 U.nb U.nm U.pe U.re U.ca (y) (by decide) hU (by omega)) mX4_endDay kX10_195 (by decide : kd 29 = 4) rfl rfl rfl ⟨rfl, rfl⟩ (show zfit (zrm 1 20) 2 (zrm 2 43) = true from rfl) (Nat.le_of_ble_eq_true rfl) dX10_daysOf_10 ⟨Nat.zero_le _, Nat.zero_le _⟩ ?_
  refine zv_aload_n C 0 dX10_daysOf_13 rfl rfl ?_
  refine zG9_1 C (by decide : kd 0 = _) kX10_19 dX10_daysOf_14 ?_
  refine zv_iload_n C 1 dX10_daysOf_17 rfl rfl ?_
  refine zv_iconst (v := zI 1) C dX10_daysOf_18 rfl ?_
  refine zv_isubZ C dX10_daysOf_19 ?_
  refine zv_cviD (st := [.int (zI (yEnd U.s0 (y)))]) C (c_X4_endDay hfl E σ 29 U.s0 U.nb U.nm U.pe U.re U.ca (y - 1) (by decide) hU (by omega)) mX4_endDay kX10_195 (by decide : kd 29 = 4) rfl rfl rfl ⟨rfl, rfl⟩ (show zfit (zrm 1 20) 2 (zrm 2 43) = true from rfl) (Nat.le_of_ble_eq_true rfl) dX10_daysOf_20 ⟨Nat.zero_le _, Nat.zero_le _⟩ ?_
  refine zv_isubZ C dX10_daysOf_23 ?_
  exact zv_iret C hr rfl dX10_daysOf_24 ⟨rfl, rfl⟩
set_option maxRecDepth 20000 in
theorem x1_X10_daysOf {l : Launch} (hfl : l.stackTraces = false) (E : zE) (σ : zS) (U : zSU) (y : Int) (hU : zSUp σ 29 U) (hyi : -2147483648 ≤ y ∧ y < 2147483648) (hno : ¬ (U.s0 ≤ y ∧ y ≤ U.s0 + 999)) : zRx l E yX10_daysOf cX10_daysOf 2 (some .int) (zrx 9 200) [.ref (ob E 0), .int (zI y)] σ "java/lang/IllegalArgumentException" := by
  refine vx_ofW (cc := cX10_daysOf) (maxL := 2) (ret := (some .int)) (by decide) rfl ?_
  intro p e s m args below meth c s₁ B hml hout hv
  obtain ⟨rfl, hd⟩ := hv
  have C := zX_of (own := RX10) hfl B hml rfl hd rfl
  have hr := B.returns
  refine zV_go hd (Nat.le_of_ble_eq_true rfl) (lv := [(0, .ref (ob E 0)), (1, .int (zI y))]) rfl ?_
  have hnb : U.nb ≤ 8 := hU.2.2.1
  have hs0 := hU.2.2.2.1
  
  refine zv_aload_n C 0 dX10_daysOf_0 rfl rfl ?_
  refine zv_iload_n C 1 dX10_daysOf_1 rfl rfl ?_
  exact zv_xcv (st := []) C (x_X10_needYear hfl E σ U y hU hyi hno) hout mX10_needYear kX10_192 (by decide : kd 0 = 9) rfl rfl rfl ⟨rfl, rfl⟩ (show zfit (zrx 8 170) 2 (zrx 9 200) = true from rfl) (Nat.le_of_ble_eq_true rfl) dX10_daysOf_2
set_option maxRecDepth 20000 in
theorem c_X10_endOf {l : Launch} (hfl : l.stackTraces = false) (E : zE) (σ : zS) (U : zSU) (y : Int) (hU : zSUp σ 29 U) (hy : U.s0 ≤ y ∧ y ≤ U.s0 + 999) : zRi l E yX10_endOf cX10_endOf 2 .int (zrm 2 43) [.ref (ob E 0), .int (zI y)] σ (fun r τ => r = zI (yEnd U.s0 y) ∧ τ = σ) := by
  refine Met.ofW (cc := cX10_endOf) (maxL := 2) (ret := (some .int)) (by decide +kernel) rfl ?_
  intro p e s m args below meth c s₁ B hml hv
  obtain ⟨rfl, hd⟩ := hv
  have C := zX_of (own := RX10) hfl B hml rfl hd rfl
  have hr := B.returns
  refine zV_go hd (Nat.le_of_ble_eq_true rfl) (lv := [(0, .ref (ob E 0)), (1, .int (zI y))]) rfl ?_
  have hnb : U.nb ≤ 8 := hU.2.2.1
  have hs0 := hU.2.2.2.1
  
  refine zv_aload_n C 0 dX10_endOf_0 rfl rfl ?_
  refine zv_iload_n C 1 dX10_endOf_1 rfl rfl ?_
  refine zv_cvvD (st := []) C (c_X10_needYear hfl E σ U y hU (by omega) hy) mX10_needYear kX10_192 (by decide : kd 0 = 9) rfl rfl rfl ⟨rfl, rfl⟩ (show zfit (zrm 1 22) 2 (zrm 2 43) = true from rfl) (Nat.le_of_ble_eq_true rfl) dX10_endOf_2 ⟨Nat.zero_le _, Nat.zero_le _⟩ ?_
  refine zv_aload_n C 0 dX10_endOf_5 rfl rfl ?_
  refine zG9_1 C (by decide : kd 0 = _) kX10_19 dX10_endOf_6 ?_
  refine zv_iload_n C 1 dX10_endOf_9 rfl rfl ?_
  refine zv_cviD (st := []) C (c_X4_endDay hfl E σ 29 U.s0 U.nb U.nm U.pe U.re U.ca (y) (by decide) hU (by omega)) mX4_endDay kX10_195 (by decide : kd 29 = 4) rfl rfl rfl ⟨rfl, rfl⟩ (show zfit (zrm 1 20) 2 (zrm 2 43) = true from rfl) (Nat.le_of_ble_eq_true rfl) dX10_endOf_10 ⟨Nat.zero_le _, Nat.zero_le _⟩ ?_
  exact zv_iret C hr rfl dX10_endOf_13 ⟨rfl, rfl⟩
set_option maxRecDepth 20000 in
theorem x1_X10_endOf {l : Launch} (hfl : l.stackTraces = false) (E : zE) (σ : zS) (U : zSU) (y : Int) (hU : zSUp σ 29 U) (hyi : -2147483648 ≤ y ∧ y < 2147483648) (hno : ¬ (U.s0 ≤ y ∧ y ≤ U.s0 + 999)) : zRx l E yX10_endOf cX10_endOf 2 (some .int) (zrx 9 200) [.ref (ob E 0), .int (zI y)] σ "java/lang/IllegalArgumentException" := by
  refine vx_ofW (cc := cX10_endOf) (maxL := 2) (ret := (some .int)) (by decide) rfl ?_
  intro p e s m args below meth c s₁ B hml hout hv
  obtain ⟨rfl, hd⟩ := hv
  have C := zX_of (own := RX10) hfl B hml rfl hd rfl
  have hr := B.returns
  refine zV_go hd (Nat.le_of_ble_eq_true rfl) (lv := [(0, .ref (ob E 0)), (1, .int (zI y))]) rfl ?_
  have hnb : U.nb ≤ 8 := hU.2.2.1
  have hs0 := hU.2.2.2.1
  
  refine zv_aload_n C 0 dX10_endOf_0 rfl rfl ?_
  refine zv_iload_n C 1 dX10_endOf_1 rfl rfl ?_
  exact zv_xcv (st := []) C (x_X10_needYear hfl E σ U y hU hyi hno) hout mX10_needYear kX10_192 (by decide : kd 0 = 9) rfl rfl rfl ⟨rfl, rfl⟩ (show zfit (zrx 8 170) 2 (zrx 9 200) = true from rfl) (Nat.le_of_ble_eq_true rfl) dX10_endOf_2
set_option maxRecDepth 20000 in
theorem c_X10_yearOf {l : Launch} (hfl : l.stackTraces = false) (E : zE) (σ : zS) (U : zSU) (y : Int) (hU : zSUp σ 29 U) (hy : 0 ≤ y ∧ y ≤ 400000) : zRi l E yX10_yearOf cX10_yearOf 2 .int (zrm 3 64) [.ref (ob E 0), .int (zI y)] σ (fun r τ => ∃ Y : Int, r = zI Y ∧ yIs U.s0 y Y ∧ Y ≤ U.s0 + 1096 ∧ τ = σ) := by
  refine Met.ofW (cc := cX10_yearOf) (maxL := 2) (ret := (some .int)) (by decide +kernel) rfl ?_
  intro p e s m args below meth c s₁ B hml hv
  obtain ⟨rfl, hd⟩ := hv
  have C := zX_of (own := RX10) hfl B hml rfl hd rfl
  have hr := B.returns
  refine zV_go hd (Nat.le_of_ble_eq_true rfl) (lv := [(0, .ref (ob E 0)), (1, .int (zI y))]) rfl ?_
  have hnb : U.nb ≤ 8 := hU.2.2.1
  have hs0 := hU.2.2.2.1
  
  refine zv_iload_n C 1 dX10_yearOf_0 rfl rfl ?_
  refine zv_iconst (v := zI 0) C dX10_yearOf_1 rfl ?_
  refine zv_ldc C kX10_199 dX10_yearOf_2 ?_
  refine zv_eqi (y := zI 400000) (by decide) ?_
  refine zv_csvD (st := []) C (c_X10_needWithin hfl E σ y 0 400000 (by omega) (by omega) (by omega) hy) mX10_needWithin kX10_117 rfl ⟨rfl, rfl⟩ (show zfit (zrm 0 0) 3 (zrm 3 64) = true from rfl) (Nat.le_of_ble_eq_true rfl) dX10_yearOf_4 ⟨Nat.zero_le _, Nat.zero_le _⟩ ?_
  refine zv_aload_n C 0 dX10_yearOf_7 rfl rfl ?_
  refine zG9_1 C (by decide : kd 0 = _) kX10_19 dX10_yearOf_8 ?_
  refine zv_iload_n C 1 dX10_yearOf_11 rfl rfl ?_
  refine zv_cvi (st := []) C (c_X4_yearWith hfl E σ 29 U.s0 U.nb U.nm U.pe U.re U.ca y (by decide) hU hy) mX4_yearWith kX10_200 (by decide : kd 29 = 4) rfl rfl rfl ⟨rfl, rfl⟩ (show zfit (zrm 2 41) 4 (zrm 3 64) = true from rfl) (Nat.le_of_ble_eq_true rfl) dX10_yearOf_12 ⟨Nat.zero_le _, Nat.zero_le _⟩ (fun r12 τ12 hp12 => ?_)
  exact zv_iret C hr rfl dX10_yearOf_15 hp12
set_option maxRecDepth 20000 in
theorem x1_X10_yearOf {l : Launch} (hfl : l.stackTraces = false) (E : zE) (σ : zS) (U : zSU) (y : Int) (hyi : -2147483648 ≤ y ∧ y < 2147483648) (hno : ¬ (0 ≤ y ∧ y ≤ 400000)) : zRx l E yX10_yearOf cX10_yearOf 2 (some .int) (zrx 9 200) [.ref (ob E 0), .int (zI y)] σ "java/lang/IllegalArgumentException" := by
  refine vx_ofW (cc := cX10_yearOf) (maxL := 2) (ret := (some .int)) (by decide) rfl ?_
  intro p e s m args below meth c s₁ B hml hout hv
  obtain ⟨rfl, hd⟩ := hv
  have C := zX_of (own := RX10) hfl B hml rfl hd rfl
  have hr := B.returns
  refine zV_go hd (Nat.le_of_ble_eq_true rfl) (lv := [(0, .ref (ob E 0)), (1, .int (zI y))]) rfl ?_
  skip
  refine zv_iload_n C 1 dX10_yearOf_0 rfl rfl ?_
  refine zv_iconst (v := zI 0) C dX10_yearOf_1 rfl ?_
  refine zv_ldc C kX10_199 dX10_yearOf_2 ?_
  refine zv_eqi (y := zI 400000) (by decide) ?_
  exact zv_xcs (st := []) C (x_X10_needWithin hfl E σ y 0 400000 hyi (by omega) (by omega) hno) hout mX10_needWithin kX10_117 rfl ⟨rfl, rfl⟩ (show zfit (zrx 6 100) 3 (zrx 9 200) = true from rfl) (Nat.le_of_ble_eq_true rfl) dX10_yearOf_4
set_option maxRecDepth 20000 in
theorem c_X10_revolutions {l : Launch} (hfl : l.stackTraces = false) (E : zE) (σ : zS) (U : zSU) (S : zST) (i : Nat) (y : Int) (hU : zSUp σ 29 U) (hS : zSTp σ 34 S) (hi : i < U.nb) (hy : U.s0 ≤ y ∧ y ≤ U.s0 + 999) : zRl l E yX10_revolutions cX10_revolutions 3 (zrm 4 105) [.ref (ob E 0), .int (zI (i : Int)), .int (zI y)] σ (fun r τ => r = zL ((qPtr U S i).1 * yEnd U.s0 y / (qPtr U S i).2) ∧ τ = (rW σ 320 (qPtr U S i).1 (qPtr U S i).2)) := by
  refine Met.ofW (cc := cX10_revolutions) (maxL := 3) (ret := (some .long)) (by decide +kernel) rfl ?_
  intro p e s m args below meth c s₁ B hml hv
  obtain ⟨rfl, hd⟩ := hv
  have C := zX_of (own := RX10) hfl B hml rfl hd rfl
  have hr := B.returns
  refine zV_go hd (Nat.le_of_ble_eq_true rfl) (lv := [(0, .ref (ob E 0)), (1, .int (zI (i : Int))), (2, .int (zI y))]) rfl ?_
  have hnb : U.nb ≤ 8 := hU.2.2.1
  have hs0 := hU.2.2.2.1
  have hye := yEnd_in hs0 (y := y) (by omega)
  obtain ⟨f, hf⟩ : ∃ f : Nat, yEnd U.s0 y = (f : Int) := ⟨(yEnd U.s0 y).toNat, by omega⟩
  have hq := qPtr_b hU hS hi
  have hm := mul_b (b := (f : Int)) (B := 2000000) hq.1 (by omega)
  have hU2 : zSUp (rW σ 320 (qPtr U S i).1 (qPtr U S i).2) 29 U := zSUp_rW hU (by decide)
  refine zv_aload_n C 0 dX10_revolutions_0 rfl rfl ?_
  refine zv_iload_n C 1 dX10_revolutions_1 rfl rfl ?_
  refine zv_cvvD (st := []) C (c_X10_needBody hfl E σ U (i : Int) hU (by omega) (by omega)) mX10_needBody kX10_140 (by decide : kd 0 = 9) rfl rfl rfl ⟨rfl, rfl⟩ (show zfit (zrm 0 0) 2 (zrm 4 105) = true from rfl) (Nat.le_of_ble_eq_true rfl) dX10_revolutions_2 ⟨Nat.zero_le _, Nat.zero_le _⟩ ?_
  refine zv_aload_n C 0 dX10_revolutions_5 rfl rfl ?_
  refine zv_iload_n C 2 dX10_revolutions_6 rfl rfl ?_
  refine zv_cvvD (st := []) C (c_X10_needYear hfl E σ U y hU (by omega) hy) mX10_needYear kX10_192 (by decide : kd 0 = 9) rfl rfl rfl ⟨rfl, rfl⟩ (show zfit (zrm 1 22) 2 (zrm 4 105) = true from rfl) (Nat.le_of_ble_eq_true rfl) dX10_revolutions_7 ⟨Nat.zero_le _, Nat.zero_le _⟩ ?_
  refine zv_aload_n C 0 dX10_revolutions_10 rfl rfl ?_
  refine zv_iload_n C 1 dX10_revolutions_11 rfl rfl ?_
  refine zv_aload_n C 0 dX10_revolutions_12 rfl rfl ?_
  refine zG9_6 C (by decide : kd 0 = _) kX10_54 dX10_revolutions_13 ?_
  refine zv_cvrD (st := []) C (c_X10_pointerOf hfl E σ U S i 320 hU hS hi (by decide)) mX10_pointerOf kX10_181 (by decide : kd 0 = 9) rfl rfl rfl ⟨rfl, rfl⟩ (show zfit (zrm 3 80) 6 (zrm 4 105) = true from rfl) (Nat.le_of_ble_eq_true rfl) dX10_revolutions_16 ⟨Nat.zero_le _, Nat.zero_le _⟩ ?_
  refine zv_aload_n C 0 dX10_revolutions_19 rfl rfl ?_
  refine zG9_1 C (by decide : kd 0 = _) kX10_19 dX10_revolutions_20 ?_
  refine zv_iload_n C 2 dX10_revolutions_23 rfl rfl ?_
  refine zv_cviD (st := [.ref (ob E 320)]) C (c_X4_endDay hfl E (rW σ 320 (qPtr U S i).1 (qPtr U S i).2) 29 U.s0 U.nb U.nm U.pe U.re U.ca y (by decide) hU2 (by omega)) mX4_endDay kX10_195 (by decide : kd 29 = 4) rfl rfl rfl ⟨rfl, rfl⟩ (show zfit (zrm 1 20) 2 (zrm 4 105) = true from rfl) (Nat.le_of_ble_eq_true rfl) dX10_revolutions_24 ⟨Nat.zero_le _, Nat.zero_le _⟩ ?_
  refine zv_eqi (y := (zI (f : Int))) (by rw [hf]) ?_
  refine zv_cvlD (st := []) C (c_X3_wholeTurnsBy hfl E (rW σ 320 (qPtr U S i).1 (qPtr U S i).2) 320 (qPtr U S i).1 (qPtr U S i).2 (f : Int) (by decide) (rW_R _ _ _ _) (by omega) (by omega) (by omega)) mX3_wholeTurnsBy kX10_254 (by decide : kd 320 = 3) rfl rfl rfl ⟨rfl, rfl⟩ (show zfit (zrm 1 25) 2 (zrm 4 105) = true from rfl) (Nat.le_of_ble_eq_true rfl) dX10_revolutions_27 ⟨Nat.zero_le _, Nat.zero_le _⟩ ?_
  exact zv_lret C hr dX10_revolutions_30 ⟨by rw [hf], rfl⟩
set_option maxRecDepth 20000 in
theorem x1_X10_revolutions {l : Launch} (hfl : l.stackTraces = false) (E : zE) (σ : zS) (U : zSU) (b : Int) (y : Int) (hU : zSUp σ 29 U) (hbi : -2147483648 ≤ b ∧ b < 2147483648) (hno : ¬ (0 ≤ b ∧ b < U.nb)) : zRx l E yX10_revolutions cX10_revolutions 3 (some .long) (zrx 9 200) [.ref (ob E 0), .int (zI b), .int (zI y)] σ "java/lang/IndexOutOfBoundsException" := by
  refine vx_ofW (cc := cX10_revolutions) (maxL := 3) (ret := (some .long)) (by decide) rfl ?_
  intro p e s m args below meth c s₁ B hml hout hv
  obtain ⟨rfl, hd⟩ := hv
  have C := zX_of (own := RX10) hfl B hml rfl hd rfl
  have hr := B.returns
  refine zV_go hd (Nat.le_of_ble_eq_true rfl) (lv := [(0, .ref (ob E 0)), (1, .int (zI b)), (2, .int (zI y))]) rfl ?_
  have hnb : U.nb ≤ 8 := hU.2.2.1
  have hs0 := hU.2.2.2.1
  
  refine zv_aload_n C 0 dX10_revolutions_0 rfl rfl ?_
  refine zv_iload_n C 1 dX10_revolutions_1 rfl rfl ?_
  exact zv_xcv (st := []) C (x_X10_needBody hfl E σ U b hU hbi hno) hout mX10_needBody kX10_140 (by decide : kd 0 = 9) rfl rfl rfl ⟨rfl, rfl⟩ (show zfit (zrx 6 100) 2 (zrx 9 200) = true from rfl) (Nat.le_of_ble_eq_true rfl) dX10_revolutions_2
set_option maxRecDepth 20000 in
theorem x2_X10_revolutions {l : Launch} (hfl : l.stackTraces = false) (E : zE) (σ : zS) (U : zSU) (S : zST) (i : Nat) (y : Int) (hU : zSUp σ 29 U) (hi : i < U.nb) (hyi : -2147483648 ≤ y ∧ y < 2147483648) (hno : ¬ (U.s0 ≤ y ∧ y ≤ U.s0 + 999)) : zRx l E yX10_revolutions cX10_revolutions 3 (some .long) (zrx 9 200) [.ref (ob E 0), .int (zI (i : Int)), .int (zI y)] σ "java/lang/IllegalArgumentException" := by
  refine vx_ofW (cc := cX10_revolutions) (maxL := 3) (ret := (some .long)) (by decide) rfl ?_
  intro p e s m args below meth c s₁ B hml hout hv
  obtain ⟨rfl, hd⟩ := hv
  have C := zX_of (own := RX10) hfl B hml rfl hd rfl
  have hr := B.returns
  refine zV_go hd (Nat.le_of_ble_eq_true rfl) (lv := [(0, .ref (ob E 0)), (1, .int (zI (i : Int))), (2, .int (zI y))]) rfl ?_
  have hnb : U.nb ≤ 8 := hU.2.2.1
  have hs0 := hU.2.2.2.1
  
  refine zv_aload_n C 0 dX10_revolutions_0 rfl rfl ?_
  refine zv_iload_n C 1 dX10_revolutions_1 rfl rfl ?_
  refine zv_cvvD (st := []) C (c_X10_needBody hfl E σ U (i : Int) hU (by omega) (by omega)) mX10_needBody kX10_140 (by decide : kd 0 = 9) rfl rfl rfl ⟨rfl, rfl⟩ (show zfit (zrm 0 0) 2 (zrx 9 200) = true from rfl) (Nat.le_of_ble_eq_true rfl) dX10_revolutions_2 ⟨Nat.zero_le _, Nat.zero_le _⟩ ?_
  refine zv_aload_n C 0 dX10_revolutions_5 rfl rfl ?_
  refine zv_iload_n C 2 dX10_revolutions_6 rfl rfl ?_
  exact zv_xcv (st := []) C (x_X10_needYear hfl E σ U y hU hyi hno) hout mX10_needYear kX10_192 (by decide : kd 0 = 9) rfl rfl rfl ⟨rfl, rfl⟩ (show zfit (zrx 8 170) 2 (zrx 9 200) = true from rfl) (Nat.le_of_ble_eq_true rfl) dX10_revolutions_7
