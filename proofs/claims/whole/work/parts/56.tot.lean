def qW (σ : zS) (U : zSU) (S : zST) : Nat → zS
  | 0 => σ
  | i + 1 => rW σ 322 (qDrift U S i).1 (qDrift U S i).2
theorem qW_s (σ : zS) (U : zSU) (S : zST) (i : Nat) : rW (qW σ U S i) 322 (qDrift U S i).1 (qDrift U S i).2 = qW σ U S (i + 1) := by
  cases i with
  | zero => rfl
  | succ i => exact rW_o _ _ _ _ _ _
theorem qW_U {σ : zS} {U : zSU} {S : zST} (h : zSUp σ 29 U) (i : Nat) : zSUp (qW σ U S i) 29 U := by
  cases i with
  | zero => exact h
  | succ i => exact zSUp_rW h (by decide)
theorem qW_S {σ : zS} {U : zSU} {S : zST} (h : zSTp σ 34 S) (i : Nat) : zSTp (qW σ U S i) 34 S := by
  cases i with
  | zero => exact h
  | succ i => exact zSTp_rW h
set_option maxRecDepth 20000 in
theorem c_X10_totalError {l : Launch} (hfl : l.stackTraces = false) (E : zE) (σ : zS) (U : zSU) (S : zST) (y : Int) (hU : zSUp σ 29 U) (hS : zSTp σ 34 S) (hy : U.s0 ≤ y ∧ y ≤ U.s0 + 999) : zRl l E yX10_totalError cX10_totalError 5 (zrm 6 148) [.ref (ob E 0), .int (zI y)] σ (fun r τ => r = zL (qSum U S y U.nb) ∧ τ = qW σ U S U.nb) := by
  refine Met.ofW (cc := cX10_totalError) (maxL := 5) (ret := (some .long)) (by decide +kernel) rfl ?_
  intro p e s m args below meth c s₁ B hml hv
  obtain ⟨rfl, hd⟩ := hv
  have C := zX_of (own := RX10) hfl B hml rfl hd rfl
  have hr := B.returns
  refine zV_go hd (Nat.le_of_ble_eq_true rfl) (lv := [(0, .ref (ob E 0)), (1, .int (zI y))]) rfl ?_
  have hnb : U.nb ≤ 8 := hU.2.2.1
  have hs0 := hU.2.2.2.1
  
  refine zv_aload_n C 0 dX10_totalError_0 rfl rfl ?_
  refine zv_iload_n C 1 dX10_totalError_1 rfl rfl ?_
  refine zv_cvvD (st := []) C (c_X10_needYear hfl E σ U y hU (by omega) hy) mX10_needYear kX10_192 (by decide : kd 0 = 9) rfl rfl rfl ⟨rfl, rfl⟩ (show zfit (zrm 1 22) 2 (zrm 6 148) = true from rfl) (Nat.le_of_ble_eq_true rfl) dX10_totalError_2 ⟨Nat.zero_le _, Nat.zero_le _⟩ ?_
  refine zv_lconst (v := zL 0) C dX10_totalError_5 (by decide) ?_
  refine zv_lstore_n (lv' := [(2, .long (zL 0)), (0, .ref (ob E 0)), (1, .int (zI y))]) C dX10_totalError_6 rfl (by decide) rfl ?_
  refine zv_iconst (v := zI 0) C dX10_totalError_7 rfl ?_
  refine zv_istore (lv' := [(4, .int (zI 0)), (2, .long (zL 0)), (0, .ref (ob E 0)), (1, .int (zI y))]) C dX10_totalError_8  (by decide) rfl ?_
  have q10_10 : (0 : Int) = (0 : Int) := by first | rfl | omega
  have q10_11 : (0 : Int) = qSum U S y 0 := by first | rfl | omega
  refine zv_sub (lv' := [(0, .ref (ob E 0)), (1, .int (zI y)), (2, .long (zL (qSum U S y 0))), (4, .int (zI (0 : Int)))]) [2, 3, 1, 0] (zcons rfl (zcons rfl (zcons (zqL q10_11) (zcons (zqI q10_10) rfl)))) ?_
  refine zv_eqS (τ := (qW σ U S 0)) (rfl) ?_
  refine zv_while (α := Nat) (fun v => U.nb - v) (fun v => v ≤ U.nb) (fun v => (qW σ U S v)) (fun v => [(0, .ref (ob E 0)), (1, .int (zI y)), (2, .long (zL (qSum U S y v))), (4, .int (zI (v : Int)))]) (fun v => []) (fun j hI ih => ?_) (0) (by omega)
  refine zv_iload C 3 dX10_totalError_10 rfl ?_
  refine zv_aload_n C 0 dX10_totalError_12 rfl rfl ?_
  refine zG9_1 C (by decide : kd 0 = _) kX10_19 dX10_totalError_13 ?_
  refine zG4_1 C (by decide : kd 29 = _) kX10_108 dX10_totalError_16 ?_
  refine zv_eqi (y := zI (U.nb : Int)) ((qW_U hU j).2.1) ?_
  refine zv_icmp_geZ (tgt := 38) C (by omega) (by omega) dX10_totalError_19 (by decide) (fun h19 => ?_) (fun h19 => ?_)
  · skip
    refine zv_lload_n C 2 dX10_totalError_38 rfl rfl ?_
    exact zv_lret C hr dX10_totalError_39 (by rw [show j = U.nb by omega]; exact ⟨rfl, rfl⟩)
  · skip
    have hqb := qErr_b hU hS (i := j) (by omega) (y := y) (by omega)
    refine zv_lload_n C 2 dX10_totalError_22 rfl rfl ?_
    refine zv_aload_n C 0 dX10_totalError_23 rfl rfl ?_
    refine zv_iload C 3 dX10_totalError_24 rfl ?_
    refine zv_iload_n C 1 dX10_totalError_26 rfl rfl ?_
    refine zv_cvlD (st := [.long (zL (qSum U S y j))]) C (c_X10_yearEndMiss hfl E (qW σ U S j) U S j y (qW_U hU j) (qW_S hS j) (by omega) hy (by omega)) mX10_yearEndMiss kX10_230 (by decide : kd 0 = 9) rfl rfl rfl ⟨rfl, rfl⟩ (show zfit (zrm 5 126) 3 (zrm 6 148) = true from rfl) (Nat.le_of_ble_eq_true rfl) dX10_totalError_27 ⟨Nat.zero_le _, Nat.zero_le _⟩ ?_
    refine zv_laddZ C dX10_totalError_30 ?_
    refine zv_lstore_n (lv' := [(2, .long (zL ((qSum U S y j) + ((qErr U S j y).natAbs : Int)))), (0, .ref (ob E 0)), (1, .int (zI y)), (4, .int (zI (j : Int)))]) C dX10_totalError_31 rfl (by decide) rfl ?_
    refine zv_iinc (v := (zI ((j : Int) + 1))) (lv' := [(4, .int (zI ((j : Int) + 1))), (2, .long (zL ((qSum U S y j) + ((qErr U S j y).natAbs : Int)))), (0, .ref (ob E 0)), (1, .int (zI y))]) C 3 dX10_totalError_32 rfl (zI_add _ _) (by decide) rfl ?_
    refine zv_goto (tgt := 10) C dX10_totalError_35 (by decide) ?_
    have q10_35 : ((j : Int) + 1 : Int) = ((j + 1 : Nat) : Int) := by first | rfl | omega
    have q10_36 : ((qSum U S y j) + ((qErr U S j y).natAbs : Int) : Int) = qSum U S y (j + 1) := by first | rfl | omega
    refine zv_sub (lv' := [(0, .ref (ob E 0)), (1, .int (zI y)), (2, .long (zL (qSum U S y (j + 1)))), (4, .int (zI ((j + 1 : Nat) : Int)))]) [2, 3, 1, 0] (zcons rfl (zcons rfl (zcons (zqL q10_36) (zcons (zqI q10_35) rfl)))) ?_
    refine zv_eqS (τ := (qW σ U S (j + 1))) (qW_s σ U S j) ?_
    exact ih (j + 1) (by omega) (by omega)
set_option maxRecDepth 20000 in
theorem x1_X10_totalError {l : Launch} (hfl : l.stackTraces = false) (E : zE) (σ : zS) (U : zSU) (y : Int) (hU : zSUp σ 29 U) (hyi : -2147483648 ≤ y ∧ y < 2147483648) (hno : ¬ (U.s0 ≤ y ∧ y ≤ U.s0 + 999)) : zRx l E yX10_totalError cX10_totalError 5 (some .long) (zrx 9 200) [.ref (ob E 0), .int (zI y)] σ "java/lang/IllegalArgumentException" := by
  refine vx_ofW (cc := cX10_totalError) (maxL := 5) (ret := (some .long)) (by decide) rfl ?_
  intro p e s m args below meth c s₁ B hml hout hv
  obtain ⟨rfl, hd⟩ := hv
  have C := zX_of (own := RX10) hfl B hml rfl hd rfl
  have hr := B.returns
  refine zV_go hd (Nat.le_of_ble_eq_true rfl) (lv := [(0, .ref (ob E 0)), (1, .int (zI y))]) rfl ?_
  have hnb : U.nb ≤ 8 := hU.2.2.1
  have hs0 := hU.2.2.2.1
  
  refine zv_aload_n C 0 dX10_totalError_0 rfl rfl ?_
  refine zv_iload_n C 1 dX10_totalError_1 rfl rfl ?_
  exact zv_xcv (st := []) C (x_X10_needYear hfl E σ U y hU hyi hno) hout mX10_needYear kX10_192 (by decide : kd 0 = 9) rfl rfl rfl ⟨rfl, rfl⟩ (show zfit (zrx 8 170) 2 (zrx 9 200) = true from rfl) (Nat.le_of_ble_eq_true rfl) dX10_totalError_2
