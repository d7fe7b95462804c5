set_option maxRecDepth 20000 in
theorem c_X10_error {l : Launch} (hfl : l.stackTraces = false) (E : zE) (σ : zS) (U : zSU) (S : zST) (i : Nat) (y : Int) (hU : zSUp σ 29 U) (hS : zSTp σ 34 S) (hi : i < U.nb) (hy : U.s0 ≤ y ∧ y ≤ U.s0 + 999) : zRl l E yX10_error cX10_error 3 (zrm 6 148) [.ref (ob E 0), .int (zI (i : Int)), .int (zI y)] σ (fun r τ => r = zL (qErr U S i y) ∧ τ = (rW σ 322 (qDrift U S i).1 (qDrift U S i).2)) := by
  refine Met.ofW (cc := cX10_error) (maxL := 3) (ret := (some .long)) (by decide +kernel) rfl ?_
  intro p e s m args below meth c s₁ B hml hv
  obtain ⟨rfl, hd⟩ := hv
  have C := zX_of (own := RX10) hfl B hml rfl hd rfl
  have hr := B.returns
  refine zV_go hd (Nat.le_of_ble_eq_true rfl) (lv := [(0, .ref (ob E 0)), (1, .int (zI (i : Int))), (2, .int (zI y))]) rfl ?_
  have hnb : U.nb ≤ 8 := hU.2.2.1
  have hs0 := hU.2.2.2.1
  
  refine zv_aload_n C 0 dX10_error_0 rfl rfl ?_
  refine zv_iload_n C 1 dX10_error_1 rfl rfl ?_
  refine zv_cvvD (st := []) C (c_X10_needBody hfl E σ U (i : Int) hU (by omega) (by omega)) mX10_needBody kX10_140 (by decide : kd 0 = 9) rfl rfl rfl ⟨rfl, rfl⟩ (show zfit (zrm 0 0) 2 (zrm 6 148) = true from rfl) (Nat.le_of_ble_eq_true rfl) dX10_error_2 ⟨Nat.zero_le _, Nat.zero_le _⟩ ?_
  refine zv_aload_n C 0 dX10_error_5 rfl rfl ?_
  refine zv_iload_n C 2 dX10_error_6 rfl rfl ?_
  refine zv_cvvD (st := []) C (c_X10_needYear hfl E σ U y hU (by omega) hy) mX10_needYear kX10_192 (by decide : kd 0 = 9) rfl rfl rfl ⟨rfl, rfl⟩ (show zfit (zrm 1 22) 2 (zrm 6 148) = true from rfl) (Nat.le_of_ble_eq_true rfl) dX10_error_7 ⟨Nat.zero_le _, Nat.zero_le _⟩ ?_
  refine zv_aload_n C 0 dX10_error_10 rfl rfl ?_
  refine zv_iload_n C 1 dX10_error_11 rfl rfl ?_
  refine zv_iload_n C 2 dX10_error_12 rfl rfl ?_
  refine zv_cvlD (st := []) C (c_X10_yearEndError hfl E σ U S i y hU hS hi hy) mX10_yearEndError kX10_218 (by decide : kd 0 = 9) rfl rfl rfl ⟨rfl, rfl⟩ (show zfit (zrm 5 126) 3 (zrm 6 148) = true from rfl) (Nat.le_of_ble_eq_true rfl) dX10_error_13 ⟨Nat.zero_le _, Nat.zero_le _⟩ ?_
  exact zv_lret C hr dX10_error_16 ⟨rfl, rfl⟩
set_option maxRecDepth 20000 in
theorem x1_X10_error {l : Launch} (hfl : l.stackTraces = false) (E : zE) (σ : zS) (U : zSU) (b : Int) (y : Int) (hU : zSUp σ 29 U) (hbi : -2147483648 ≤ b ∧ b < 2147483648) (hno : ¬ (0 ≤ b ∧ b < U.nb)) : zRx l E yX10_error cX10_error 3 (some .long) (zrx 9 200) [.ref (ob E 0), .int (zI b), .int (zI y)] σ "java/lang/IndexOutOfBoundsException" := by
  refine vx_ofW (cc := cX10_error) (maxL := 3) (ret := (some .long)) (by decide) rfl ?_
  intro p e s m args below meth c s₁ B hml hout hv
  obtain ⟨rfl, hd⟩ := hv
  have C := zX_of (own := RX10) hfl B hml rfl hd rfl
  have hr := B.returns
  refine zV_go hd (Nat.le_of_ble_eq_true rfl) (lv := [(0, .ref (ob E 0)), (1, .int (zI b)), (2, .int (zI y))]) rfl ?_
  have hnb : U.nb ≤ 8 := hU.2.2.1
  have hs0 := hU.2.2.2.1
  
  refine zv_aload_n C 0 dX10_error_0 rfl rfl ?_
  refine zv_iload_n C 1 dX10_error_1 rfl rfl ?_
  exact zv_xcv (st := []) C (x_X10_needBody hfl E σ U b hU hbi hno) hout mX10_needBody kX10_140 (by decide : kd 0 = 9) rfl rfl rfl ⟨rfl, rfl⟩ (show zfit (zrx 6 100) 2 (zrx 9 200) = true from rfl) (Nat.le_of_ble_eq_true rfl) dX10_error_2
set_option maxRecDepth 20000 in
theorem x2_X10_error {l : Launch} (hfl : l.stackTraces = false) (E : zE) (σ : zS) (U : zSU) (S : zST) (i : Nat) (y : Int) (hU : zSUp σ 29 U) (hi : i < U.nb) (hyi : -2147483648 ≤ y ∧ y < 2147483648) (hno : ¬ (U.s0 ≤ y ∧ y ≤ U.s0 + 999)) : zRx l E yX10_error cX10_error 3 (some .long) (zrx 9 200) [.ref (ob E 0), .int (zI (i : Int)), .int (zI y)] σ "java/lang/IllegalArgumentException" := by
  refine vx_ofW (cc := cX10_error) (maxL := 3) (ret := (some .long)) (by decide) rfl ?_
  intro p e s m args below meth c s₁ B hml hout hv
  obtain ⟨rfl, hd⟩ := hv
  have C := zX_of (own := RX10) hfl B hml rfl hd rfl
  have hr := B.returns
  refine zV_go hd (Nat.le_of_ble_eq_true rfl) (lv := [(0, .ref (ob E 0)), (1, .int (zI (i : Int))), (2, .int (zI y))]) rfl ?_
  have hnb : U.nb ≤ 8 := hU.2.2.1
  have hs0 := hU.2.2.2.1
  
  refine zv_aload_n C 0 dX10_error_0 rfl rfl ?_
  refine zv_iload_n C 1 dX10_error_1 rfl rfl ?_
  refine zv_cvvD (st := []) C (c_X10_needBody hfl E σ U (i : Int) hU (by omega) (by omega)) mX10_needBody kX10_140 (by decide : kd 0 = 9) rfl rfl rfl ⟨rfl, rfl⟩ (show zfit (zrm 0 0) 2 (zrx 9 200) = true from rfl) (Nat.le_of_ble_eq_true rfl) dX10_error_2 ⟨Nat.zero_le _, Nat.zero_le _⟩ ?_
  refine zv_aload_n C 0 dX10_error_5 rfl rfl ?_
  refine zv_iload_n C 2 dX10_error_6 rfl rfl ?_
  exact zv_xcv (st := []) C (x_X10_needYear hfl E σ U y hU hyi hno) hout mX10_needYear kX10_192 (by decide : kd 0 = 9) rfl rfl rfl ⟨rfl, rfl⟩ (show zfit (zrx 8 170) 2 (zrx 9 200) = true from rfl) (Nat.le_of_ble_eq_true rfl) dX10_error_7
set_option maxRecDepth 20000 in
theorem c_X10_errorBy {l : Launch} (hfl : l.stackTraces = false) (E : zE) (σ : zS) (U : zSU) (S : zST) (i : Nat) (f : Nat) (hU : zSUp σ 29 U) (hS : zSTp σ 34 S) (hi : i < U.nb) (hf : f ≤ 400000) : zRl l E yX10_errorBy cX10_errorBy 3 (zrm 5 126) [.ref (ob E 0), .int (zI (i : Int)), .int (zI (f : Int))] σ (fun r τ => r = zL (qArc U S i (f : Int)) ∧ τ = (rW σ 322 (qDrift U S i).1 (qDrift U S i).2)) := by
  refine Met.ofW (cc := cX10_errorBy) (maxL := 3) (ret := (some .long)) (by decide +kernel) rfl ?_
  intro p e s m args below meth c s₁ B hml hv
  obtain ⟨rfl, hd⟩ := hv
  have C := zX_of (own := RX10) hfl B hml rfl hd rfl
  have hr := B.returns
  refine zV_go hd (Nat.le_of_ble_eq_true rfl) (lv := [(0, .ref (ob E 0)), (1, .int (zI (i : Int))), (2, .int (zI (f : Int)))]) rfl ?_
  have hnb : U.nb ≤ 8 := hU.2.2.1
  have hs0 := hU.2.2.2.1
  have hdb := qDrift_b hU hS hi
  have hF : ((f * 1296000 : Nat) : Int) = (f : Int) * 1296000 := by omega
  refine zv_aload_n C 0 dX10_errorBy_0 rfl rfl ?_
  refine zv_iload_n C 1 dX10_errorBy_1 rfl rfl ?_
  refine zv_cvvD (st := []) C (c_X10_needBody hfl E σ U (i : Int) hU (by omega) (by omega)) mX10_needBody kX10_140 (by decide : kd 0 = 9) rfl rfl rfl ⟨rfl, rfl⟩ (show zfit (zrm 0 0) 2 (zrm 5 126) = true from rfl) (Nat.le_of_ble_eq_true rfl) dX10_errorBy_2 ⟨Nat.zero_le _, Nat.zero_le _⟩ ?_
  refine zv_iload_n C 2 dX10_errorBy_5 rfl rfl ?_
  refine zv_iconst (v := zI 0) C dX10_errorBy_6 rfl ?_
  refine zv_ldc C kX10_199 dX10_errorBy_7 ?_
  refine zv_eqi (y := zI 400000) (by decide) ?_
  refine zv_csvD (st := []) C (c_X10_needWithin hfl E σ (f : Int) 0 400000 (by omega) (by omega) (by omega) (by omega)) mX10_needWithin kX10_117 rfl ⟨rfl, rfl⟩ (show zfit (zrm 0 0) 3 (zrm 5 126) = true from rfl) (Nat.le_of_ble_eq_true rfl) dX10_errorBy_9 ⟨Nat.zero_le _, Nat.zero_le _⟩ ?_
  refine zv_aload_n C 0 dX10_errorBy_12 rfl rfl ?_
  refine zv_iload_n C 1 dX10_errorBy_13 rfl rfl ?_
  refine zv_cvrD (st := []) C (c_X10_driftOf hfl E σ U S i hU hS hi) mX10_driftOf kX10_210 (by decide : kd 0 = 9) rfl rfl rfl ⟨rfl, rfl⟩ (show zfit (zrm 4 105) 2 (zrm 5 126) = true from rfl) (Nat.le_of_ble_eq_true rfl) dX10_errorBy_14 ⟨Nat.zero_le _, Nat.zero_le _⟩ ?_
  refine zv_iload_n C 2 dX10_errorBy_17 rfl rfl ?_
  refine zv_cvlD (st := []) C (c_X3_arcBy hfl E (rW σ 322 (qDrift U S i).1 (qDrift U S i).2) 322 (qDrift U S i).1 (qDrift U S i).2 f (f * 1296000) rfl (by decide) (rW_R _ _ _ _) (by omega) (by omega) (by omega)) mX3_arcBy kX10_214 (by decide : kd 322 = 3) rfl rfl rfl ⟨rfl, rfl⟩ (show zfit (zrm 1 21) 14 (zrm 5 126) = true from rfl) (Nat.le_of_ble_eq_true rfl) dX10_errorBy_18 ⟨Nat.zero_le _, Nat.zero_le _⟩ ?_
  refine zv_eql (y := (zL (qArc U S i (f : Int)))) (by rw [hF]; rfl) ?_
  exact zv_lret C hr dX10_errorBy_21 ⟨rfl, rfl⟩
set_option maxRecDepth 20000 in
theorem x1_X10_errorBy {l : Launch} (hfl : l.stackTraces = false) (E : zE) (σ : zS) (U : zSU) (b : Int) (y : Int) (hU : zSUp σ 29 U) (hbi : -2147483648 ≤ b ∧ b < 2147483648) (hno : ¬ (0 ≤ b ∧ b < U.nb)) : zRx l E yX10_errorBy cX10_errorBy 3 (some .long) (zrx 9 200) [.ref (ob E 0), .int (zI b), .int (zI y)] σ "java/lang/IndexOutOfBoundsException" := by
  refine vx_ofW (cc := cX10_errorBy) (maxL := 3) (ret := (some .long)) (by decide) rfl ?_
  intro p e s m args below meth c s₁ B hml hout hv
  obtain ⟨rfl, hd⟩ := hv
  have C := zX_of (own := RX10) hfl B hml rfl hd rfl
  have hr := B.returns
  refine zV_go hd (Nat.le_of_ble_eq_true rfl) (lv := [(0, .ref (ob E 0)), (1, .int (zI b)), (2, .int (zI y))]) rfl ?_
  have hnb : U.nb ≤ 8 := hU.2.2.1
  have hs0 := hU.2.2.2.1
  
  refine zv_aload_n C 0 dX10_errorBy_0 rfl rfl ?_
  refine zv_iload_n C 1 dX10_errorBy_1 rfl rfl ?_
  exact zv_xcv (st := []) C (x_X10_needBody hfl E σ U b hU hbi hno) hout mX10_needBody kX10_140 (by decide : kd 0 = 9) rfl rfl rfl ⟨rfl, rfl⟩ (show zfit (zrx 6 100) 2 (zrx 9 200) = true from rfl) (Nat.le_of_ble_eq_true rfl) dX10_errorBy_2
set_option maxRecDepth 20000 in
theorem x2_X10_errorBy {l : Launch} (hfl : l.stackTraces = false) (E : zE) (σ : zS) (U : zSU) (S : zST) (i : Nat) (y : Int) (hU : zSUp σ 29 U) (hi : i < U.nb) (hyi : -2147483648 ≤ y ∧ y < 2147483648) (hno : ¬ (0 ≤ y ∧ y ≤ 400000)) : zRx l E yX10_errorBy cX10_errorBy 3 (some .long) (zrx 9 200) [.ref (ob E 0), .int (zI (i : Int)), .int (zI y)] σ "java/lang/IllegalArgumentException" := by
  refine vx_ofW (cc := cX10_errorBy) (maxL := 3) (ret := (some .long)) (by decide) rfl ?_
  intro p e s m args below meth c s₁ B hml hout hv
  obtain ⟨rfl, hd⟩ := hv
  have C := zX_of (own := RX10) hfl B hml rfl hd rfl
  have hr := B.returns
  refine zV_go hd (Nat.le_of_ble_eq_true rfl) (lv := [(0, .ref (ob E 0)), (1, .int (zI (i : Int))), (2, .int (zI y))]) rfl ?_
  have hnb : U.nb ≤ 8 := hU.2.2.1
  have hs0 := hU.2.2.2.1
  
  refine zv_aload_n C 0 dX10_errorBy_0 rfl rfl ?_
  refine zv_iload_n C 1 dX10_errorBy_1 rfl rfl ?_
  refine zv_cvvD (st := []) C (c_X10_needBody hfl E σ U (i : Int) hU (by omega) (by omega)) mX10_needBody kX10_140 (by decide : kd 0 = 9) rfl rfl rfl ⟨rfl, rfl⟩ (show zfit (zrm 0 0) 2 (zrx 9 200) = true from rfl) (Nat.le_of_ble_eq_true rfl) dX10_errorBy_2 ⟨Nat.zero_le _, Nat.zero_le _⟩ ?_
  refine zv_iload_n C 2 dX10_errorBy_5 rfl rfl ?_
  refine zv_iconst (v := zI 0) C dX10_errorBy_6 rfl ?_
  refine zv_ldc C kX10_199 dX10_errorBy_7 ?_
  refine zv_eqi (y := zI 400000) (by decide) ?_
  exact zv_xcs (st := []) C (x_X10_needWithin hfl E σ y 0 400000 hyi (by omega) (by omega) hno) hout mX10_needWithin kX10_117 rfl ⟨rfl, rfl⟩ (show zfit (zrx 6 100) 3 (zrx 9 200) = true from rfl) (Nat.le_of_ble_eq_true rfl) dX10_errorBy_9
set_option maxRecDepth 20000 in
theorem c_X10_numerator {l : Launch} (hfl : l.stackTraces = false) (E : zE) (σ : zS) (U : zSU) (S : zST) (i : Nat) (hU : zSUp σ 29 U) (hS : zSTp σ 34 S) (hi : i < U.nb) : zRl l E yX10_numerator cX10_numerator 2 (zrm 4 105) [.ref (ob E 0), .int (zI (i : Int))] σ (fun r τ => r = zL (qPtr U S i).1 ∧ τ = (rW σ 320 (qPtr U S i).1 (qPtr U S i).2)) := by
  refine Met.ofW (cc := cX10_numerator) (maxL := 2) (ret := (some .long)) (by decide +kernel) rfl ?_
  intro p e s m args below meth c s₁ B hml hv
  obtain ⟨rfl, hd⟩ := hv
  have C := zX_of (own := RX10) hfl B hml rfl hd rfl
  have hr := B.returns
  refine zV_go hd (Nat.le_of_ble_eq_true rfl) (lv := [(0, .ref (ob E 0)), (1, .int (zI (i : Int)))]) rfl ?_
  have hnb : U.nb ≤ 8 := hU.2.2.1
  have hs0 := hU.2.2.2.1
  
  refine zv_aload_n C 0 dX10_numerator_0 rfl rfl ?_
  refine zv_iload_n C 1 dX10_numerator_1 rfl rfl ?_
  refine zv_cvvD (st := []) C (c_X10_needBody hfl E σ U (i : Int) hU (by omega) (by omega)) mX10_needBody kX10_140 (by decide : kd 0 = 9) rfl rfl rfl ⟨rfl, rfl⟩ (show zfit (zrm 0 0) 2 (zrm 4 105) = true from rfl) (Nat.le_of_ble_eq_true rfl) dX10_numerator_2 ⟨Nat.zero_le _, Nat.zero_le _⟩ ?_
  refine zv_aload_n C 0 dX10_numerator_5 rfl rfl ?_
  refine zv_iload_n C 1 dX10_numerator_6 rfl rfl ?_
  refine zv_aload_n C 0 dX10_numerator_7 rfl rfl ?_
  refine zG9_6 C (by decide : kd 0 = _) kX10_54 dX10_numerator_8 ?_
  refine zv_cvrD (st := []) C (c_X10_pointerOf hfl E σ U S i 320 hU hS hi (by decide)) mX10_pointerOf kX10_181 (by decide : kd 0 = 9) rfl rfl rfl ⟨rfl, rfl⟩ (show zfit (zrm 3 80) 6 (zrm 4 105) = true from rfl) (Nat.le_of_ble_eq_true rfl) dX10_numerator_11 ⟨Nat.zero_le _, Nat.zero_le _⟩ ?_
  refine zG3_0 C (by decide : kd 320 = _) kX10_185 dX10_numerator_14 ?_
  refine zv_eql (y := (zL ((qPtr U S i).1))) ((rW_R σ 320 _ _).1) ?_
  exact zv_lret C hr dX10_numerator_17 ⟨rfl, rfl⟩
set_option maxRecDepth 20000 in
theorem x1_X10_numerator {l : Launch} (hfl : l.stackTraces = false) (E : zE) (σ : zS) (U : zSU) (b : Int) (hU : zSUp σ 29 U) (hbi : -2147483648 ≤ b ∧ b < 2147483648) (hno : ¬ (0 ≤ b ∧ b < U.nb)) : zRx l E yX10_numerator cX10_numerator 2 (some .long) (zrx 9 200) [.ref (ob E 0), .int (zI b)] σ "java/lang/IndexOutOfBoundsException" := by
  refine vx_ofW (cc := cX10_numerator) (maxL := 2) (ret := (some .long)) (by decide) rfl ?_
  intro p e s m args below meth c s₁ B hml hout hv
  obtain ⟨rfl, hd⟩ := hv
  have C := zX_of (own := RX10) hfl B hml rfl hd rfl
  have hr := B.returns
  refine zV_go hd (Nat.le_of_ble_eq_true rfl) (lv := [(0, .ref (ob E 0)), (1, .int (zI b))]) rfl ?_
  have hnb : U.nb ≤ 8 := hU.2.2.1
  have hs0 := hU.2.2.2.1
  
  refine zv_aload_n C 0 dX10_numerator_0 rfl rfl ?_
  refine zv_iload_n C 1 dX10_numerator_1 rfl rfl ?_
  exact zv_xcv (st := []) C (x_X10_needBody hfl E σ U b hU hbi hno) hout mX10_needBody kX10_140 (by decide : kd 0 = 9) rfl rfl rfl ⟨rfl, rfl⟩ (show zfit (zrx 6 100) 2 (zrx 9 200) = true from rfl) (Nat.le_of_ble_eq_true rfl) dX10_numerator_2
set_option maxRecDepth 20000 in
theorem c_X10_denominator {l : Launch} (hfl : l.stackTraces = false) (E : zE) (σ : zS) (U : zSU) (S : zST) (i : Nat) (hU : zSUp σ 29 U) (hS : zSTp σ 34 S) (hi : i < U.nb) : zRl l E yX10_denominator cX10_denominator 2 (zrm 4 105) [.ref (ob E 0), .int (zI (i : Int))] σ (fun r τ => r = zL (qPtr U S i).2 ∧ τ = (rW σ 320 (qPtr U S i).1 (qPtr U S i).2)) := by
  refine Met.ofW (cc := cX10_denominator) (maxL := 2) (ret := (some .long)) (by decide +kernel) rfl ?_
  intro p e s m args below meth c s₁ B hml hv
  obtain ⟨rfl, hd⟩ := hv
  have C := zX_of (own := RX10) hfl B hml rfl hd rfl
  have hr := B.returns
  refine zV_go hd (Nat.le_of_ble_eq_true rfl) (lv := [(0, .ref (ob E 0)), (1, .int (zI (i : Int)))]) rfl ?_
  have hnb : U.nb ≤ 8 := hU.2.2.1
  have hs0 := hU.2.2.2.1
  
  refine zv_aload_n C 0 dX10_denominator_0 rfl rfl ?_
  refine zv_iload_n C 1 dX10_denominator_1 rfl rfl ?_
  refine zv_cvvD (st := []) C (c_X10_needBody hfl E σ U (i : Int) hU (by omega) (by omega)) mX10_needBody kX10_140 (by decide : kd 0 = 9) rfl rfl rfl ⟨rfl, rfl⟩ (show zfit (zrm 0 0) 2 (zrm 4 105) = true from rfl) (Nat.le_of_ble_eq_true rfl) dX10_denominator_2 ⟨Nat.zero_le _, Nat.zero_le _⟩ ?_
  refine zv_aload_n C 0 dX10_denominator_5 rfl rfl ?_
  refine zv_iload_n C 1 dX10_denominator_6 rfl rfl ?_
  refine zv_aload_n C 0 dX10_denominator_7 rfl rfl ?_
  refine zG9_6 C (by decide : kd 0 = _) kX10_54 dX10_denominator_8 ?_
  refine zv_cvrD (st := []) C (c_X10_pointerOf hfl E σ U S i 320 hU hS hi (by decide)) mX10_pointerOf kX10_181 (by decide : kd 0 = 9) rfl rfl rfl ⟨rfl, rfl⟩ (show zfit (zrm 3 80) 6 (zrm 4 105) = true from rfl) (Nat.le_of_ble_eq_true rfl) dX10_denominator_11 ⟨Nat.zero_le _, Nat.zero_le _⟩ ?_
  refine zG3_1 C (by decide : kd 320 = _) kX10_189 dX10_denominator_14 ?_
  refine zv_eql (y := (zL ((qPtr U S i).2))) ((rW_R σ 320 _ _).2) ?_
  exact zv_lret C hr dX10_denominator_17 ⟨rfl, rfl⟩
set_option maxRecDepth 20000 in
theorem x1_X10_denominator {l : Launch} (hfl : l.stackTraces = false) (E : zE) (σ : zS) (U : zSU) (b : Int) (hU : zSUp σ 29 U) (hbi : -2147483648 ≤ b ∧ b < 2147483648) (hno : ¬ (0 ≤ b ∧ b < U.nb)) : zRx l E yX10_denominator cX10_denominator 2 (some .long) (zrx 9 200) [.ref (ob E 0), .int (zI b)] σ "java/lang/IndexOutOfBoundsException" := by
  refine vx_ofW (cc := cX10_denominator) (maxL := 2) (ret := (some .long)) (by decide) rfl ?_
  intro p e s m args below meth c s₁ B hml hout hv
  obtain ⟨rfl, hd⟩ := hv
  have C := zX_of (own := RX10) hfl B hml rfl hd rfl
  have hr := B.returns
  refine zV_go hd (Nat.le_of_ble_eq_true rfl) (lv := [(0, .ref (ob E 0)), (1, .int (zI b))]) rfl ?_
  have hnb : U.nb ≤ 8 := hU.2.2.1
  have hs0 := hU.2.2.2.1
  
  refine zv_aload_n C 0 dX10_denominator_0 rfl rfl ?_
  refine zv_iload_n C 1 dX10_denominator_1 rfl rfl ?_
  exact zv_xcv (st := []) C (x_X10_needBody hfl E σ U b hU hbi hno) hout mX10_needBody kX10_140 (by decide : kd 0 = 9) rfl rfl rfl ⟨rfl, rfl⟩ (show zfit (zrx 6 100) 2 (zrx 9 200) = true from rfl) (Nat.le_of_ble_eq_true rfl) dX10_denominator_2
set_option maxRecDepth 20000 in
theorem c_X10_angle {l : Launch} (hfl : l.stackTraces = false) (E : zE) (σ : zS) (U : zSU) (S : zST) (i : Nat) (f : Nat) (hU : zSUp σ 29 U) (hS : zSTp σ 34 S) (hi : i < U.nb) (hf : f ≤ 400000) : zRi l E yX10_angle cX10_angle 3 .int (zrm 4 105) [.ref (ob E 0), .int (zI (i : Int)), .int (zI (f : Int))] σ (fun r τ => r = zI ((qPtr U S i).1 * (f : Int) % (qPtr U S i).2 * 1296000 / (qPtr U S i).2) ∧ τ = (rW σ 320 (qPtr U S i).1 (qPtr U S i).2)) := by
  refine Met.ofW (cc := cX10_angle) (maxL := 3) (ret := (some .int)) (by decide +kernel) rfl ?_
  intro p e s m args below meth c s₁ B hml hv
  obtain ⟨rfl, hd⟩ := hv
  have C := zX_of (own := RX10) hfl B hml rfl hd rfl
  have hr := B.returns
  refine zV_go hd (Nat.le_of_ble_eq_true rfl) (lv := [(0, .ref (ob E 0)), (1, .int (zI (i : Int))), (2, .int (zI (f : Int)))]) rfl ?_
  have hnb : U.nb ≤ 8 := hU.2.2.1
  have hs0 := hU.2.2.2.1
  have hq := qPtr_b hU hS hi
  have hm := mul_b (b := (f : Int)) (B := 400000) hq.1 (by omega)
  refine zv_aload_n C 0 dX10_angle_0 rfl rfl ?_
  refine zv_iload_n C 1 dX10_angle_1 rfl rfl ?_
  refine zv_cvvD (st := []) C (c_X10_needBody hfl E σ U (i : Int) hU (by omega) (by omega)) mX10_needBody kX10_140 (by decide : kd 0 = 9) rfl rfl rfl ⟨rfl, rfl⟩ (show zfit (zrm 0 0) 2 (zrm 4 105) = true from rfl) (Nat.le_of_ble_eq_true rfl) dX10_angle_2 ⟨Nat.zero_le _, Nat.zero_le _⟩ ?_
  refine zv_iload_n C 2 dX10_angle_5 rfl rfl ?_
  refine zv_iconst (v := zI 0) C dX10_angle_6 rfl ?_
  refine zv_ldc C kX10_199 dX10_angle_7 ?_
  refine zv_eqi (y := zI 400000) (by decide) ?_
  refine zv_csvD (st := []) C (c_X10_needWithin hfl E σ (f : Int) 0 400000 (by omega) (by omega) (by omega) (by omega)) mX10_needWithin kX10_117 rfl ⟨rfl, rfl⟩ (show zfit (zrm 0 0) 3 (zrm 4 105) = true from rfl) (Nat.le_of_ble_eq_true rfl) dX10_angle_9 ⟨Nat.zero_le _, Nat.zero_le _⟩ ?_
  refine zv_aload_n C 0 dX10_angle_12 rfl rfl ?_
  refine zv_iload_n C 1 dX10_angle_13 rfl rfl ?_
  refine zv_aload_n C 0 dX10_angle_14 rfl rfl ?_
  refine zG9_6 C (by decide : kd 0 = _) kX10_54 dX10_angle_15 ?_
  refine zv_cvrD (st := []) C (c_X10_pointerOf hfl E σ U S i 320 hU hS hi (by decide)) mX10_pointerOf kX10_181 (by decide : kd 0 = 9) rfl rfl rfl ⟨rfl, rfl⟩ (show zfit (zrm 3 80) 6 (zrm 4 105) = true from rfl) (Nat.le_of_ble_eq_true rfl) dX10_angle_18 ⟨Nat.zero_le _, Nat.zero_le _⟩ ?_
  refine zv_iload_n C 2 dX10_angle_21 rfl rfl ?_
  refine zv_cviD (st := []) C (c_X3_angleBy hfl E (rW σ 320 (qPtr U S i).1 (qPtr U S i).2) 320 (qPtr U S i).1 (qPtr U S i).2 (f : Int) (by decide) (rW_R _ _ _ _) (by omega) (by omega) (by omega)) mX3_angleBy kX10_222 (by decide : kd 320 = 3) rfl rfl rfl ⟨rfl, rfl⟩ (show zfit (zrm 1 25) 2 (zrm 4 105) = true from rfl) (Nat.le_of_ble_eq_true rfl) dX10_angle_22 ⟨Nat.zero_le _, Nat.zero_le _⟩ ?_
  exact zv_iret C hr rfl dX10_angle_25 ⟨rfl, rfl⟩
set_option maxRecDepth 20000 in
theorem x1_X10_angle {l : Launch} (hfl : l.stackTraces = false) (E : zE) (σ : zS) (U : zSU) (b : Int) (y : Int) (hU : zSUp σ 29 U) (hbi : -2147483648 ≤ b ∧ b < 2147483648) (hno : ¬ (0 ≤ b ∧ b < U.nb)) : zRx l E yX10_angle cX10_angle 3 (some .int) (zrx 9 200) [.ref (ob E 0), .int (zI b), .int (zI y)] σ "java/lang/IndexOutOfBoundsException" := by
  refine vx_ofW (cc := cX10_angle) (maxL := 3) (ret := (some .int)) (by decide) rfl ?_
  intro p e s m args below meth c s₁ B hml hout hv
  obtain ⟨rfl, hd⟩ := hv
  have C := zX_of (own := RX10) hfl B hml rfl hd rfl
  have hr := B.returns
  refine zV_go hd (Nat.le_of_ble_eq_true rfl) (lv := [(0, .ref (ob E 0)), (1, .int (zI b)), (2, .int (zI y))]) rfl ?_
  have hnb : U.nb ≤ 8 := hU.2.2.1
  have hs0 := hU.2.2.2.1
  
  refine zv_aload_n C 0 dX10_angle_0 rfl rfl ?_
  refine zv_iload_n C 1 dX10_angle_1 rfl rfl ?_
  exact zv_xcv (st := []) C (x_X10_needBody hfl E σ U b hU hbi hno) hout mX10_needBody kX10_140 (by decide : kd 0 = 9) rfl rfl rfl ⟨rfl, rfl⟩ (show zfit (zrx 6 100) 2 (zrx 9 200) = true from rfl) (Nat.le_of_ble_eq_true rfl) dX10_angle_2
set_option maxRecDepth 20000 in
theorem x2_X10_angle {l : Launch} (hfl : l.stackTraces = false) (E : zE) (σ : zS) (U : zSU) (S : zST) (i : Nat) (y : Int) (hU : zSUp σ 29 U) (hi : i < U.nb) (hyi : -2147483648 ≤ y ∧ y < 2147483648) (hno : ¬ (0 ≤ y ∧ y ≤ 400000)) : zRx l E yX10_angle cX10_angle 3 (some .int) (zrx 9 200) [.ref (ob E 0), .int (zI (i : Int)), .int (zI y)] σ "java/lang/IllegalArgumentException" := by
  refine vx_ofW (cc := cX10_angle) (maxL := 3) (ret := (some .int)) (by decide) rfl ?_
  intro p e s m args below meth c s₁ B hml hout hv
  obtain ⟨rfl, hd⟩ := hv
  have C := zX_of (own := RX10) hfl B hml rfl hd rfl
  have hr := B.returns
  refine zV_go hd (Nat.le_of_ble_eq_true rfl) (lv := [(0, .ref (ob E 0)), (1, .int (zI (i : Int))), (2, .int (zI y))]) rfl ?_
  have hnb : U.nb ≤ 8 := hU.2.2.1
  have hs0 := hU.2.2.2.1
  
  refine zv_aload_n C 0 dX10_angle_0 rfl rfl ?_
  refine zv_iload_n C 1 dX10_angle_1 rfl rfl ?_
  refine zv_cvvD (st := []) C (c_X10_needBody hfl E σ U (i : Int) hU (by omega) (by omega)) mX10_needBody kX10_140 (by decide : kd 0 = 9) rfl rfl rfl ⟨rfl, rfl⟩ (show zfit (zrm 0 0) 2 (zrx 9 200) = true from rfl) (Nat.le_of_ble_eq_true rfl) dX10_angle_2 ⟨Nat.zero_le _, Nat.zero_le _⟩ ?_
  refine zv_iload_n C 2 dX10_angle_5 rfl rfl ?_
  refine zv_iconst (v := zI 0) C dX10_angle_6 rfl ?_
  refine zv_ldc C kX10_199 dX10_angle_7 ?_
  refine zv_eqi (y := zI 400000) (by decide) ?_
  exact zv_xcs (st := []) C (x_X10_needWithin hfl E σ y 0 400000 hyi (by omega) (by omega) hno) hout mX10_needWithin kX10_117 rfl ⟨rfl, rfl⟩ (show zfit (zrx 6 100) 3 (zrx 9 200) = true from rfl) (Nat.le_of_ble_eq_true rfl) dX10_angle_9
set_option maxRecDepth 20000 in
theorem c_X10_trueAngle {l : Launch} (hfl : l.stackTraces = false) (E : zE) (σ : zS) (U : zSU) (S : zST) (i : Nat) (f : Nat) (hU : zSUp σ 29 U) (hS : zSTp σ 34 S) (hi : i < U.nb) (hf : f ≤ 400000) : zRi l E yX10_trueAngle cX10_trueAngle 3 .int (zrm 3 78) [.ref (ob E 0), .int (zI (i : Int)), .int (zI (f : Int))] σ (fun r τ => r = zI ((qDue U i).1 * (f : Int) % (qDue U i).2 * 1296000 / (qDue U i).2) ∧ τ = (rW σ 320 (qDue U i).1 (qDue U i).2)) := by
  refine Met.ofW (cc := cX10_trueAngle) (maxL := 3) (ret := (some .int)) (by decide +kernel) rfl ?_
  intro p e s m args below meth c s₁ B hml hv
  obtain ⟨rfl, hd⟩ := hv
  have C := zX_of (own := RX10) hfl B hml rfl hd rfl
  have hr := B.returns
  refine zV_go hd (Nat.le_of_ble_eq_true rfl) (lv := [(0, .ref (ob E 0)), (1, .int (zI (i : Int))), (2, .int (zI (f : Int)))]) rfl ?_
  have hnb : U.nb ≤ 8 := hU.2.2.1
  have hs0 := hU.2.2.2.1
  have hq := qDue_b hU hi
  have hm := mul_b (b := (f : Int)) (B := 400000) hq.1 (by omega)
  refine zv_aload_n C 0 dX10_trueAngle_0 rfl rfl ?_
  refine zv_iload_n C 1 dX10_trueAngle_1 rfl rfl ?_
  refine zv_cvvD (st := []) C (c_X10_needBody hfl E σ U (i : Int) hU (by omega) (by omega)) mX10_needBody kX10_140 (by decide : kd 0 = 9) rfl rfl rfl ⟨rfl, rfl⟩ (show zfit (zrm 0 0) 2 (zrm 3 78) = true from rfl) (Nat.le_of_ble_eq_true rfl) dX10_trueAngle_2 ⟨Nat.zero_le _, Nat.zero_le _⟩ ?_
  refine zv_iload_n C 2 dX10_trueAngle_5 rfl rfl ?_
  refine zv_iconst (v := zI 0) C dX10_trueAngle_6 rfl ?_
  refine zv_ldc C kX10_199 dX10_trueAngle_7 ?_
  refine zv_eqi (y := zI 400000) (by decide) ?_
  refine zv_csvD (st := []) C (c_X10_needWithin hfl E σ (f : Int) 0 400000 (by omega) (by omega) (by omega) (by omega)) mX10_needWithin kX10_117 rfl ⟨rfl, rfl⟩ (show zfit (zrm 0 0) 3 (zrm 3 78) = true from rfl) (Nat.le_of_ble_eq_true rfl) dX10_trueAngle_9 ⟨Nat.zero_le _, Nat.zero_le _⟩ ?_
  refine zv_aload_n C 0 dX10_trueAngle_12 rfl rfl ?_
  refine zv_iload_n C 1 dX10_trueAngle_13 rfl rfl ?_
  refine zv_aload_n C 0 dX10_trueAngle_14 rfl rfl ?_
  refine zG9_6 C (by decide : kd 0 = _) kX10_54 dX10_trueAngle_15 ?_
  refine zv_cvrD (st := []) C (c_X10_trueRateOf hfl E σ U i 320 hU hi (by decide)) mX10_trueRateOf kX10_225 (by decide : kd 0 = 9) rfl rfl rfl ⟨rfl, rfl⟩ (show zfit (zrm 2 56) 3 (zrm 3 78) = true from rfl) (Nat.le_of_ble_eq_true rfl) dX10_trueAngle_18 ⟨Nat.zero_le _, Nat.zero_le _⟩ ?_
  refine zv_iload_n C 2 dX10_trueAngle_21 rfl rfl ?_
  refine zv_cviD (st := []) C (c_X3_angleBy hfl E (rW σ 320 (qDue U i).1 (qDue U i).2) 320 (qDue U i).1 (qDue U i).2 (f : Int) (by decide) (rW_R _ _ _ _) (by omega) (by omega) (by omega)) mX3_angleBy kX10_222 (by decide : kd 320 = 3) rfl rfl rfl ⟨rfl, rfl⟩ (show zfit (zrm 1 25) 2 (zrm 3 78) = true from rfl) (Nat.le_of_ble_eq_true rfl) dX10_trueAngle_22 ⟨Nat.zero_le _, Nat.zero_le _⟩ ?_
  exact zv_iret C hr rfl dX10_trueAngle_25 ⟨rfl, rfl⟩
set_option maxRecDepth 20000 in
theorem x1_X10_trueAngle {l : Launch} (hfl : l.stackTraces = false) (E : zE) (σ : zS) (U : zSU) (b : Int) (y : Int) (hU : zSUp σ 29 U) (hbi : -2147483648 ≤ b ∧ b < 2147483648) (hno : ¬ (0 ≤ b ∧ b < U.nb)) : zRx l E yX10_trueAngle cX10_trueAngle 3 (some .int) (zrx 9 200) [.ref (ob E 0), .int (zI b), .int (zI y)] σ "java/lang/IndexOutOfBoundsException" := by
  refine vx_ofW (cc := cX10_trueAngle) (maxL := 3) (ret := (some .int)) (by decide) rfl ?_
  intro p e s m args below meth c s₁ B hml hout hv
  obtain ⟨rfl, hd⟩ := hv
  have C := zX_of (own := RX10) hfl B hml rfl hd rfl
  have hr := B.returns
  refine zV_go hd (Nat.le_of_ble_eq_true rfl) (lv := [(0, .ref (ob E 0)), (1, .int (zI b)), (2, .int (zI y))]) rfl ?_
  have hnb : U.nb ≤ 8 := hU.2.2.1
  have hs0 := hU.2.2.2.1
  
  refine zv_aload_n C 0 dX10_trueAngle_0 rfl rfl ?_
  refine zv_iload_n C 1 dX10_trueAngle_1 rfl rfl ?_
  exact zv_xcv (st := []) C (x_X10_needBody hfl E σ U b hU hbi hno) hout mX10_needBody kX10_140 (by decide : kd 0 = 9) rfl rfl rfl ⟨rfl, rfl⟩ (show zfit (zrx 6 100) 2 (zrx 9 200) = true from rfl) (Nat.le_of_ble_eq_true rfl) dX10_trueAngle_2
set_option maxRecDepth 20000 in
theorem x2_X10_trueAngle {l : Launch} (hfl : l.stackTraces = false) (E : zE) (σ : zS) (U : zSU) (S : zST) (i : Nat) (y : Int) (hU : zSUp σ 29 U) (hi : i < U.nb) (hyi : -2147483648 ≤ y ∧ y < 2147483648) (hno : ¬ (0 ≤ y ∧ y ≤ 400000)) : zRx l E yX10_trueAngle cX10_trueAngle 3 (some .int) (zrx 9 200) [.ref (ob E 0), .int (zI (i : Int)), .int (zI y)] σ "java/lang/IllegalArgumentException" := by
  refine vx_ofW (cc := cX10_trueAngle) (maxL := 3) (ret := (some .int)) (by decide) rfl ?_
  intro p e s m args below meth c s₁ B hml hout hv
  obtain ⟨rfl, hd⟩ := hv
  have C := zX_of (own := RX10) hfl B hml rfl hd rfl
  have hr := B.returns
  refine zV_go hd (Nat.le_of_ble_eq_true rfl) (lv := [(0, .ref (ob E 0)), (1, .int (zI (i : Int))), (2, .int (zI y))]) rfl ?_
  have hnb : U.nb ≤ 8 := hU.2.2.1
  have hs0 := hU.2.2.2.1
  
  refine zv_aload_n C 0 dX10_trueAngle_0 rfl rfl ?_
  refine zv_iload_n C 1 dX10_trueAngle_1 rfl rfl ?_
  refine zv_cvvD (st := []) C (c_X10_needBody hfl E σ U (i : Int) hU (by omega) (by omega)) mX10_needBody kX10_140 (by decide : kd 0 = 9) rfl rfl rfl ⟨rfl, rfl⟩ (show zfit (zrm 0 0) 2 (zrx 9 200) = true from rfl) (Nat.le_of_ble_eq_true rfl) dX10_trueAngle_2 ⟨Nat.zero_le _, Nat.zero_le _⟩ ?_
  refine zv_iload_n C 2 dX10_trueAngle_5 rfl rfl ?_
  refine zv_iconst (v := zI 0) C dX10_trueAngle_6 rfl ?_
  refine zv_ldc C kX10_199 dX10_trueAngle_7 ?_
  refine zv_eqi (y := zI 400000) (by decide) ?_
  exact zv_xcs (st := []) C (x_X10_needWithin hfl E σ y 0 400000 hyi (by omega) (by omega) hno) hout mX10_needWithin kX10_117 rfl ⟨rfl, rfl⟩ (show zfit (zrx 6 100) 3 (zrx 9 200) = true from rfl) (Nat.le_of_ble_eq_true rfl) dX10_trueAngle_9
