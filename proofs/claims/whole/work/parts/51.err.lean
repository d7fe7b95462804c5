/-- the error at a day, the error at a year's end -/
def qArc (U : zSU) (S : zST) (i : Nat) (d : Int) : Int := rArc (qDrift U S i).1 (qDrift U S i).2 (d * 1296000)
def qErr (U : zSU) (S : zST) (i : Nat) (y : Int) : Int := qArc U S i (yEnd U.s0 y)
set_option maxRecDepth 20000 in
theorem c_X10_yearEndError {l : Launch} (hfl : l.stackTraces = false) (E : zE) (σ : zS) (U : zSU) (S : zST) (i : Nat) (y : Int) (hU : zSUp σ 29 U) (hS : zSTp σ 34 S) (hi : i < U.nb) (hy : U.s0 ≤ y ∧ y ≤ U.s0 + 999) : zRl l E yX10_yearEndError cX10_yearEndError 3 (zrm 5 126) [.ref (ob E 0), .int (zI (i : Int)), .int (zI y)] σ (fun r τ => r = zL (qErr U S i y) ∧ τ = (rW σ 322 (qDrift U S i).1 (qDrift U S i).2)) := by
  refine Met.ofW (cc := cX10_yearEndError) (maxL := 3) (ret := (some .long)) (by decide +kernel) rfl ?_
  intro p e s m args below meth c s₁ B hml hv
  obtain ⟨rfl, hd⟩ := hv
  have C := zX_of (own := RX10) hfl B hml rfl hd rfl
  have hr := B.returns
  refine zV_go hd (Nat.le_of_ble_eq_true rfl) (lv := [(0, .ref (ob E 0)), (1, .int (zI (i : Int))), (2, .int (zI y))]) rfl ?_
  have hdb := qDrift_b hU hS hi
  have hs0 := hU.2.2.2.1
  have hye := yEnd_in hs0 (y := y) (by omega)
  obtain ⟨f, hf⟩ : ∃ f : Nat, yEnd U.s0 y = (f : Int) := ⟨(yEnd U.s0 y).toNat, by omega⟩
  have hU2 : zSUp (rW σ 322 (qDrift U S i).1 (qDrift U S i).2) 29 U := zSUp_rW hU (by decide)
  have hF : ((f * 1296000 : Nat) : Int) = yEnd U.s0 y * 1296000 := by omega
  refine zv_aload_n C 0 dX10_yearEndError_0 rfl rfl ?_
  refine zv_iload_n C 1 dX10_yearEndError_1 rfl rfl ?_
  refine zv_cvrD (st := []) C (c_X10_driftOf hfl E σ U S i hU hS hi) mX10_driftOf kX10_210 (by decide : kd 0 = 9) rfl rfl rfl ⟨rfl, rfl⟩ (show zfit (zrm 4 105) 2 (zrm 5 126) = true from rfl) (Nat.le_of_ble_eq_true rfl) dX10_yearEndError_2 ⟨Nat.zero_le _, Nat.zero_le _⟩ ?_
  refine zv_aload_n C 0 dX10_yearEndError_5 rfl rfl ?_
  refine zG9_1 C (by decide : kd 0 = _) kX10_19 dX10_yearEndError_6 ?_
  refine zv_iload_n C 2 dX10_yearEndError_9 rfl rfl ?_
  refine zv_cviD (st := [.ref (ob E 322)]) C (c_X4_endDay hfl E (rW σ 322 (qDrift U S i).1 (qDrift U S i).2) 29 U.s0 U.nb U.nm U.pe U.re U.ca y (by decide) hU2 (by omega)) mX4_endDay kX10_195 (by decide : kd 29 = 4) rfl rfl rfl ⟨rfl, rfl⟩ (show zfit (zrm 1 20) 2 (zrm 5 126) = true from rfl) (Nat.le_of_ble_eq_true rfl) dX10_yearEndError_10 ⟨Nat.zero_le _, Nat.zero_le _⟩ ?_
  refine zv_eqi (y := (zI (f : Int))) (by rw [hf]) ?_
  refine zv_cvlD (st := []) C (c_X3_arcBy hfl E (rW σ 322 (qDrift U S i).1 (qDrift U S i).2) 322 (qDrift U S i).1 (qDrift U S i).2 f (f * 1296000) rfl (by decide) (rW_R _ _ _ _) (by omega) (by omega) (by omega)) mX3_arcBy kX10_214 (by decide : kd 322 = 3) rfl rfl rfl ⟨rfl, rfl⟩ (show zfit (zrm 1 21) 14 (zrm 5 126) = true from rfl) (Nat.le_of_ble_eq_true rfl) dX10_yearEndError_13 ⟨Nat.zero_le _, Nat.zero_le _⟩ ?_
  refine zv_eql (y := (zL (qErr U S i y))) (by rw [hF]; rfl) ?_
  exact zv_lret C hr dX10_yearEndError_16 ⟨rfl, rfl⟩
set_option maxRecDepth 20000 in
theorem c_X10_yearEndMiss {l : Launch} (hfl : l.stackTraces = false) (E : zE) (σ : zS) (U : zSU) (S : zST) (i : Nat) (y : Int) (hU : zSUp σ 29 U) (hS : zSTp σ 34 S) (hi : i < U.nb) (hy : U.s0 ≤ y ∧ y ≤ U.s0 + 999) (hb : -9223372036854775808 < qErr U S i y ∧ qErr U S i y < 9223372036854775808) : zRl l E yX10_yearEndMiss cX10_yearEndMiss 3 (zrm 5 126) [.ref (ob E 0), .int (zI (i : Int)), .int (zI y)] σ (fun r τ => r = zL (((qErr U S i y).natAbs : Int)) ∧ τ = (rW σ 322 (qDrift U S i).1 (qDrift U S i).2)) := by
  refine Met.ofW (cc := cX10_yearEndMiss) (maxL := 3) (ret := (some .long)) (by decide +kernel) rfl ?_
  intro p e s m args below meth c s₁ B hml hv
  obtain ⟨rfl, hd⟩ := hv
  have C := zX_of (own := RX10) hfl B hml rfl hd rfl
  have hr := B.returns
  refine zV_go hd (Nat.le_of_ble_eq_true rfl) (lv := [(0, .ref (ob E 0)), (1, .int (zI (i : Int))), (2, .int (zI y))]) rfl ?_
  have hdb := qDrift_b hU hS hi
  have hs0 := hU.2.2.2.1
  have hye := yEnd_in hs0 (y := y) (by omega)
  obtain ⟨f, hf⟩ : ∃ f : Nat, yEnd U.s0 y = (f : Int) := ⟨(yEnd U.s0 y).toNat, by omega⟩
  have hU2 : zSUp (rW σ 322 (qDrift U S i).1 (qDrift U S i).2) 29 U := zSUp_rW hU (by decide)
  have hF : ((f * 1296000 : Nat) : Int) = yEnd U.s0 y * 1296000 := by omega
  refine zv_aload_n C 0 dX10_yearEndMiss_0 rfl rfl ?_
  refine zv_iload_n C 1 dX10_yearEndMiss_1 rfl rfl ?_
  refine zv_cvrD (st := []) C (c_X10_driftOf hfl E σ U S i hU hS hi) mX10_driftOf kX10_210 (by decide : kd 0 = 9) rfl rfl rfl ⟨rfl, rfl⟩ (show zfit (zrm 4 105) 2 (zrm 5 126) = true from rfl) (Nat.le_of_ble_eq_true rfl) dX10_yearEndMiss_2 ⟨Nat.zero_le _, Nat.zero_le _⟩ ?_
  refine zv_aload_n C 0 dX10_yearEndMiss_5 rfl rfl ?_
  refine zG9_1 C (by decide : kd 0 = _) kX10_19 dX10_yearEndMiss_6 ?_
  refine zv_iload_n C 2 dX10_yearEndMiss_9 rfl rfl ?_
  refine zv_cviD (st := [.ref (ob E 322)]) C (c_X4_endDay hfl E (rW σ 322 (qDrift U S i).1 (qDrift U S i).2) 29 U.s0 U.nb U.nm U.pe U.re U.ca y (by decide) hU2 (by omega)) mX4_endDay kX10_195 (by decide : kd 29 = 4) rfl rfl rfl ⟨rfl, rfl⟩ (show zfit (zrm 1 20) 2 (zrm 5 126) = true from rfl) (Nat.le_of_ble_eq_true rfl) dX10_yearEndMiss_10 ⟨Nat.zero_le _, Nat.zero_le _⟩ ?_
  refine zv_eqi (y := (zI (f : Int))) (by rw [hf]) ?_
  refine zv_cvlD (st := []) C (c_X3_arcBy hfl E (rW σ 322 (qDrift U S i).1 (qDrift U S i).2) 322 (qDrift U S i).1 (qDrift U S i).2 f (f * 1296000) rfl (by decide) (rW_R _ _ _ _) (by omega) (by omega) (by omega)) mX3_arcBy kX10_214 (by decide : kd 322 = 3) rfl rfl rfl ⟨rfl, rfl⟩ (show zfit (zrm 1 21) 14 (zrm 5 126) = true from rfl) (Nat.le_of_ble_eq_true rfl) dX10_yearEndMiss_13 ⟨Nat.zero_le _, Nat.zero_le _⟩ ?_
  refine zv_eql (y := (zL (qErr U S i y))) (by rw [hF]; rfl) ?_
  refine zv_cslD (st := []) C (c_J9_abs_067f4 hfl E (rW σ 322 (qDrift U S i).1 (qDrift U S i).2) (qErr U S i y) (by omega)) mJ9_abs_067f4 kX10_239 rfl ⟨rfl, rfl⟩ (show zfit (zrm 0 0) 2 (zrm 5 126) = true from rfl) (Nat.le_of_ble_eq_true rfl) dX10_yearEndMiss_16 ⟨Nat.zero_le _, Nat.zero_le _⟩ ?_
  exact zv_lret C hr dX10_yearEndMiss_19 ⟨rfl, rfl⟩
