set_option maxRecDepth 20000 in
theorem x1_X10_leapYears {l : Launch} (hfl : l.stackTraces = false) (E : zE) (σ : zS) (U : zSU) (b d : Int) (hU : zSUp σ 29 U) (hbi : -2147483648 ≤ b ∧ b < 2147483648) (hdi : -2147483648 ≤ d ∧ d < 2147483648) (hb : ¬ (U.s0 ≤ b ∧ b ≤ U.s0 + 999)) : zRx l E yX10_leapYears cX10_leapYears 3 (some .int) (zrx 12 260) [.ref (ob E 0), .int (zI b), .int (zI d)] σ "java/lang/IllegalArgumentException" := by
  refine vx_ofW (cc := cX10_leapYears) (maxL := 3) (ret := (some .int)) (by decide) rfl ?_
  intro p e s m args below meth c s₁ B hml hout hv
  obtain ⟨rfl, hd⟩ := hv
  have C := zX_of (own := RX10) hfl B hml rfl hd rfl
  have hr := B.returns
  refine zV_go hd (Nat.le_of_ble_eq_true rfl) (lv := [(0, .ref (ob E 0)), (1, .int (zI b)), (2, .int (zI d))]) rfl ?_
  have hnb : U.nb ≤ 8 := hU.2.2.1
  have hs0 := hU.2.2.2.1
  
  refine zv_aload_n C 0 dX10_leapYears_0 rfl rfl ?_
  refine zv_iload_n C 1 dX10_leapYears_1 rfl rfl ?_
  refine zv_iload_n C 2 dX10_leapYears_2 rfl rfl ?_
  exact zv_xcv (st := []) C (x1_X10_needYears hfl E σ U b d hU hbi hdi hb) hout mX10_needYears kX10_203 (by decide : kd 0 = 9) rfl rfl rfl ⟨rfl, rfl⟩ (show zfit (zrx 10 220) 3 (zrx 12 260) = true from rfl) (Nat.le_of_ble_eq_true rfl) dX10_leapYears_3
set_option maxRecDepth 20000 in
theorem x2_X10_leapYears {l : Launch} (hfl : l.stackTraces = false) (E : zE) (σ : zS) (U : zSU) (b d : Int) (hU : zSUp σ 29 U) (hbi : -2147483648 ≤ b ∧ b < 2147483648) (hdi : -2147483648 ≤ d ∧ d < 2147483648) (hb : (U.s0 ≤ b ∧ b ≤ U.s0 + 999)) (hd2 : ¬ (U.s0 ≤ d ∧ d ≤ U.s0 + 999)) : zRx l E yX10_leapYears cX10_leapYears 3 (some .int) (zrx 12 260) [.ref (ob E 0), .int (zI b), .int (zI d)] σ "java/lang/IllegalArgumentException" := by
  refine vx_ofW (cc := cX10_leapYears) (maxL := 3) (ret := (some .int)) (by decide) rfl ?_
  intro p e s m args below meth c s₁ B hml hout hv
  obtain ⟨rfl, hd⟩ := hv
  have C := zX_of (own := RX10) hfl B hml rfl hd rfl
  have hr := B.returns
  refine zV_go hd (Nat.le_of_ble_eq_true rfl) (lv := [(0, .ref (ob E 0)), (1, .int (zI b)), (2, .int (zI d))]) rfl ?_
  have hnb : U.nb ≤ 8 := hU.2.2.1
  have hs0 := hU.2.2.2.1
  
  refine zv_aload_n C 0 dX10_leapYears_0 rfl rfl ?_
  refine zv_iload_n C 1 dX10_leapYears_1 rfl rfl ?_
  refine zv_iload_n C 2 dX10_leapYears_2 rfl rfl ?_
  exact zv_xcv (st := []) C (x2_X10_needYears hfl E σ U b d hU hbi hdi hb hd2) hout mX10_needYears kX10_203 (by decide : kd 0 = 9) rfl rfl rfl ⟨rfl, rfl⟩ (show zfit (zrx 10 220) 3 (zrx 12 260) = true from rfl) (Nat.le_of_ble_eq_true rfl) dX10_leapYears_3
set_option maxRecDepth 20000 in
theorem x3_X10_leapYears {l : Launch} (hfl : l.stackTraces = false) (E : zE) (σ : zS) (U : zSU) (b d : Int) (hU : zSUp σ 29 U) (hbi : -2147483648 ≤ b ∧ b < 2147483648) (hdi : -2147483648 ≤ d ∧ d < 2147483648) (hb : (U.s0 ≤ b ∧ b ≤ U.s0 + 999)) (hd2 : (U.s0 ≤ d ∧ d ≤ U.s0 + 999)) (hlt : d < b) : zRx l E yX10_leapYears cX10_leapYears 3 (some .int) (zrx 12 260) [.ref (ob E 0), .int (zI b), .int (zI d)] σ "java/lang/IllegalArgumentException" := by
  refine vx_ofW (cc := cX10_leapYears) (maxL := 3) (ret := (some .int)) (by decide) rfl ?_
  intro p e s m args below meth c s₁ B hml hout hv
  obtain ⟨rfl, hd⟩ := hv
  have C := zX_of (own := RX10) hfl B hml rfl hd rfl
  have hr := B.returns
  refine zV_go hd (Nat.le_of_ble_eq_true rfl) (lv := [(0, .ref (ob E 0)), (1, .int (zI b)), (2, .int (zI d))]) rfl ?_
  have hnb : U.nb ≤ 8 := hU.2.2.1
  have hs0 := hU.2.2.2.1
  
  refine zv_aload_n C 0 dX10_leapYears_0 rfl rfl ?_
  refine zv_iload_n C 1 dX10_leapYears_1 rfl rfl ?_
  refine zv_iload_n C 2 dX10_leapYears_2 rfl rfl ?_
  exact zv_xcv (st := []) C (x3_X10_needYears hfl E σ U b d hU hbi hdi hb hd2 hlt) hout mX10_needYears kX10_203 (by decide : kd 0 = 9) rfl rfl rfl ⟨rfl, rfl⟩ (show zfit (zrx 10 220) 3 (zrx 12 260) = true from rfl) (Nat.le_of_ble_eq_true rfl) dX10_leapYears_3
