set_option maxRecDepth 20000 in
theorem c_X10_needBody {l : Launch} (hfl : l.stackTraces = false) (E : zE) (σ : zS) (U : zSU) (b : Int) (hU : zSUp σ 29 U) (hbi : -2147483648 ≤ b ∧ b < 2147483648) (hok : 0 ≤ b ∧ b < U.nb) : zRv l E yX10_needBody cX10_needBody 2 (zrm 0 0) [.ref (ob E 0), .int (zI b)] σ (fun τ => τ = σ) := by
  refine Met.ofW (cc := cX10_needBody) (maxL := 2) (ret := none) (by decide +kernel) rfl ?_
  intro p e s m args below meth c s₁ B hml hv
  obtain ⟨rfl, hd⟩ := hv
  have C := zX_of (own := RX10) hfl B hml rfl hd rfl
  have hr := B.returns
  refine zV_go hd (Nat.le_of_ble_eq_true rfl) (lv := [(0, .ref (ob E 0)), (1, .int (zI b))]) rfl ?_
  have hnb : U.nb ≤ 8 := hU.2.2.1
  have hs0 := hU.2.2.2.1
  refine zv_iload_n C 1 dX10_needBody_0 rfl rfl ?_
  refine zv_if_ltZ (tgt := 15) C (by omega) dX10_needBody_1 (by decide) (fun h1 => ?_) (fun h1 => ?_)
  · exfalso
    omega
  · skip
    refine zv_iload_n C 1 dX10_needBody_4 rfl rfl ?_
    refine zv_aload_n C 0 dX10_needBody_5 rfl rfl ?_
    refine zG9_1 C (by decide : kd 0 = _) kX10_19 dX10_needBody_6 ?_
    refine zG4_1 C (by decide : kd 29 = _) kX10_108 dX10_needBody_9 ?_
    refine zv_eqi (y := (zI (U.nb : Int))) (hU.2.1) ?_
    refine zv_icmp_ltZ (tgt := 26) C (by omega) (by omega) dX10_needBody_12 (by decide) (fun h12 => ?_) (fun h12 => ?_)
    · skip
      exact zv_vret C hr dX10_needBody_26 rfl
    · exfalso
      omega
set_option maxRecDepth 20000 in
theorem x_X10_needBody {l : Launch} (hfl : l.stackTraces = false) (E : zE) (σ : zS) (U : zSU) (b : Int) (hU : zSUp σ 29 U) (hbi : -2147483648 ≤ b ∧ b < 2147483648) (hno : ¬ (0 ≤ b ∧ b < U.nb)) : zRx l E yX10_needBody cX10_needBody 2 none (zrx 6 100) [.ref (ob E 0), .int (zI b)] σ "java/lang/IndexOutOfBoundsException" := by
  refine vx_ofW (cc := cX10_needBody) (maxL := 2) (ret := none) (by decide) rfl ?_
  intro p e s m args below meth c s₁ B hml hout hv
  obtain ⟨rfl, hd⟩ := hv
  have C := zX_of (own := RX10) hfl B hml rfl hd rfl
  have hr := B.returns
  refine zV_go hd (Nat.le_of_ble_eq_true rfl) (lv := [(0, .ref (ob E 0)), (1, .int (zI b))]) rfl ?_
  have hnb : U.nb ≤ 8 := hU.2.2.1
  have hs0 := hU.2.2.2.1
  refine zv_iload_n C 1 dX10_needBody_0 rfl rfl ?_
  refine zv_if_ltZ (tgt := 15) C (by omega) dX10_needBody_1 (by decide) (fun h1 => ?_) (fun h1 => ?_)
  · skip
    exact zv_throwW (text := "no such body") C hout rfl kX10_423 zini_IndexOutOfBoundsException (by decide) (by decide) (by decide) zat_IndexOutOfBoundsException zot_IndexOutOfBoundsException dX10_needBody_15 dX10_needBody_18 dX10_needBody_19 dX10_needBody_22 dX10_needBody_25 (by decide) (by decide) ⟨by decide, by decide⟩
  · skip
    refine zv_iload_n C 1 dX10_needBody_4 rfl rfl ?_
    refine zv_aload_n C 0 dX10_needBody_5 rfl rfl ?_
    refine zG9_1 C (by decide : kd 0 = _) kX10_19 dX10_needBody_6 ?_
    refine zG4_1 C (by decide : kd 29 = _) kX10_108 dX10_needBody_9 ?_
    refine zv_eqi (y := (zI (U.nb : Int))) (hU.2.1) ?_
    refine zv_icmp_ltZ (tgt := 26) C (by omega) (by omega) dX10_needBody_12 (by decide) (fun h12 => ?_) (fun h12 => ?_)
    · exfalso
      omega
    · skip
      exact zv_throwW (text := "no such body") C hout rfl kX10_423 zini_IndexOutOfBoundsException (by decide) (by decide) (by decide) zat_IndexOutOfBoundsException zot_IndexOutOfBoundsException dX10_needBody_15 dX10_needBody_18 dX10_needBody_19 dX10_needBody_22 dX10_needBody_25 (by decide) (by decide) ⟨by decide, by decide⟩
set_option maxRecDepth 20000 in
theorem c_X10_needWithin {l : Launch} (hfl : l.stackTraces = false) (E : zE) (σ : zS) (a b d : Int) (hai : -2147483648 ≤ a ∧ a < 2147483648) (hbi : -2147483648 ≤ b ∧ b < 2147483648) (hdi : -2147483648 ≤ d ∧ d < 2147483648) (hok : b ≤ a ∧ a ≤ d) : zRv l E yX10_needWithin cX10_needWithin 3 (zrm 0 0) [.int (zI a), .int (zI b), .int (zI d)] σ (fun τ => τ = σ) := by
  refine Met.ofW (cc := cX10_needWithin) (maxL := 3) (ret := none) (by decide +kernel) rfl ?_
  intro p e s m args below meth c s₁ B hml hv
  obtain ⟨rfl, hd⟩ := hv
  have C := zX_of (own := RX10) hfl B hml rfl hd rfl
  have hr := B.returns
  refine zV_go hd (Nat.le_of_ble_eq_true rfl) (lv := [(0, .int (zI a)), (1, .int (zI b)), (2, .int (zI d))]) rfl ?_
  skip
  refine zv_iload_n C 0 dX10_needWithin_0 rfl rfl ?_
  refine zv_iload_n C 1 dX10_needWithin_1 rfl rfl ?_
  refine zv_icmp_ltZ (tgt := 10) C (by omega) (by omega) dX10_needWithin_2 (by decide) (fun h2 => ?_) (fun h2 => ?_)
  · exfalso
    omega
  · skip
    refine zv_iload_n C 0 dX10_needWithin_5 rfl rfl ?_
    refine zv_iload_n C 2 dX10_needWithin_6 rfl rfl ?_
    refine zv_icmp_leZ (tgt := 21) C (by omega) (by omega) dX10_needWithin_7 (by decide) (fun h7 => ?_) (fun h7 => ?_)
    · skip
      exact zv_vret C hr dX10_needWithin_21 rfl
    · exfalso
      omega
set_option maxRecDepth 20000 in
theorem x_X10_needWithin {l : Launch} (hfl : l.stackTraces = false) (E : zE) (σ : zS) (a b d : Int) (hai : -2147483648 ≤ a ∧ a < 2147483648) (hbi : -2147483648 ≤ b ∧ b < 2147483648) (hdi : -2147483648 ≤ d ∧ d < 2147483648) (hno : ¬ (b ≤ a ∧ a ≤ d)) : zRx l E yX10_needWithin cX10_needWithin 3 none (zrx 6 100) [.int (zI a), .int (zI b), .int (zI d)] σ "java/lang/IllegalArgumentException" := by
  refine vx_ofW (cc := cX10_needWithin) (maxL := 3) (ret := none) (by decide) rfl ?_
  intro p e s m args below meth c s₁ B hml hout hv
  obtain ⟨rfl, hd⟩ := hv
  have C := zX_of (own := RX10) hfl B hml rfl hd rfl
  have hr := B.returns
  refine zV_go hd (Nat.le_of_ble_eq_true rfl) (lv := [(0, .int (zI a)), (1, .int (zI b)), (2, .int (zI d))]) rfl ?_
  skip
  refine zv_iload_n C 0 dX10_needWithin_0 rfl rfl ?_
  refine zv_iload_n C 1 dX10_needWithin_1 rfl rfl ?_
  refine zv_icmp_ltZ (tgt := 10) C (by omega) (by omega) dX10_needWithin_2 (by decide) (fun h2 => ?_) (fun h2 => ?_)
  · skip
    exact zv_throwW (text := "a number is out of range") C hout rfl kX10_245 zini_IllegalArgumentException (by decide) (by decide) (by decide) zat_IllegalArgumentException zot_IllegalArgumentException dX10_needWithin_10 dX10_needWithin_13 dX10_needWithin_14 dX10_needWithin_17 dX10_needWithin_20 (by decide) (by decide) ⟨by decide, by decide⟩
  · skip
    refine zv_iload_n C 0 dX10_needWithin_5 rfl rfl ?_
    refine zv_iload_n C 2 dX10_needWithin_6 rfl rfl ?_
    refine zv_icmp_leZ (tgt := 21) C (by omega) (by omega) dX10_needWithin_7 (by decide) (fun h7 => ?_) (fun h7 => ?_)
    · exfalso
      omega
    · skip
      exact zv_throwW (text := "a number is out of range") C hout rfl kX10_245 zini_IllegalArgumentException (by decide) (by decide) (by decide) zat_IllegalArgumentException zot_IllegalArgumentException dX10_needWithin_10 dX10_needWithin_13 dX10_needWithin_14 dX10_needWithin_17 dX10_needWithin_20 (by decide) (by decide) ⟨by decide, by decide⟩
set_option maxRecDepth 20000 in
theorem c_X10_needTwoBodies {l : Launch} (hfl : l.stackTraces = false) (E : zE) (σ : zS) (U : zSU) (b d : Int) (hU : zSUp σ 29 U) (hbi : -2147483648 ≤ b ∧ b < 2147483648) (hdi : -2147483648 ≤ d ∧ d < 2147483648) (hb : 0 ≤ b ∧ b < U.nb) (hd2 : 0 ≤ d ∧ d < U.nb) (hne : b ≠ d) : zRv l E yX10_needTwoBodies cX10_needTwoBodies 3 (zrm 1 21) [.ref (ob E 0), .int (zI b), .int (zI d)] σ (fun τ => τ = σ) := by
  refine Met.ofW (cc := cX10_needTwoBodies) (maxL := 3) (ret := none) (by decide +kernel) rfl ?_
  intro p e s m args below meth c s₁ B hml hv
  obtain ⟨rfl, hd⟩ := hv
  have C := zX_of (own := RX10) hfl B hml rfl hd rfl
  have hr := B.returns
  refine zV_go hd (Nat.le_of_ble_eq_true rfl) (lv := [(0, .ref (ob E 0)), (1, .int (zI b)), (2, .int (zI d))]) rfl ?_
  have hnb : U.nb ≤ 8 := hU.2.2.1
  have hs0 := hU.2.2.2.1
  refine zv_aload_n C 0 dX10_needTwoBodies_0 rfl rfl ?_
  refine zv_iload_n C 1 dX10_needTwoBodies_1 rfl rfl ?_
  refine zv_cvvD (st := []) C (c_X10_needBody hfl E σ U b hU hbi hb) mX10_needBody kX10_140 (by decide : kd 0 = 9) rfl rfl rfl ⟨rfl, rfl⟩ (show zfit (zrm 0 0) 2 (zrm 1 21) = true from rfl) (Nat.le_of_ble_eq_true rfl) dX10_needTwoBodies_2 ⟨Nat.zero_le _, Nat.zero_le _⟩ ?_
  refine zv_aload_n C 0 dX10_needTwoBodies_5 rfl rfl ?_
  refine zv_iload_n C 2 dX10_needTwoBodies_6 rfl rfl ?_
  refine zv_cvvD (st := []) C (c_X10_needBody hfl E σ U d hU hdi hd2) mX10_needBody kX10_140 (by decide : kd 0 = 9) rfl rfl rfl ⟨rfl, rfl⟩ (show zfit (zrm 0 0) 2 (zrm 1 21) = true from rfl) (Nat.le_of_ble_eq_true rfl) dX10_needTwoBodies_7 ⟨Nat.zero_le _, Nat.zero_le _⟩ ?_
  refine zv_iload_n C 1 dX10_needTwoBodies_10 rfl rfl ?_
  refine zv_iload_n C 2 dX10_needTwoBodies_11 rfl rfl ?_
  refine zv_icmp_neZ (tgt := 26) C (by omega) (by omega) dX10_needTwoBodies_12 (by decide) (fun h12 => ?_) (fun h12 => ?_)
  · skip
    exact zv_vret C hr dX10_needTwoBodies_26 rfl
  · exfalso
    omega
set_option maxRecDepth 20000 in
theorem x1_X10_needTwoBodies {l : Launch} (hfl : l.stackTraces = false) (E : zE) (σ : zS) (U : zSU) (b d : Int) (hU : zSUp σ 29 U) (hbi : -2147483648 ≤ b ∧ b < 2147483648) (hdi : -2147483648 ≤ d ∧ d < 2147483648) (hb : ¬ (0 ≤ b ∧ b < U.nb)) : zRx l E yX10_needTwoBodies cX10_needTwoBodies 3 none (zrx 8 170) [.ref (ob E 0), .int (zI b), .int (zI d)] σ "java/lang/IndexOutOfBoundsException" := by
  refine vx_ofW (cc := cX10_needTwoBodies) (maxL := 3) (ret := none) (by decide) rfl ?_
  intro p e s m args below meth c s₁ B hml hout hv
  obtain ⟨rfl, hd⟩ := hv
  have C := zX_of (own := RX10) hfl B hml rfl hd rfl
  have hr := B.returns
  refine zV_go hd (Nat.le_of_ble_eq_true rfl) (lv := [(0, .ref (ob E 0)), (1, .int (zI b)), (2, .int (zI d))]) rfl ?_
  have hnb : U.nb ≤ 8 := hU.2.2.1
  have hs0 := hU.2.2.2.1
  refine zv_aload_n C 0 dX10_needTwoBodies_0 rfl rfl ?_
  refine zv_iload_n C 1 dX10_needTwoBodies_1 rfl rfl ?_
  exact zv_xcv (st := []) C (x_X10_needBody hfl E σ U b hU hbi hb) hout mX10_needBody kX10_140 (by decide : kd 0 = 9) rfl rfl rfl ⟨rfl, rfl⟩ (show zfit (zrx 6 100) 2 (zrx 8 170) = true from rfl) (Nat.le_of_ble_eq_true rfl) dX10_needTwoBodies_2
set_option maxRecDepth 20000 in
theorem x2_X10_needTwoBodies {l : Launch} (hfl : l.stackTraces = false) (E : zE) (σ : zS) (U : zSU) (b d : Int) (hU : zSUp σ 29 U) (hbi : -2147483648 ≤ b ∧ b < 2147483648) (hdi : -2147483648 ≤ d ∧ d < 2147483648) (hb : 0 ≤ b ∧ b < U.nb) (hd2 : ¬ (0 ≤ d ∧ d < U.nb)) : zRx l E yX10_needTwoBodies cX10_needTwoBodies 3 none (zrx 8 170) [.ref (ob E 0), .int (zI b), .int (zI d)] σ "java/lang/IndexOutOfBoundsException" := by
  refine vx_ofW (cc := cX10_needTwoBodies) (maxL := 3) (ret := none) (by decide) rfl ?_
  intro p e s m args below meth c s₁ B hml hout hv
  obtain ⟨rfl, hd⟩ := hv
  have C := zX_of (own := RX10) hfl B hml rfl hd rfl
  have hr := B.returns
  refine zV_go hd (Nat.le_of_ble_eq_true rfl) (lv := [(0, .ref (ob E 0)), (1, .int (zI b)), (2, .int (zI d))]) rfl ?_
  have hnb : U.nb ≤ 8 := hU.2.2.1
  have hs0 := hU.2.2.2.1
  refine zv_aload_n C 0 dX10_needTwoBodies_0 rfl rfl ?_
  refine zv_iload_n C 1 dX10_needTwoBodies_1 rfl rfl ?_
  refine zv_cvvD (st := []) C (c_X10_needBody hfl E σ U b hU hbi hb) mX10_needBody kX10_140 (by decide : kd 0 = 9) rfl rfl rfl ⟨rfl, rfl⟩ (show zfit (zrm 0 0) 2 (zrx 8 170) = true from rfl) (Nat.le_of_ble_eq_true rfl) dX10_needTwoBodies_2 ⟨Nat.zero_le _, Nat.zero_le _⟩ ?_
  refine zv_aload_n C 0 dX10_needTwoBodies_5 rfl rfl ?_
  refine zv_iload_n C 2 dX10_needTwoBodies_6 rfl rfl ?_
  exact zv_xcv (st := []) C (x_X10_needBody hfl E σ U d hU hdi hd2) hout mX10_needBody kX10_140 (by decide : kd 0 = 9) rfl rfl rfl ⟨rfl, rfl⟩ (show zfit (zrx 6 100) 2 (zrx 8 170) = true from rfl) (Nat.le_of_ble_eq_true rfl) dX10_needTwoBodies_7
set_option maxRecDepth 20000 in
theorem x3_X10_needTwoBodies {l : Launch} (hfl : l.stackTraces = false) (E : zE) (σ : zS) (U : zSU) (b d : Int) (hU : zSUp σ 29 U) (hbi : -2147483648 ≤ b ∧ b < 2147483648) (hdi : -2147483648 ≤ d ∧ d < 2147483648) (hb : 0 ≤ b ∧ b < U.nb) (hd2 : 0 ≤ d ∧ d < U.nb) (hne : b = d) : zRx l E yX10_needTwoBodies cX10_needTwoBodies 3 none (zrx 8 170) [.ref (ob E 0), .int (zI b), .int (zI d)] σ "java/lang/IllegalArgumentException" := by
  refine vx_ofW (cc := cX10_needTwoBodies) (maxL := 3) (ret := none) (by decide) rfl ?_
  intro p e s m args below meth c s₁ B hml hout hv
  obtain ⟨rfl, hd⟩ := hv
  have C := zX_of (own := RX10) hfl B hml rfl hd rfl
  have hr := B.returns
  refine zV_go hd (Nat.le_of_ble_eq_true rfl) (lv := [(0, .ref (ob E 0)), (1, .int (zI b)), (2, .int (zI d))]) rfl ?_
  have hnb : U.nb ≤ 8 := hU.2.2.1
  have hs0 := hU.2.2.2.1
  refine zv_aload_n C 0 dX10_needTwoBodies_0 rfl rfl ?_
  refine zv_iload_n C 1 dX10_needTwoBodies_1 rfl rfl ?_
  refine zv_cvvD (st := []) C (c_X10_needBody hfl E σ U b hU hbi hb) mX10_needBody kX10_140 (by decide : kd 0 = 9) rfl rfl rfl ⟨rfl, rfl⟩ (show zfit (zrm 0 0) 2 (zrx 8 170) = true from rfl) (Nat.le_of_ble_eq_true rfl) dX10_needTwoBodies_2 ⟨Nat.zero_le _, Nat.zero_le _⟩ ?_
  refine zv_aload_n C 0 dX10_needTwoBodies_5 rfl rfl ?_
  refine zv_iload_n C 2 dX10_needTwoBodies_6 rfl rfl ?_
  refine zv_cvvD (st := []) C (c_X10_needBody hfl E σ U d hU hdi hd2) mX10_needBody kX10_140 (by decide : kd 0 = 9) rfl rfl rfl ⟨rfl, rfl⟩ (show zfit (zrm 0 0) 2 (zrx 8 170) = true from rfl) (Nat.le_of_ble_eq_true rfl) dX10_needTwoBodies_7 ⟨Nat.zero_le _, Nat.zero_le _⟩ ?_
  refine zv_iload_n C 1 dX10_needTwoBodies_10 rfl rfl ?_
  refine zv_iload_n C 2 dX10_needTwoBodies_11 rfl rfl ?_
  refine zv_icmp_neZ (tgt := 26) C (by omega) (by omega) dX10_needTwoBodies_12 (by decide) (fun h12 => ?_) (fun h12 => ?_)
  · exfalso
    omega
  · skip
    exact zv_throwW (text := "both bodies are the same") C hout rfl kX10_245 zini_IllegalArgumentException (by decide) (by decide) (by decide) zat_IllegalArgumentException zot_IllegalArgumentException dX10_needTwoBodies_15 dX10_needTwoBodies_18 dX10_needTwoBodies_19 dX10_needTwoBodies_22 dX10_needTwoBodies_25 (by decide) (by decide) ⟨by decide, by decide⟩
set_option maxRecDepth 20000 in
theorem c_X10_needYear {l : Launch} (hfl : l.stackTraces = false) (E : zE) (σ : zS) (U : zSU) (b : Int) (hU : zSUp σ 29 U) (hbi : -2147483648 ≤ b ∧ b < 2147483648) (hok : U.s0 ≤ b ∧ b ≤ U.s0 + 999) : zRv l E yX10_needYear cX10_needYear 2 (zrm 1 22) [.ref (ob E 0), .int (zI b)] σ (fun τ => τ = σ) := by
  refine Met.ofW (cc := cX10_needYear) (maxL := 2) (ret := none) (by decide +kernel) rfl ?_
  intro p e s m args below meth c s₁ B hml hv
  obtain ⟨rfl, hd⟩ := hv
  have C := zX_of (own := RX10) hfl B hml rfl hd rfl
  have hr := B.returns
  refine zV_go hd (Nat.le_of_ble_eq_true rfl) (lv := [(0, .ref (ob E 0)), (1, .int (zI b))]) rfl ?_
  have hnb : U.nb ≤ 8 := hU.2.2.1
  have hs0 := hU.2.2.2.1
  refine zv_iload_n C 1 dX10_needYear_0 rfl rfl ?_
  refine zv_aload_n C 0 dX10_needYear_1 rfl rfl ?_
  refine zG9_1 C (by decide : kd 0 = _) kX10_19 dX10_needYear_2 ?_
  refine zG4_0 C (by decide : kd 29 = _) kX10_124 dX10_needYear_5 ?_
  refine zv_eqi (y := (zI U.s0)) (hU.1) ?_
  refine zv_aload_n C 0 dX10_needYear_8 rfl rfl ?_
  refine zG9_1 C (by decide : kd 0 = _) kX10_19 dX10_needYear_9 ?_
  refine zG4_0 C (by decide : kd 29 = _) kX10_124 dX10_needYear_12 ?_
  refine zv_eqi (y := (zI U.s0)) (hU.1) ?_
  refine zv_sipush (v := zI 1000) C dX10_needYear_15 (by decide) ?_
  refine zv_iaddZ C dX10_needYear_18 ?_
  refine zv_iconst (v := zI 1) C dX10_needYear_19 rfl ?_
  refine zv_isubZ C dX10_needYear_20 ?_
  refine zv_csvD (st := []) C (c_X10_needWithin hfl E σ (b) (U.s0) (((U.s0) + 1000) - 1) hbi (by omega) (by omega) (by omega)) mX10_needWithin kX10_117 rfl ⟨rfl, rfl⟩ (show zfit (zrm 0 0) 3 (zrm 1 22) = true from rfl) (Nat.le_of_ble_eq_true rfl) dX10_needYear_21 ⟨Nat.zero_le _, Nat.zero_le _⟩ ?_
  exact zv_vret C hr dX10_needYear_24 rfl
set_option maxRecDepth 20000 in
theorem x_X10_needYear {l : Launch} (hfl : l.stackTraces = false) (E : zE) (σ : zS) (U : zSU) (b : Int) (hU : zSUp σ 29 U) (hbi : -2147483648 ≤ b ∧ b < 2147483648) (hno : ¬ (U.s0 ≤ b ∧ b ≤ U.s0 + 999)) : zRx l E yX10_needYear cX10_needYear 2 none (zrx 8 170) [.ref (ob E 0), .int (zI b)] σ "java/lang/IllegalArgumentException" := by
  refine vx_ofW (cc := cX10_needYear) (maxL := 2) (ret := none) (by decide) rfl ?_
  intro p e s m args below meth c s₁ B hml hout hv
  obtain ⟨rfl, hd⟩ := hv
  have C := zX_of (own := RX10) hfl B hml rfl hd rfl
  have hr := B.returns
  refine zV_go hd (Nat.le_of_ble_eq_true rfl) (lv := [(0, .ref (ob E 0)), (1, .int (zI b))]) rfl ?_
  have hnb : U.nb ≤ 8 := hU.2.2.1
  have hs0 := hU.2.2.2.1
  refine zv_iload_n C 1 dX10_needYear_0 rfl rfl ?_
  refine zv_aload_n C 0 dX10_needYear_1 rfl rfl ?_
  refine zG9_1 C (by decide : kd 0 = _) kX10_19 dX10_needYear_2 ?_
  refine zG4_0 C (by decide : kd 29 = _) kX10_124 dX10_needYear_5 ?_
  refine zv_eqi (y := (zI U.s0)) (hU.1) ?_
  refine zv_aload_n C 0 dX10_needYear_8 rfl rfl ?_
  refine zG9_1 C (by decide : kd 0 = _) kX10_19 dX10_needYear_9 ?_
  refine zG4_0 C (by decide : kd 29 = _) kX10_124 dX10_needYear_12 ?_
  refine zv_eqi (y := (zI U.s0)) (hU.1) ?_
  refine zv_sipush (v := zI 1000) C dX10_needYear_15 (by decide) ?_
  refine zv_iaddZ C dX10_needYear_18 ?_
  refine zv_iconst (v := zI 1) C dX10_needYear_19 rfl ?_
  refine zv_isubZ C dX10_needYear_20 ?_
  exact zv_xcs (st := []) C (x_X10_needWithin hfl E σ (b) (U.s0) (((U.s0) + 1000) - 1) hbi (by omega) (by omega) (by omega)) hout mX10_needWithin kX10_117 rfl ⟨rfl, rfl⟩ (show zfit (zrx 6 100) 3 (zrx 8 170) = true from rfl) (Nat.le_of_ble_eq_true rfl) dX10_needYear_21
set_option maxRecDepth 20000 in
theorem c_X10_needYears {l : Launch} (hfl : l.stackTraces = false) (E : zE) (σ : zS) (U : zSU) (b d : Int) (hU : zSUp σ 29 U) (hbi : -2147483648 ≤ b ∧ b < 2147483648) (hdi : -2147483648 ≤ d ∧ d < 2147483648) (hb : U.s0 ≤ b ∧ b ≤ U.s0 + 999) (hd2 : U.s0 ≤ d ∧ d ≤ U.s0 + 999) (hle : b ≤ d) : zRv l E yX10_needYears cX10_needYears 3 (zrm 2 43) [.ref (ob E 0), .int (zI b), .int (zI d)] σ (fun τ => τ = σ) := by
  refine Met.ofW (cc := cX10_needYears) (maxL := 3) (ret := none) (by decide +kernel) rfl ?_
  intro p e s m args below meth c s₁ B hml hv
  obtain ⟨rfl, hd⟩ := hv
  have C := zX_of (own := RX10) hfl B hml rfl hd rfl
  have hr := B.returns
  refine zV_go hd (Nat.le_of_ble_eq_true rfl) (lv := [(0, .ref (ob E 0)), (1, .int (zI b)), (2, .int (zI d))]) rfl ?_
  have hnb : U.nb ≤ 8 := hU.2.2.1
  have hs0 := hU.2.2.2.1
  refine zv_aload_n C 0 dX10_needYears_0 rfl rfl ?_
  refine zv_iload_n C 1 dX10_needYears_1 rfl rfl ?_
  refine zv_cvvD (st := []) C (c_X10_needYear hfl E σ U b hU hbi hb) mX10_needYear kX10_192 (by decide : kd 0 = 9) rfl rfl rfl ⟨rfl, rfl⟩ (show zfit (zrm 1 22) 2 (zrm 2 43) = true from rfl) (Nat.le_of_ble_eq_true rfl) dX10_needYears_2 ⟨Nat.zero_le _, Nat.zero_le _⟩ ?_
  refine zv_aload_n C 0 dX10_needYears_5 rfl rfl ?_
  refine zv_iload_n C 2 dX10_needYears_6 rfl rfl ?_
  refine zv_cvvD (st := []) C (c_X10_needYear hfl E σ U d hU hdi hd2) mX10_needYear kX10_192 (by decide : kd 0 = 9) rfl rfl rfl ⟨rfl, rfl⟩ (show zfit (zrm 1 22) 2 (zrm 2 43) = true from rfl) (Nat.le_of_ble_eq_true rfl) dX10_needYears_7 ⟨Nat.zero_le _, Nat.zero_le _⟩ ?_
  refine zv_iload_n C 2 dX10_needYears_10 rfl rfl ?_
  refine zv_iload_n C 1 dX10_needYears_11 rfl rfl ?_
  refine zv_icmp_geZ (tgt := 26) C (by omega) (by omega) dX10_needYears_12 (by decide) (fun h12 => ?_) (fun h12 => ?_)
  · skip
    exact zv_vret C hr dX10_needYears_26 rfl
  · exfalso
    omega
set_option maxRecDepth 20000 in
theorem x1_X10_needYears {l : Launch} (hfl : l.stackTraces = false) (E : zE) (σ : zS) (U : zSU) (b d : Int) (hU : zSUp σ 29 U) (hbi : -2147483648 ≤ b ∧ b < 2147483648) (hdi : -2147483648 ≤ d ∧ d < 2147483648) (hb : ¬ (U.s0 ≤ b ∧ b ≤ U.s0 + 999)) : zRx l E yX10_needYears cX10_needYears 3 none (zrx 10 220) [.ref (ob E 0), .int (zI b), .int (zI d)] σ "java/lang/IllegalArgumentException" := by
  refine vx_ofW (cc := cX10_needYears) (maxL := 3) (ret := none) (by decide) rfl ?_
  intro p e s m args below meth c s₁ B hml hout hv
  obtain ⟨rfl, hd⟩ := hv
  have C := zX_of (own := RX10) hfl B hml rfl hd rfl
  have hr := B.returns
  refine zV_go hd (Nat.le_of_ble_eq_true rfl) (lv := [(0, .ref (ob E 0)), (1, .int (zI b)), (2, .int (zI d))]) rfl ?_
  have hnb : U.nb ≤ 8 := hU.2.2.1
  have hs0 := hU.2.2.2.1
  refine zv_aload_n C 0 dX10_needYears_0 rfl rfl ?_
  refine zv_iload_n C 1 dX10_needYears_1 rfl rfl ?_
  exact zv_xcv (st := []) C (x_X10_needYear hfl E σ U b hU hbi hb) hout mX10_needYear kX10_192 (by decide : kd 0 = 9) rfl rfl rfl ⟨rfl, rfl⟩ (show zfit (zrx 8 170) 2 (zrx 10 220) = true from rfl) (Nat.le_of_ble_eq_true rfl) dX10_needYears_2
set_option maxRecDepth 20000 in
theorem x2_X10_needYears {l : Launch} (hfl : l.stackTraces = false) (E : zE) (σ : zS) (U : zSU) (b d : Int) (hU : zSUp σ 29 U) (hbi : -2147483648 ≤ b ∧ b < 2147483648) (hdi : -2147483648 ≤ d ∧ d < 2147483648) (hb : U.s0 ≤ b ∧ b ≤ U.s0 + 999) (hd2 : ¬ (U.s0 ≤ d ∧ d ≤ U.s0 + 999)) : zRx l E yX10_needYears cX10_needYears 3 none (zrx 10 220) [.ref (ob E 0), .int (zI b), .int (zI d)] σ "java/lang/IllegalArgumentException" := by
  refine vx_ofW (cc := cX10_needYears) (maxL := 3) (ret := none) (by decide) rfl ?_
  intro p e s m args below meth c s₁ B hml hout hv
  obtain ⟨rfl, hd⟩ := hv
  have C := zX_of (own := RX10) hfl B hml rfl hd rfl
  have hr := B.returns
  refine zV_go hd (Nat.le_of_ble_eq_true rfl) (lv := [(0, .ref (ob E 0)), (1, .int (zI b)), (2, .int (zI d))]) rfl ?_
  have hnb : U.nb ≤ 8 := hU.2.2.1
  have hs0 := hU.2.2.2.1
  refine zv_aload_n C 0 dX10_needYears_0 rfl rfl ?_
  refine zv_iload_n C 1 dX10_needYears_1 rfl rfl ?_
  refine zv_cvvD (st := []) C (c_X10_needYear hfl E σ U b hU hbi hb) mX10_needYear kX10_192 (by decide : kd 0 = 9) rfl rfl rfl ⟨rfl, rfl⟩ (show zfit (zrm 1 22) 2 (zrx 10 220) = true from rfl) (Nat.le_of_ble_eq_true rfl) dX10_needYears_2 ⟨Nat.zero_le _, Nat.zero_le _⟩ ?_
  refine zv_aload_n C 0 dX10_needYears_5 rfl rfl ?_
  refine zv_iload_n C 2 dX10_needYears_6 rfl rfl ?_
  exact zv_xcv (st := []) C (x_X10_needYear hfl E σ U d hU hdi hd2) hout mX10_needYear kX10_192 (by decide : kd 0 = 9) rfl rfl rfl ⟨rfl, rfl⟩ (show zfit (zrx 8 170) 2 (zrx 10 220) = true from rfl) (Nat.le_of_ble_eq_true rfl) dX10_needYears_7
set_option maxRecDepth 20000 in
theorem x3_X10_needYears {l : Launch} (hfl : l.stackTraces = false) (E : zE) (σ : zS) (U : zSU) (b d : Int) (hU : zSUp σ 29 U) (hbi : -2147483648 ≤ b ∧ b < 2147483648) (hdi : -2147483648 ≤ d ∧ d < 2147483648) (hb : U.s0 ≤ b ∧ b ≤ U.s0 + 999) (hd2 : U.s0 ≤ d ∧ d ≤ U.s0 + 999) (hlt : d < b) : zRx l E yX10_needYears cX10_needYears 3 none (zrx 10 220) [.ref (ob E 0), .int (zI b), .int (zI d)] σ "java/lang/IllegalArgumentException" := by
  refine vx_ofW (cc := cX10_needYears) (maxL := 3) (ret := none) (by decide) rfl ?_
  intro p e s m args below meth c s₁ B hml hout hv
  obtain ⟨rfl, hd⟩ := hv
  have C := zX_of (own := RX10) hfl B hml rfl hd rfl
  have hr := B.returns
  refine zV_go hd (Nat.le_of_ble_eq_true rfl) (lv := [(0, .ref (ob E 0)), (1, .int (zI b)), (2, .int (zI d))]) rfl ?_
  have hnb : U.nb ≤ 8 := hU.2.2.1
  have hs0 := hU.2.2.2.1
  refine zv_aload_n C 0 dX10_needYears_0 rfl rfl ?_
  refine zv_iload_n C 1 dX10_needYears_1 rfl rfl ?_
  refine zv_cvvD (st := []) C (c_X10_needYear hfl E σ U b hU hbi hb) mX10_needYear kX10_192 (by decide : kd 0 = 9) rfl rfl rfl ⟨rfl, rfl⟩ (show zfit (zrm 1 22) 2 (zrx 10 220) = true from rfl) (Nat.le_of_ble_eq_true rfl) dX10_needYears_2 ⟨Nat.zero_le _, Nat.zero_le _⟩ ?_
  refine zv_aload_n C 0 dX10_needYears_5 rfl rfl ?_
  refine zv_iload_n C 2 dX10_needYears_6 rfl rfl ?_
  refine zv_cvvD (st := []) C (c_X10_needYear hfl E σ U d hU hdi hd2) mX10_needYear kX10_192 (by decide : kd 0 = 9) rfl rfl rfl ⟨rfl, rfl⟩ (show zfit (zrm 1 22) 2 (zrx 10 220) = true from rfl) (Nat.le_of_ble_eq_true rfl) dX10_needYears_7 ⟨Nat.zero_le _, Nat.zero_le _⟩ ?_
  refine zv_iload_n C 2 dX10_needYears_10 rfl rfl ?_
  refine zv_iload_n C 1 dX10_needYears_11 rfl rfl ?_
  refine zv_icmp_geZ (tgt := 26) C (by omega) (by omega) dX10_needYears_12 (by decide) (fun h12 => ?_) (fun h12 => ?_)
  · exfalso
    omega
  · skip
    exact zv_throwW (text := "the years run backward") C hout rfl kX10_245 zini_IllegalArgumentException (by decide) (by decide) (by decide) zat_IllegalArgumentException zot_IllegalArgumentException dX10_needYears_15 dX10_needYears_18 dX10_needYears_19 dX10_needYears_22 dX10_needYears_25 (by decide) (by decide) ⟨by decide, by decide⟩
