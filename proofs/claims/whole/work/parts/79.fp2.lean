set_option maxRecDepth 20000 in
theorem c_X10_accuracy {l : Launch} (hfl : l.stackTraces = false) (E : zE) (σ : zS) (U : zSU) (S : zST) (i : Nat) (hFN : zFN) (hU : zSUp σ 29 U) (hS : zSTp σ 34 S) (hi : i < U.nb) : zRdd l E yX10_accuracy cX10_accuracy 4 (zrm 4 105) [.ref (ob E 0), .int (zI (i : Int))] σ (fun r τ => r = dAcc U S i ∧ τ = (rW (rW σ 320 (qPtr U S i).1 (qPtr U S i).2) 321 (qDue U i).1 (qDue U i).2)) := by
  refine Met.ofW (cc := cX10_accuracy) (maxL := 4) (ret := (some .double)) (by decide +kernel) rfl ?_
  intro p e s m args below meth c s₁ B hml hv
  obtain ⟨rfl, hd⟩ := hv
  have C := zX_of (own := RX10) hfl B hml rfl hd rfl
  have hr := B.returns
  refine zV_go hd (Nat.le_of_ble_eq_true rfl) (lv := [(0, .ref (ob E 0)), (1, .int (zI (i : Int)))]) rfl ?_
  have hnb : U.nb ≤ 8 := hU.2.2.1
  have hs0 := hU.2.2.2.1
  have hqp := qPtr_b hU hS hi
  have hqd := qDue_b hU hi
  have hq0 := qDue_0 hU hi
  refine zv_aload_n C 0 dX10_accuracy_0 rfl rfl ?_
  refine zv_iload_n C 1 dX10_accuracy_1 rfl rfl ?_
  refine zv_cvvD (st := []) C (c_X10_needBody hfl E σ U (i : Int) hU (by omega) (by omega)) mX10_needBody kX10_140 (by decide : kd 0 = 9) rfl rfl rfl ⟨rfl, rfl⟩ (show zfit (zrm 0 0) 2 (zrm 4 105) = true from rfl) (Nat.le_of_ble_eq_true rfl) dX10_accuracy_2 ⟨Nat.zero_le _, Nat.zero_le _⟩ ?_
  refine zv_aload_n C 0 dX10_accuracy_5 rfl rfl ?_
  refine zv_iload_n C 1 dX10_accuracy_6 rfl rfl ?_
  refine zv_aload_n C 0 dX10_accuracy_7 rfl rfl ?_
  refine zG9_6 C (by decide : kd 0 = _) kX10_54 dX10_accuracy_8 ?_
  refine zv_cvrD (st := []) C (c_X10_pointerOf hfl E σ U S i 320 hU hS hi (by decide)) mX10_pointerOf kX10_181 (by decide : kd 0 = 9) rfl rfl rfl ⟨rfl, rfl⟩ (show zfit (zrm 3 80) 6 (zrm 4 105) = true from rfl) (Nat.le_of_ble_eq_true rfl) dX10_accuracy_11 ⟨Nat.zero_le _, Nat.zero_le _⟩ ?_
  refine zv_astore_n (lv' := [(2, .ref (ob E 320)), (0, .ref (ob E 0)), (1, .int (zI (i : Int)))]) C dX10_accuracy_14 rfl (by decide) rfl ?_
  refine zv_aload_n C 1 dX10_accuracy_15 rfl rfl ?_
  refine zv_iload_n C 2 dX10_accuracy_16 rfl rfl ?_
  refine zv_aload_n C 1 dX10_accuracy_17 rfl rfl ?_
  refine zG9_7 C (by decide : kd 0 = _) kX10_58 dX10_accuracy_18 ?_
  refine zv_cvrD (st := []) C (c_X10_trueRateOf hfl E (rW σ 320 (qPtr U S i).1 (qPtr U S i).2) U i 321 (zSUp_rW hU (by decide)) hi (by decide)) mX10_trueRateOf kX10_225 (by decide : kd 0 = 9) rfl rfl rfl ⟨rfl, rfl⟩ (show zfit (zrm 2 56) 3 (zrm 4 105) = true from rfl) (Nat.le_of_ble_eq_true rfl) dX10_accuracy_21 ⟨Nat.zero_le _, Nat.zero_le _⟩ ?_
  refine zv_astore_n (lv' := [(3, .ref (ob E 321)), (2, .ref (ob E 320)), (0, .ref (ob E 0)), (1, .int (zI (i : Int)))]) C dX10_accuracy_24 rfl (by decide) rfl ?_
  refine zv_aload_n C 1 dX10_accuracy_25 rfl rfl ?_
  refine zG3_0 C (by decide : kd 320 = _) kX10_185 dX10_accuracy_26 ?_
  refine zv_eql (y := (zL ((qPtr U S i).1))) (by rw [gJ_rW _ _ _ _ _ _ (by omega)]; exact (rW_R _ _ _ _).1) ?_
  refine zv_l2d C dX10_accuracy_29 ?_
  refine zv_aload_n C 1 dX10_accuracy_30 rfl rfl ?_
  refine zG3_1 C (by decide : kd 320 = _) kX10_189 dX10_accuracy_31 ?_
  refine zv_eql (y := (zL ((qPtr U S i).2))) (by rw [gJ_rW _ _ _ _ _ _ (by omega)]; exact (rW_R _ _ _ _).2) ?_
  refine zv_l2d C dX10_accuracy_34 ?_
  refine zv_ddiv C dX10_accuracy_35 (hFN.1 _ _ (by omega) (by omega)) ?_
  refine zv_aload_n C 0 dX10_accuracy_36 rfl rfl ?_
  refine zG3_0 C (by decide : kd 321 = _) kX10_185 dX10_accuracy_37 ?_
  refine zv_eql (y := (zL ((qDue U i).1))) ((rW_R _ _ _ _).1) ?_
  refine zv_l2d C dX10_accuracy_40 ?_
  refine zv_aload_n C 0 dX10_accuracy_41 rfl rfl ?_
  refine zG3_1 C (by decide : kd 321 = _) kX10_189 dX10_accuracy_42 ?_
  refine zv_eql (y := (zL ((qDue U i).2))) ((rW_R _ _ _ _).2) ?_
  refine zv_l2d C dX10_accuracy_45 ?_
  refine zv_ddiv C dX10_accuracy_46 (hFN.1 _ _ (by omega) (by omega)) ?_
  refine zv_ddiv C dX10_accuracy_47 (hFN.2 _ _ _ _ (by omega) (by omega) (by omega) hq0 (by omega)) ?_
  exact zv_dret C hr dX10_accuracy_48 ⟨rfl, rfl⟩
set_option maxRecDepth 20000 in
theorem x1_X10_accuracy {l : Launch} (hfl : l.stackTraces = false) (E : zE) (σ : zS) (U : zSU) (b : Int) (hU : zSUp σ 29 U) (hbi : -2147483648 ≤ b ∧ b < 2147483648) (hno : ¬ (0 ≤ b ∧ b < U.nb)) : zRx l E yX10_accuracy cX10_accuracy 4 (some .double) (zrx 12 300) [.ref (ob E 0), .int (zI b)] σ "java/lang/IndexOutOfBoundsException" := by
  refine vx_ofW (cc := cX10_accuracy) (maxL := 4) (ret := (some .double)) (by decide) rfl ?_
  intro p e s m args below meth c s₁ B hml hout hv
  obtain ⟨rfl, hd⟩ := hv
  have C := zX_of (own := RX10) hfl B hml rfl hd rfl
  have hr := B.returns
  refine zV_go hd (Nat.le_of_ble_eq_true rfl) (lv := [(0, .ref (ob E 0)), (1, .int (zI b))]) rfl ?_
  have hnb : U.nb ≤ 8 := hU.2.2.1
  have hs0 := hU.2.2.2.1
  
  refine zv_aload_n C 0 dX10_accuracy_0 rfl rfl ?_
  refine zv_iload_n C 1 dX10_accuracy_1 rfl rfl ?_
  exact zv_xcv (st := []) C (x_X10_needBody hfl E σ U b hU hbi hno) hout mX10_needBody kX10_140 (by decide : kd 0 = 9) rfl rfl rfl ⟨rfl, rfl⟩ (show zfit (zrx 6 100) 2 (zrx 12 300) = true from rfl) (Nat.le_of_ble_eq_true rfl) dX10_accuracy_2
set_option maxRecDepth 20000 in
theorem c_X10_goodShare {l : Launch} (hfl : l.stackTraces = false) (E : zE) (σ : zS) (U : zSU) (S : zST) (y : Int) (lim : Int) (hU : zSUp σ 29 U) (hS : zSTp σ 34 S) (hy : U.s0 ≤ y ∧ y ≤ U.s0 + 999) (hl : 0 ≤ lim ∧ lim ≤ 1000000000) : zRf l E yX10_goodShare cX10_goodShare 5 (zrm 6 148) [.ref (ob E 0), .int (zI y), .int (zI lim)] σ (fun r τ => r = dGs U S y lim ∧ τ = qW σ U S U.nb) := by
  refine Met.ofW (cc := cX10_goodShare) (maxL := 5) (ret := (some .float)) (by decide +kernel) rfl ?_
  intro p e s m args below meth c s₁ B hml hv
  obtain ⟨rfl, hd⟩ := hv
  have C := zX_of (own := RX10) hfl B hml rfl hd rfl
  have hr := B.returns
  refine zV_go hd (Nat.le_of_ble_eq_true rfl) (lv := [(0, .ref (ob E 0)), (1, .int (zI y)), (2, .int (zI lim))]) rfl ?_
  have hnb : U.nb ≤ 8 := hU.2.2.1
  have hs0 := hU.2.2.2.1
  
  refine zv_aload_n C 0 dX10_goodShare_0 rfl rfl ?_
  refine zv_iload_n C 1 dX10_goodShare_1 rfl rfl ?_
  refine zv_cvvD (st := []) C (c_X10_needYear hfl E σ U y hU (by omega) hy) mX10_needYear kX10_192 (by decide : kd 0 = 9) rfl rfl rfl ⟨rfl, rfl⟩ (show zfit (zrm 1 22) 2 (zrm 6 148) = true from rfl) (Nat.le_of_ble_eq_true rfl) dX10_goodShare_2 ⟨Nat.zero_le _, Nat.zero_le _⟩ ?_
  refine zv_iload_n C 2 dX10_goodShare_5 rfl rfl ?_
  refine zv_iconst (v := zI 0) C dX10_goodShare_6 rfl ?_
  refine zv_ldc C kX10_238 dX10_goodShare_7 ?_
  refine zv_eqi (y := zI 1000000000) (by decide) ?_
  refine zv_csvD (st := []) C (c_X10_needWithin hfl E σ lim 0 1000000000 (by omega) (by omega) (by omega) hl) mX10_needWithin kX10_117 rfl ⟨rfl, rfl⟩ (show zfit (zrm 0 0) 3 (zrm 6 148) = true from rfl) (Nat.le_of_ble_eq_true rfl) dX10_goodShare_9 ⟨Nat.zero_le _, Nat.zero_le _⟩ ?_
  refine zv_aload_n C 0 dX10_goodShare_12 rfl rfl ?_
  refine zG9_1 C (by decide : kd 0 = _) kX10_19 dX10_goodShare_13 ?_
  refine zG4_1 C (by decide : kd 29 = _) kX10_108 dX10_goodShare_16 ?_
  refine zv_eqi (y := zI (U.nb : Int)) (hU.2.1) ?_
  refine zv_if_neZ (tgt := 24) C (by omega) dX10_goodShare_19 (by decide) (fun h19 => ?_) (fun h19 => ?_)
  · skip
    refine zv_iconst (v := zI 0) C dX10_goodShare_24 rfl ?_
    refine zv_istore_n (lv' := [(3, .int (zI 0)), (0, .ref (ob E 0)), (1, .int (zI y)), (2, .int (zI lim))]) C dX10_goodShare_25 rfl (by decide) rfl ?_
    refine zv_iconst (v := zI 0) C dX10_goodShare_26 rfl ?_
    refine zv_istore (lv' := [(4, .int (zI 0)), (3, .int (zI 0)), (0, .ref (ob E 0)), (1, .int (zI y)), (2, .int (zI lim))]) C dX10_goodShare_27  (by decide) rfl ?_
    have q29_21 : (0 : Int) = (0 : Int) := by first | rfl | omega
    have q29_22 : (0 : Int) = (dGd U S y lim 0 : Int) := by first | rfl | omega
    refine zv_sub (lv' := [(0, .ref (ob E 0)), (1, .int (zI y)), (2, .int (zI lim)), (3, .int (zI (dGd U S y lim 0 : Int))), (4, .int (zI (0 : Int)))]) [2, 3, 4, 1, 0] (zcons rfl (zcons rfl (zcons rfl (zcons (zqI q29_22) (zcons (zqI q29_21) rfl))))) ?_
    refine zv_eqS (τ := (qW σ U S 0)) (rfl) ?_
    refine zv_while (α := Nat) (fun v => U.nb - v) (fun v => v ≤ U.nb) (fun v => (qW σ U S v)) (fun v => [(0, .ref (ob E 0)), (1, .int (zI y)), (2, .int (zI lim)), (3, .int (zI (dGd U S y lim v : Int))), (4, .int (zI (v : Int)))]) (fun v => []) (fun j hI ih => ?_) (0) (by omega)
    have hgd := dGd_le U S y lim j
    refine zv_iload C 4 dX10_goodShare_29 rfl ?_
    refine zv_aload_n C 0 dX10_goodShare_31 rfl rfl ?_
    refine zG9_1 C (by decide : kd 0 = _) kX10_19 dX10_goodShare_32 ?_
    refine zG4_1 C (by decide : kd 29 = _) kX10_108 dX10_goodShare_35 ?_
    refine zv_eqi (y := zI (U.nb : Int)) ((qW_U hU j).2.1) ?_
    refine zv_icmp_geZ (tgt := 63) C (by omega) (by omega) dX10_goodShare_38 (by decide) (fun h38 => ?_) (fun h38 => ?_)
    · skip
      refine zv_iload_n C 3 dX10_goodShare_63 rfl rfl ?_
      refine zv_i2f C dX10_goodShare_64 ?_
      refine zv_aload_n C 0 dX10_goodShare_65 rfl rfl ?_
      refine zG9_1 C (by decide : kd 0 = _) kX10_19 dX10_goodShare_66 ?_
      refine zG4_1 C (by decide : kd 29 = _) kX10_108 dX10_goodShare_69 ?_
      refine zv_eqi (y := zI (U.nb : Int)) ((qW_U hU j).2.1) ?_
      refine zv_i2f C dX10_goodShare_72 ?_
      refine zv_fdiv C dX10_goodShare_73 (nan_f (by omega) (by omega)) ?_
      exact zv_fret C hr dX10_goodShare_74 (by rw [show j = U.nb by omega]; exact ⟨by rw [dGs, if_neg (by omega)], rfl⟩)
    · skip
      have hqb := qErr_b hU hS (i := j) (by omega) (y := y) (by omega)
      refine zv_aload_n C 0 dX10_goodShare_41 rfl rfl ?_
      refine zv_iload C 4 dX10_goodShare_42 rfl ?_
      refine zv_iload_n C 1 dX10_goodShare_44 rfl rfl ?_
      refine zv_cvlD (st := []) C (c_X10_yearEndMiss hfl E (qW σ U S j) U S j y (qW_U hU j) (qW_S hS j) (by omega) hy (by omega)) mX10_yearEndMiss kX10_230 (by decide : kd 0 = 9) rfl rfl rfl ⟨rfl, rfl⟩ (show zfit (zrm 5 126) 3 (zrm 6 148) = true from rfl) (Nat.le_of_ble_eq_true rfl) dX10_goodShare_45 ⟨Nat.zero_le _, Nat.zero_le _⟩ ?_
      refine zv_iload_n C 2 dX10_goodShare_48 rfl rfl ?_
      refine zv_i2lZ C (by omega) dX10_goodShare_49 ?_
      refine zv_lc_gtZ (tgt := 57) C (by omega) (by omega) dX10_goodShare_50 dX10_goodShare_51 (by decide) (fun h50 => ?_) (fun h50 => ?_)
      · skip
        refine zv_iinc (v := (zI ((j : Int) + 1))) (lv' := [(4, .int (zI ((j : Int) + 1))), (0, .ref (ob E 0)), (1, .int (zI y)), (2, .int (zI lim)), (3, .int (zI (dGd U S y lim j : Int)))]) C 4 dX10_goodShare_57 rfl (zI_add _ _) (by decide) rfl ?_
        refine zv_goto (tgt := 29) C dX10_goodShare_60 (by decide) ?_
        have q29_55 : ((j : Int) + 1 : Int) = ((j + 1 : Nat) : Int) := by first | rfl | omega
        have q29_56 : ((dGd U S y lim j : Int) : Int) = (dGd U S y lim (j + 1) : Int) := by simp only [dGd]; first | (rw [if_pos (by omega)]; omega) | (rw [if_neg (by omega)])
        refine zv_sub (lv' := [(0, .ref (ob E 0)), (1, .int (zI y)), (2, .int (zI lim)), (3, .int (zI (dGd U S y lim (j + 1) : Int))), (4, .int (zI ((j + 1 : Nat) : Int)))]) [1, 2, 3, 4, 0] (zcons rfl (zcons rfl (zcons rfl (zcons (zqI q29_56) (zcons (zqI q29_55) rfl))))) ?_
        refine zv_eqS (τ := (qW σ U S (j + 1))) (qW_s σ U S j) ?_
        exact ih (j + 1) (by omega) (by omega)
      · skip
        refine zv_iinc (v := (zI ((dGd U S y lim j : Int) + 1))) (lv' := [(3, .int (zI ((dGd U S y lim j : Int) + 1))), (0, .ref (ob E 0)), (1, .int (zI y)), (2, .int (zI lim)), (4, .int (zI (j : Int)))]) C 3 dX10_goodShare_54 rfl (zI_add _ _) (by decide) rfl ?_
        refine zv_iinc (v := (zI ((j : Int) + 1))) (lv' := [(4, .int (zI ((j : Int) + 1))), (3, .int (zI ((dGd U S y lim j : Int) + 1))), (0, .ref (ob E 0)), (1, .int (zI y)), (2, .int (zI lim))]) C 4 dX10_goodShare_57 rfl (zI_add _ _) (by decide) rfl ?_
        refine zv_goto (tgt := 29) C dX10_goodShare_60 (by decide) ?_
        have q29_64 : ((j : Int) + 1 : Int) = ((j + 1 : Nat) : Int) := by first | rfl | omega
        have q29_65 : ((dGd U S y lim j : Int) + 1 : Int) = (dGd U S y lim (j + 1) : Int) := by simp only [dGd]; first | (rw [if_pos (by omega)]; omega) | (rw [if_neg (by omega)])
        refine zv_sub (lv' := [(0, .ref (ob E 0)), (1, .int (zI y)), (2, .int (zI lim)), (3, .int (zI (dGd U S y lim (j + 1) : Int))), (4, .int (zI ((j + 1 : Nat) : Int)))]) [2, 3, 4, 1, 0] (zcons rfl (zcons rfl (zcons rfl (zcons (zqI q29_65) (zcons (zqI q29_64) rfl))))) ?_
        refine zv_eqS (τ := (qW σ U S (j + 1))) (qW_s σ U S j) ?_
        exact ih (j + 1) (by omega) (by omega)
  · skip
    refine zv_fconst1 C dX10_goodShare_22 ?_
    exact zv_fret C hr dX10_goodShare_23 ⟨by rw [dGs, if_pos (by omega)], by rw [show U.nb = 0 by omega]; rfl⟩
set_option maxRecDepth 20000 in
theorem x1_X10_goodShare {l : Launch} (hfl : l.stackTraces = false) (E : zE) (σ : zS) (U : zSU) (y z : Int) (hU : zSUp σ 29 U) (hyi : -2147483648 ≤ y ∧ y < 2147483648) (hno : ¬ (U.s0 ≤ y ∧ y ≤ U.s0 + 999)) : zRx l E yX10_goodShare cX10_goodShare 5 (some .float) (zrx 12 300) [.ref (ob E 0), .int (zI y), .int (zI z)] σ "java/lang/IllegalArgumentException" := by
  refine vx_ofW (cc := cX10_goodShare) (maxL := 5) (ret := (some .float)) (by decide) rfl ?_
  intro p e s m args below meth c s₁ B hml hout hv
  obtain ⟨rfl, hd⟩ := hv
  have C := zX_of (own := RX10) hfl B hml rfl hd rfl
  have hr := B.returns
  refine zV_go hd (Nat.le_of_ble_eq_true rfl) (lv := [(0, .ref (ob E 0)), (1, .int (zI y)), (2, .int (zI z))]) rfl ?_
  have hnb : U.nb ≤ 8 := hU.2.2.1
  have hs0 := hU.2.2.2.1
  
  refine zv_aload_n C 0 dX10_goodShare_0 rfl rfl ?_
  refine zv_iload_n C 1 dX10_goodShare_1 rfl rfl ?_
  exact zv_xcv (st := []) C (x_X10_needYear hfl E σ U y hU hyi hno) hout mX10_needYear kX10_192 (by decide : kd 0 = 9) rfl rfl rfl ⟨rfl, rfl⟩ (show zfit (zrx 8 170) 2 (zrx 12 300) = true from rfl) (Nat.le_of_ble_eq_true rfl) dX10_goodShare_2
set_option maxRecDepth 20000 in
theorem x2_X10_goodShare {l : Launch} (hfl : l.stackTraces = false) (E : zE) (σ : zS) (U : zSU) (y z : Int) (hU : zSUp σ 29 U) (hy : U.s0 ≤ y ∧ y ≤ U.s0 + 999) (hzi : -2147483648 ≤ z ∧ z < 2147483648) (hno : ¬ (0 ≤ z ∧ z ≤ 1000000000)) : zRx l E yX10_goodShare cX10_goodShare 5 (some .float) (zrx 12 300) [.ref (ob E 0), .int (zI y), .int (zI z)] σ "java/lang/IllegalArgumentException" := by
  refine vx_ofW (cc := cX10_goodShare) (maxL := 5) (ret := (some .float)) (by decide) rfl ?_
  intro p e s m args below meth c s₁ B hml hout hv
  obtain ⟨rfl, hd⟩ := hv
  have C := zX_of (own := RX10) hfl B hml rfl hd rfl
  have hr := B.returns
  refine zV_go hd (Nat.le_of_ble_eq_true rfl) (lv := [(0, .ref (ob E 0)), (1, .int (zI y)), (2, .int (zI z))]) rfl ?_
  have hnb : U.nb ≤ 8 := hU.2.2.1
  have hs0 := hU.2.2.2.1
  
  refine zv_aload_n C 0 dX10_goodShare_0 rfl rfl ?_
  refine zv_iload_n C 1 dX10_goodShare_1 rfl rfl ?_
  refine zv_cvvD (st := []) C (c_X10_needYear hfl E σ U y hU (by omega) hy) mX10_needYear kX10_192 (by decide : kd 0 = 9) rfl rfl rfl ⟨rfl, rfl⟩ (show zfit (zrm 1 22) 2 (zrx 12 300) = true from rfl) (Nat.le_of_ble_eq_true rfl) dX10_goodShare_2 ⟨Nat.zero_le _, Nat.zero_le _⟩ ?_
  refine zv_iload_n C 2 dX10_goodShare_5 rfl rfl ?_
  refine zv_iconst (v := zI 0) C dX10_goodShare_6 rfl ?_
  refine zv_ldc C kX10_238 dX10_goodShare_7 ?_
  refine zv_eqi (y := zI 1000000000) (by decide) ?_
  exact zv_xcs (st := []) C (x_X10_needWithin hfl E σ z 0 1000000000 hzi (by omega) (by omega) hno) hout mX10_needWithin kX10_117 rfl ⟨rfl, rfl⟩ (show zfit (zrx 6 100) 3 (zrx 12 300) = true from rfl) (Nat.le_of_ble_eq_true rfl) dX10_goodShare_9
