/-! meetings' times, what is aligned, shares -/
set_option maxRecDepth 20000 in
theorem c_X11_meetingTime {l : Launch} (hfl : l.stackTraces = false) (E : zE) (σ : zS) (σc : zS) (U : zSU) (S : zST) (i o : Nat) (w : Int) (hB : zRb (gI σ 328) U) (hU : zSUp σc 29 U) (hW : zRo (gI σ 332) U.nb S) (hS : zSTp σc 34 S) (hi : i < U.nb) (ho : o < U.nb) (hw : w = 0 ∨ w = 1) : zRl l E yX11_meetingTime cX11_meetingTime 10 (zrm 5 127) [.ref (ob E 327), .int (zI (i : Int)), .int (zI (o : Int)), .int (zI w)] σ (fun r τ => r = zL (dMt U S i o w) ∧ mK σ τ 0) := by
  refine Met.ofW (cc := cX11_meetingTime) (maxL := 10) (ret := (some .long)) (by decide +kernel) rfl ?_
  intro p e s m args below meth c s₁ B hml hv
  obtain ⟨rfl, hd⟩ := hv
  have C := zX_of (own := RX11) hfl B hml rfl hd rfl
  have hr := B.returns
  refine zV_go hd (Nat.le_of_ble_eq_true rfl) (lv := [(0, .ref (ob E 327)), (1, .int (zI (i : Int))), (2, .int (zI (o : Int))), (3, .int (zI w))]) rfl ?_
  have hnb : U.nb ≤ 8 := hU.2.2.1
  have hs0 := hU.2.2.2.1
  have hqi := qPtr_b hU hS hi
  have hqo := qPtr_b hU hS ho
  obtain ⟨g1, g2, -⟩ := rAd_b (z := -(qPtr U S o).1) (w := (qPtr U S o).2) (C := 200000000) (D := 100000000) hqi.1 hqi.2 (by omega) hqo.2
  have hN2 : (qPtr U S i).1 * (qPtr U S o).2 - (qPtr U S o).1 * (qPtr U S i).2 = ((qPtr U S i).1 * (qPtr U S o).2 + -(qPtr U S o).1 * (qPtr U S i).2) := by rw [Int.neg_mul, ← Int.sub_eq_add_neg]
  have hd1 : dMt U S i o w = if rT ((qPtr U S i).1 * (qPtr U S o).2 + -(qPtr U S o).1 * (qPtr U S i).2) ((qPtr U S i).2 * (qPtr U S o).2) = 0 then -1 else if w = 0 then rB ((qPtr U S i).1 * (qPtr U S o).2 + -(qPtr U S o).1 * (qPtr U S i).2) ((qPtr U S i).2 * (qPtr U S o).2) else ((rT ((qPtr U S i).1 * (qPtr U S o).2 + -(qPtr U S o).1 * (qPtr U S i).2) ((qPtr U S i).2 * (qPtr U S o).2)).natAbs : Int) := rfl
  obtain ⟨n9, hn9⟩ : ∃ z, z = ((qPtr U S i).1 * (qPtr U S o).2 + -(qPtr U S o).1 * (qPtr U S i).2) := ⟨_, rfl⟩
  obtain ⟨m9, hm9⟩ : ∃ z, z = ((qPtr U S i).2 * (qPtr U S o).2) := ⟨_, rfl⟩
  rw [← hn9, ← hm9] at hd1
  rw [← hn9] at g1 hN2
  rw [← hm9] at g2
  obtain ⟨e1, e2⟩ := rT_e (z := n9) (w := m9) g2.1
  have hT0 : n9 ≠ 0 → rT n9 m9 ≠ 0 := fun z y => z (by rw [e1, y, Int.mul_zero])
  have hmt := fun z => mt_eq (N := n9) (M := m9) g2.1 z
  refine zv_aload_n C 0 dX11_meetingTime_0 rfl rfl ?_
  refine zv_iload_n C 1 dX11_meetingTime_1 rfl rfl ?_
  refine zv_cviD (st := []) C (c0_X11_noBody hfl E σ σc U ((i : Int)) hB hU (by omega)) mX11_noBody kX11_319 (by decide : kd 327 = 10) rfl rfl rfl ⟨rfl, rfl⟩ (show zfit (zrm 1 25) 2 (zrm 5 127) = true from rfl) (Nat.le_of_ble_eq_true rfl) dX11_meetingTime_2 ⟨Nat.zero_le _, Nat.zero_le _⟩ ?_
  refine zv_if_neZ (tgt := 39) C (by omega) dX11_meetingTime_5 (by decide) (fun h5 => absurd h5 (by decide)) (fun h5 => ?_)
  refine zv_aload_n C 0 dX11_meetingTime_8 rfl rfl ?_
  refine zv_iload_n C 2 dX11_meetingTime_9 rfl rfl ?_
  refine zv_cviD (st := []) C (c0_X11_noBody hfl E (thW σ 0) σc U ((o : Int)) hB hU (by omega)) mX11_noBody kX11_319 (by decide : kd 327 = 10) rfl rfl rfl ⟨rfl, rfl⟩ (show zfit (zrm 1 25) 2 (zrm 5 127) = true from rfl) (Nat.le_of_ble_eq_true rfl) dX11_meetingTime_10 ⟨Nat.zero_le _, Nat.zero_le _⟩ ?_
  refine zv_eqS (τ := (thW σ 0)) (thW_o _ _ _) ?_
  refine zv_if_neZ (tgt := 39) C (by omega) dX11_meetingTime_13 (by decide) (fun h13 => absurd h13 (by decide)) (fun h13 => ?_)
  refine zv_aload_n C 0 dX11_meetingTime_16 rfl rfl ?_
  refine zv_iload_n C 3 dX11_meetingTime_17 rfl rfl ?_
  refine zv_i2lZ C (by omega) dX11_meetingTime_18 ?_
  refine zv_lconst (v := zL 0) C dX11_meetingTime_19 (by decide) ?_
  refine zv_lconst (v := zL 1) C dX11_meetingTime_20 (by decide) ?_
  refine zv_csiD (st := [.ref (ob E 327)]) C (c_X11_inRange hfl E (thW σ 0) (w) (0) (1) (by omega) (by omega) (by omega)) mX11_inRange kX11_71 rfl ⟨rfl, rfl⟩ (show zfit (zrm 0 0) 6 (zrm 5 127) = true from rfl) (Nat.le_of_ble_eq_true rfl) dX11_meetingTime_21 ⟨Nat.zero_le _, Nat.zero_le _⟩ ?_
  refine zv_if_neB (tgt := 31) C dX11_meetingTime_24 (by decide) (fun h24 => ?_) (fun h24 => ?_)
  · skip
    refine zv_iconst (v := zI 0) C dX11_meetingTime_31 rfl ?_
    refine zv_iconst (v := zI 2) C dX11_meetingTime_32 rfl ?_
    refine zv_cviD (st := []) C (c0_X11_fails hfl E (thW σ 0) 2) mX11_fails kX11_309 (by decide : kd 327 = 10) rfl rfl rfl ⟨rfl, rfl⟩ (show zfit (zrm 0 0) 3 (zrm 5 127) = true from rfl) (Nat.le_of_ble_eq_true rfl) dX11_meetingTime_33 ⟨Nat.zero_le _, Nat.zero_le _⟩ ?_
    refine zv_if_eqZ (tgt := 41) C (by omega) dX11_meetingTime_36 (by decide) (fun h36 => ?_) (fun h36 => absurd h36 (by decide))
    refine zv_aload_n C 0 dX11_meetingTime_41 rfl rfl ?_
    refine zv_iload_n C 1 dX11_meetingTime_42 rfl rfl ?_
    refine zv_cvvD (st := []) C (c_X11_ratio hfl E (thW σ 0) σc U S i hB hU hW hS hi) mX11_ratio kX11_278 (by decide : kd 327 = 10) rfl rfl rfl ⟨rfl, rfl⟩ (show zfit (zrm 4 102) 6 (zrm 5 127) = true from rfl) (Nat.le_of_ble_eq_true rfl) dX11_meetingTime_43 ⟨Nat.zero_le _, Nat.zero_le _⟩ ?_
    refine zv_aload_n C 0 dX11_meetingTime_46 rfl rfl ?_
    refine zG10_22 C (by decide : kd 327 = _) kX11_249 dX11_meetingTime_47 ?_
    refine zv_eql (y := (zL ((qPtr U S i).1))) ((mW_r _ _ _).1) ?_
    refine zv_lstore (lv' := [(4, .long (zL ((qPtr U S i).1))), (0, .ref (ob E 327)), (1, .int (zI (i : Int))), (2, .int (zI (o : Int))), (3, .int (zI w))]) C dX11_meetingTime_50  (by decide) rfl ?_
    refine zv_aload_n C 1 dX11_meetingTime_52 rfl rfl ?_
    refine zG10_23 C (by decide : kd 327 = _) kX11_253 dX11_meetingTime_53 ?_
    refine zv_eql (y := (zL ((qPtr U S i).2))) ((mW_r _ _ _).2) ?_
    refine zv_lstore (lv' := [(6, .long (zL ((qPtr U S i).2))), (4, .long (zL ((qPtr U S i).1))), (0, .ref (ob E 327)), (1, .int (zI (i : Int))), (2, .int (zI (o : Int))), (3, .int (zI w))]) C dX11_meetingTime_56  (by decide) rfl ?_
    refine zv_aload_n C 2 dX11_meetingTime_58 rfl rfl ?_
    refine zv_iload_n C 4 dX11_meetingTime_59 rfl rfl ?_
    refine zv_cvvD (st := []) C (c_X11_ratio hfl E (mW (thW σ 0) (qPtr U S i).1 (qPtr U S i).2) σc U S o hB hU hW hS ho) mX11_ratio kX11_278 (by decide : kd 327 = 10) rfl rfl rfl ⟨rfl, rfl⟩ (show zfit (zrm 4 102) 6 (zrm 5 127) = true from rfl) (Nat.le_of_ble_eq_true rfl) dX11_meetingTime_60 ⟨Nat.zero_le _, Nat.zero_le _⟩ ?_
    refine zv_lload C 1 dX11_meetingTime_63 rfl ?_
    refine zv_aload_n C 2 dX11_meetingTime_65 rfl rfl ?_
    refine zG10_23 C (by decide : kd 327 = _) kX11_253 dX11_meetingTime_66 ?_
    refine zv_eql (y := (zL ((qPtr U S o).2))) ((mW_r _ _ _).2) ?_
    refine zv_lmulZ C dX11_meetingTime_69 ?_
    refine zv_aload_n C 2 dX11_meetingTime_70 rfl rfl ?_
    refine zG10_22 C (by decide : kd 327 = _) kX11_249 dX11_meetingTime_71 ?_
    refine zv_eql (y := (zL ((qPtr U S o).1))) ((mW_r _ _ _).1) ?_
    refine zv_lload C 0 dX11_meetingTime_74 rfl ?_
    refine zv_lmulZ C dX11_meetingTime_76 ?_
    refine zv_lsubZ C dX11_meetingTime_77 ?_
    refine zv_eql (y := (zL n9)) (by rw [hN2]) ?_
    refine zv_cslD (st := []) C (c_J9_abs_067f4 hfl E (mW (mW (thW σ 0) (qPtr U S i).1 (qPtr U S i).2) (qPtr U S o).1 (qPtr U S o).2) (n9) (by omega)) mJ9_abs_067f4 kX11_239 rfl ⟨rfl, rfl⟩ (show zfit (zrm 0 0) 2 (zrm 5 127) = true from rfl) (Nat.le_of_ble_eq_true rfl) dX11_meetingTime_78 ⟨Nat.zero_le _, Nat.zero_le _⟩ ?_
    refine zv_lstore (lv' := [(8, .long (zL ((n9).natAbs : Int))), (6, .long (zL ((qPtr U S i).2))), (4, .long (zL ((qPtr U S i).1))), (0, .ref (ob E 327)), (1, .int (zI (i : Int))), (2, .int (zI (o : Int))), (3, .int (zI w))]) C dX11_meetingTime_81  (by decide) rfl ?_
    refine zv_lload C 0 dX11_meetingTime_83 rfl ?_
    refine zv_lconst (v := zL 0) C dX11_meetingTime_85 (by decide) ?_
    refine zv_lc_neZ (tgt := 94) C (by omega) (by omega) dX11_meetingTime_86 dX11_meetingTime_87 (by decide) (fun h86 => ?_) (fun h86 => ?_)
    · skip
      skip
      refine zv_aload_n C 3 dX11_meetingTime_94 rfl rfl ?_
      refine zv_lload C 1 dX11_meetingTime_95 rfl ?_
      refine zv_aload_n C 3 dX11_meetingTime_97 rfl rfl ?_
      refine zG10_23 C (by decide : kd 327 = _) kX11_253 dX11_meetingTime_98 ?_
      refine zv_eql (y := (zL ((qPtr U S o).2))) ((mW_r _ _ _).2) ?_
      refine zv_lmulZ C dX11_meetingTime_101 ?_
      refine zv_eql (y := (zL m9)) (by rw [hm9]) ?_
      refine zv_lload C 0 dX11_meetingTime_102 rfl ?_
      refine zv_cvvD (st := []) C (c_X11_fraction hfl E (mW (mW (thW σ 0) (qPtr U S i).1 (qPtr U S i).2) (qPtr U S o).1 (qPtr U S o).2) m9 (n9.natAbs : Int) (by omega) (by omega)) mX11_fraction kX11_264 (by decide : kd 327 = 10) rfl rfl rfl ⟨rfl, rfl⟩ (show zfit (zrm 2 50) 7 (zrm 5 127) = true from rfl) (Nat.le_of_ble_eq_true rfl) dX11_meetingTime_104 ⟨Nat.zero_le _, Nat.zero_le _⟩ ?_
      refine zv_iload_n C 6 dX11_meetingTime_107 rfl rfl ?_
      refine zv_if_neZ (tgt := 118) C (by omega) dX11_meetingTime_108 (by decide) (fun h108 => ?_) (fun h108 => ?_)
      · skip
        refine zv_aload_n C 3 dX11_meetingTime_118 rfl rfl ?_
        refine zG10_23 C (by decide : kd 327 = _) kX11_253 dX11_meetingTime_119 ?_
        refine zv_eql (y := (zL (rB m9 (n9.natAbs : Int)))) ((mW_r _ _ _).2) ?_
        exact zv_lret C hr dX11_meetingTime_122 ⟨by rw [hd1, if_neg (hT0 (by omega)), if_neg (by omega), (hmt (by omega)).2], mK_W (mK_W (mK_W (mK_th _ _) _ _) _ _) _ _⟩
      · skip
        refine zv_aload_n C 3 dX11_meetingTime_111 rfl rfl ?_
        refine zG10_22 C (by decide : kd 327 = _) kX11_249 dX11_meetingTime_112 ?_
        refine zv_eql (y := (zL (rT m9 (n9.natAbs : Int)))) ((mW_r _ _ _).1) ?_
        refine zv_goto (tgt := 122) C dX11_meetingTime_115 (by decide) ?_
        exact zv_lret C hr dX11_meetingTime_122 ⟨by rw [hd1, if_neg (hT0 (by omega)), if_pos (by omega), (hmt (by omega)).1], mK_W (mK_W (mK_W (mK_th _ _) _ _) _ _) _ _⟩
    · skip
      refine zv_ldc2 C kX11_347 dX11_meetingTime_90 ?_
      refine zv_eql (y := zL (-1)) (by decide) ?_
      exact zv_lret C hr dX11_meetingTime_93 ⟨by rw [hd1, if_pos (by rw [show n9 = 0 by omega]; exact Int.zero_tdiv _)], mK_W (mK_W (mK_th _ _) _ _) _ _⟩
  · skip
    refine zv_iconst (v := zI 1) C dX11_meetingTime_27 rfl ?_
    refine zv_goto (tgt := 32) C dX11_meetingTime_28 (by decide) ?_
    refine zv_iconst (v := zI 2) C dX11_meetingTime_32 rfl ?_
    exfalso
    omega
set_option maxRecDepth 20000 in
theorem c_X11_aligned {l : Launch} (hfl : l.stackTraces = false) (E : zE) (σ : zS) (σc : zS) (U : zSU) (S : zST) (i f : Nat) (orb : Int) (hB : zRb (gI σ 328) U) (hU : zSUp σc 29 U) (hW : zRo (gI σ 332) U.nb S) (hS : zSTp σc 34 S) (hi : i < U.nb) (hf : f ≤ 400000) (horb : 0 ≤ orb ∧ orb ≤ 648000) : zRi l E yX11_aligned cX11_aligned 6 .int (zrm 7 174) [.ref (ob E 327), .int (zI (i : Int)), .int (zI (f : Int)), .int (zI orb)] σ (fun r τ => r = dAl U S i (f : Int) orb U.nb ∧ mK σ τ 0) := by
  refine Met.ofW (cc := cX11_aligned) (maxL := 6) (ret := (some .int)) (by decide +kernel) rfl ?_
  intro p e s m args below meth c s₁ B hml hv
  obtain ⟨rfl, hd⟩ := hv
  have C := zX_of (own := RX11) hfl B hml rfl hd rfl
  have hr := B.returns
  refine zV_go hd (Nat.le_of_ble_eq_true rfl) (lv := [(0, .ref (ob E 327)), (1, .int (zI (i : Int))), (2, .int (zI (f : Int))), (3, .int (zI orb))]) rfl ?_
  have hnb : U.nb ≤ 8 := hU.2.2.1
  have hs0 := hU.2.2.2.1
  
  refine zv_aload_n C 0 dX11_aligned_0 rfl rfl ?_
  refine zv_iload_n C 1 dX11_aligned_1 rfl rfl ?_
  refine zv_cviD (st := []) C (c0_X11_noBody hfl E σ σc U ((i : Int)) hB hU (by omega)) mX11_noBody kX11_319 (by decide : kd 327 = 10) rfl rfl rfl ⟨rfl, rfl⟩ (show zfit (zrm 1 25) 2 (zrm 7 174) = true from rfl) (Nat.le_of_ble_eq_true rfl) dX11_aligned_2 ⟨Nat.zero_le _, Nat.zero_le _⟩ ?_
  refine zv_if_neZ (tgt := 40) C (by omega) dX11_aligned_5 (by decide) (fun h5 => absurd h5 (by decide)) (fun h5 => ?_)
  refine zv_aload_n C 0 dX11_aligned_8 rfl rfl ?_
  refine zv_iload_n C 2 dX11_aligned_9 rfl rfl ?_
  refine zv_csiD (st := [.ref (ob E 327)]) C (c_X11_isDay hfl E (thW σ 0) ((f : Int)) (by omega)) mX11_isDay kX11_338 rfl ⟨rfl, rfl⟩ (show zfit (zrm 1 25) 1 (zrm 7 174) = true from rfl) (Nat.le_of_ble_eq_true rfl) dX11_aligned_10 ⟨Nat.zero_le _, Nat.zero_le _⟩ ?_
  refine zv_if_eqB (tgt := 28) C dX11_aligned_13 (by decide) (fun h13 => ?_) (fun h13 => ?_)
  · skip
    refine zv_iconst (v := zI 1) C dX11_aligned_28 rfl ?_
    refine zv_goto (tgt := 33) C dX11_aligned_29 (by decide) ?_
    refine zv_iconst (v := zI 2) C dX11_aligned_33 rfl ?_
    exfalso
    omega
  · skip
    refine zv_iload_n C 3 dX11_aligned_16 rfl rfl ?_
    refine zv_i2lZ C (by omega) dX11_aligned_17 ?_
    refine zv_lconst (v := zL 0) C dX11_aligned_18 (by decide) ?_
    refine zv_ldc2 C kX11_432 dX11_aligned_19 ?_
    refine zv_eql (y := zL 648000) (by decide) ?_
    refine zv_csiD (st := [.ref (ob E 327)]) C (c_X11_inRange hfl E (thW σ 0) (orb) (0) (648000) (by omega) (by omega) (by omega)) mX11_inRange kX11_71 rfl ⟨rfl, rfl⟩ (show zfit (zrm 0 0) 6 (zrm 7 174) = true from rfl) (Nat.le_of_ble_eq_true rfl) dX11_aligned_22 ⟨Nat.zero_le _, Nat.zero_le _⟩ ?_
    refine zv_if_neB (tgt := 32) C dX11_aligned_25 (by decide) (fun h25 => ?_) (fun h25 => ?_)
    · skip
      refine zv_iconst (v := zI 0) C dX11_aligned_32 rfl ?_
      refine zv_iconst (v := zI 2) C dX11_aligned_33 rfl ?_
      refine zv_cviD (st := []) C (c0_X11_fails hfl E (thW σ 0) 2) mX11_fails kX11_309 (by decide : kd 327 = 10) rfl rfl rfl ⟨rfl, rfl⟩ (show zfit (zrm 0 0) 3 (zrm 7 174) = true from rfl) (Nat.le_of_ble_eq_true rfl) dX11_aligned_34 ⟨Nat.zero_le _, Nat.zero_le _⟩ ?_
      refine zv_if_eqZ (tgt := 42) C (by omega) dX11_aligned_37 (by decide) (fun h37 => ?_) (fun h37 => absurd h37 (by decide))
      refine zv_iconst (v := zI 0) C dX11_aligned_42 rfl ?_
      refine zv_istore (lv' := [(4, .int (zI 0)), (0, .ref (ob E 327)), (1, .int (zI (i : Int))), (2, .int (zI (f : Int))), (3, .int (zI orb))]) C dX11_aligned_43  (by decide) rfl ?_
      refine zv_iconst (v := zI 0) C dX11_aligned_45 rfl ?_
      refine zv_istore (lv' := [(5, .int (zI 0)), (4, .int (zI 0)), (0, .ref (ob E 327)), (1, .int (zI (i : Int))), (2, .int (zI (f : Int))), (3, .int (zI orb))]) C dX11_aligned_46  (by decide) rfl ?_
      have q48_34 : (0 : Int) = (0 : Int) := by rfl
      have q48_35 : (zI 0) = (dAl U S i (f : Int) orb 0) := by rfl
      refine zv_sub (lv' := [(0, .ref (ob E 327)), (1, .int (zI (i : Int))), (2, .int (zI (f : Int))), (3, .int (zI orb)), (4, .int (dAl U S i (f : Int) orb 0)), (5, .int (zI (0 : Int)))]) [2, 3, 4, 5, 1, 0] (zcons rfl (zcons rfl (zcons rfl (zcons rfl (zcons (zqi q48_35) (zcons (zqI q48_34) rfl)))))) ?_
      refine zv_eqS (τ := (thW σ 0)) (rfl) ?_
      refine zv_while (α := Nat × zS) (fun v => U.nb - v.1) (fun v => v.1 ≤ U.nb ∧ mK σ v.2 0) (fun v => v.2) (fun v => [(0, .ref (ob E 327)), (1, .int (zI (i : Int))), (2, .int (zI (f : Int))), (3, .int (zI orb)), (4, .int (dAl U S i (f : Int) orb v.1)), (5, .int (zI (v.1 : Int)))]) (fun v => []) (fun v hI ih => ?_) ((0, (thW σ 0))) (⟨Nat.zero_le _, mK_th _ _⟩)
      obtain ⟨j, u⟩ := v
      dsimp only at hI ih ⊢
      obtain ⟨hI, hK⟩ := hI
      refine zv_iload C 5 dX11_aligned_48 rfl ?_
      refine zv_aload_n C 0 dX11_aligned_50 rfl rfl ?_
      refine zG10_0 C (by decide : kd 327 = _) kX11_7 dX11_aligned_51 ?_
      refine zv_iconst (v := zI 0) C dX11_aligned_54 rfl ?_
      refine zv_iald (j := 0) C (by decide : kd 328 = _) (zI_ix (by omega)) (by decide) dX11_aligned_55 ?_
      refine zv_eqi (y := zI (U.nb : Int)) ((mK_B hK hB).1) ?_
      refine zv_icmp_geZ (tgt := 90) C (by omega) (by omega) dX11_aligned_56 (by decide) (fun h56 => ?_) (fun h56 => ?_)
      · skip
        refine zv_iload C 4 dX11_aligned_90 rfl ?_
        exact zv_iret C hr rfl dX11_aligned_92 ⟨by rw [show j = U.nb by omega], hK⟩
      · skip
        refine zv_iload C 4 dX11_aligned_59 rfl ?_
        refine zv_aload_n C 0 dX11_aligned_61 rfl rfl ?_
        refine zv_iload_n C 1 dX11_aligned_62 rfl rfl ?_
        refine zv_iload C 5 dX11_aligned_63 rfl ?_
        refine zv_iload_n C 2 dX11_aligned_65 rfl rfl ?_
        refine zv_iload_n C 3 dX11_aligned_66 rfl rfl ?_
        refine zv_cviD (st := [.int (dAl U S i (f : Int) orb j)]) C (c_X11_areNear hfl E u σc U S i j f orb (mK_B hK hB) hU (mK_R hK hW) hS hi (by omega) hf horb) mX11_areNear kX11_434 (by decide : kd 327 = 10) rfl rfl rfl ⟨rfl, rfl⟩ (show zfit (zrm 6 149) 6 (zrm 7 174) = true from rfl) (Nat.le_of_ble_eq_true rfl) dX11_aligned_67 ⟨Nat.zero_le _, Nat.zero_le _⟩ ?_
        refine zv_if_eqB (tgt := 80) C dX11_aligned_70 (by decide) (fun h70 => ?_) (fun h70 => ?_)
        · skip
          refine zv_iconst (v := zI 0) C dX11_aligned_80 rfl ?_
          refine zv_ior C dX11_aligned_81 ?_
          refine zv_istore (lv' := [(4, .int ((dAl U S i (f : Int) orb j) ||| (zI 0))), (0, .ref (ob E 327)), (1, .int (zI (i : Int))), (2, .int (zI (f : Int))), (3, .int (zI orb)), (5, .int (zI (j : Int)))]) C dX11_aligned_82  (by decide) rfl ?_
          refine zv_iinc (v := (zI ((j : Int) + 1))) (lv' := [(5, .int (zI ((j : Int) + 1))), (4, .int ((dAl U S i (f : Int) orb j) ||| (zI 0))), (0, .ref (ob E 327)), (1, .int (zI (i : Int))), (2, .int (zI (f : Int))), (3, .int (zI orb))]) C 5 dX11_aligned_84 rfl (zI_add _ _) (by decide) rfl ?_
          refine zv_goto (tgt := 48) C dX11_aligned_87 (by decide) ?_
          have q48_67 : ((j : Int) + 1 : Int) = ((j + 1 : Nat) : Int) := by omega
          have q48_68 : ((dAl U S i (f : Int) orb j) ||| (zI 0)) = (dAl U S i (f : Int) orb (j + 1)) := by first | exact (if_pos h70).symm | exact (Int32.or_zero).trans (if_neg h70).symm
          refine zv_sub (lv' := [(0, .ref (ob E 327)), (1, .int (zI (i : Int))), (2, .int (zI (f : Int))), (3, .int (zI orb)), (4, .int (dAl U S i (f : Int) orb (j + 1))), (5, .int (zI ((j + 1 : Nat) : Int)))]) [2, 3, 4, 5, 1, 0] (zcons rfl (zcons rfl (zcons rfl (zcons rfl (zcons (zqi q48_68) (zcons (zqI q48_67) rfl)))))) ?_
          refine zv_eqS (τ := (mW u (qPtr U S j).1 (qPtr U S j).2)) (rfl) ?_
          exact ih ((j + 1, (mW u (qPtr U S j).1 (qPtr U S j).2))) (⟨by show j + 1 ≤ U.nb; omega, mK_W hK _ _⟩) (by show U.nb - (j + 1) < U.nb - j; omega)
        · skip
          refine zv_iconst (v := zI 1) C dX11_aligned_73 rfl ?_
          refine zv_iload C 5 dX11_aligned_74 rfl ?_
          refine zv_ishl C dX11_aligned_76 ?_
          refine zv_goto (tgt := 81) C dX11_aligned_77 (by decide) ?_
          refine zv_ior C dX11_aligned_81 ?_
          refine zv_istore (lv' := [(4, .int ((dAl U S i (f : Int) orb j) ||| ((zI 1) <<< ((zI (j : Int)) &&& 31)))), (0, .ref (ob E 327)), (1, .int (zI (i : Int))), (2, .int (zI (f : Int))), (3, .int (zI orb)), (5, .int (zI (j : Int)))]) C dX11_aligned_82  (by decide) rfl ?_
          refine zv_iinc (v := (zI ((j : Int) + 1))) (lv' := [(5, .int (zI ((j : Int) + 1))), (4, .int ((dAl U S i (f : Int) orb j) ||| ((zI 1) <<< ((zI (j : Int)) &&& 31)))), (0, .ref (ob E 327)), (1, .int (zI (i : Int))), (2, .int (zI (f : Int))), (3, .int (zI orb))]) C 5 dX11_aligned_84 rfl (zI_add _ _) (by decide) rfl ?_
          refine zv_goto (tgt := 48) C dX11_aligned_87 (by decide) ?_
          have q48_81 : ((j : Int) + 1 : Int) = ((j + 1 : Nat) : Int) := by omega
          have q48_82 : ((dAl U S i (f : Int) orb j) ||| ((zI 1) <<< ((zI (j : Int)) &&& 31))) = (dAl U S i (f : Int) orb (j + 1)) := by first | exact (if_pos h70).symm | exact (Int32.or_zero).trans (if_neg h70).symm
          refine zv_sub (lv' := [(0, .ref (ob E 327)), (1, .int (zI (i : Int))), (2, .int (zI (f : Int))), (3, .int (zI orb)), (4, .int (dAl U S i (f : Int) orb (j + 1))), (5, .int (zI ((j + 1 : Nat) : Int)))]) [2, 3, 4, 5, 1, 0] (zcons rfl (zcons rfl (zcons rfl (zcons rfl (zcons (zqi q48_82) (zcons (zqI q48_81) rfl)))))) ?_
          refine zv_eqS (τ := (mW u (qPtr U S j).1 (qPtr U S j).2)) (rfl) ?_
          exact ih ((j + 1, (mW u (qPtr U S j).1 (qPtr U S j).2))) (⟨by show j + 1 ≤ U.nb; omega, mK_W hK _ _⟩) (by show U.nb - (j + 1) < U.nb - j; omega)
    · skip
      refine zv_iconst (v := zI 1) C dX11_aligned_28 rfl ?_
      refine zv_goto (tgt := 33) C dX11_aligned_29 (by decide) ?_
      refine zv_iconst (v := zI 2) C dX11_aligned_33 rfl ?_
      exfalso
      omega
set_option maxRecDepth 20000 in
theorem x1_X11_aligned {l : Launch} (hfl : l.stackTraces = false) (E : zE) (σ : zS) (σc : zS) (U : zSU) (y a b : Int) (hB : zRb (gI σ 328) U) (hU : zSUp σc 29 U) (hy : -2147483648 ≤ y ∧ y < 2147483648) (hno : ¬ (0 ≤ y ∧ y < U.nb)) : zRi l E yX11_aligned cX11_aligned 6 .int (zrm 2 46) [.ref (ob E 327), .int (zI y), .int (zI a), .int (zI b)] σ (fun r τ => r = zI 0 ∧ mK σ τ 1) := by
  refine Met.ofW (cc := cX11_aligned) (maxL := 6) (ret := (some .int)) (by decide +kernel) rfl ?_
  intro p e s m args below meth c s₁ B hml hv
  obtain ⟨rfl, hd⟩ := hv
  have C := zX_of (own := RX11) hfl B hml rfl hd rfl
  have hr := B.returns
  refine zV_go hd (Nat.le_of_ble_eq_true rfl) (lv := [(0, .ref (ob E 327)), (1, .int (zI y)), (2, .int (zI a)), (3, .int (zI b))]) rfl ?_
  have hnb : U.nb ≤ 8 := hU.2.2.1
  have hs0 := hU.2.2.2.1
  
  refine zv_aload_n C 0 dX11_aligned_0 rfl rfl ?_
  refine zv_iload_n C 1 dX11_aligned_1 rfl rfl ?_
  refine zv_cviD (st := []) C (c1_X11_noBody hfl E σ σc U (y) hB hU (by omega) hno) mX11_noBody kX11_319 (by decide : kd 327 = 10) rfl rfl rfl ⟨rfl, rfl⟩ (show zfit (zrm 1 25) 2 (zrm 2 46) = true from rfl) (Nat.le_of_ble_eq_true rfl) dX11_aligned_2 ⟨Nat.zero_le _, Nat.zero_le _⟩ ?_
  refine zv_if_neZ (tgt := 40) C (by omega) dX11_aligned_5 (by decide) (fun h5 => ?_) (fun h5 => absurd h5 (by decide))
  refine zv_iconst (v := zI 0) C dX11_aligned_40 rfl ?_
  exact zv_iret C hr rfl dX11_aligned_41 ⟨rfl, by first | exact mK_th _ _ | exact mK_th2 _ _ _ | exact mK_C (mK_W (mK_th _ _) _ _) _ | exact mK_W (mK_th _ _) _ _⟩
set_option maxRecDepth 20000 in
theorem x2_X11_aligned {l : Launch} (hfl : l.stackTraces = false) (E : zE) (σ : zS) (σc : zS) (U : zSU) (i : Nat) (a b : Int) (hB : zRb (gI σ 328) U) (hU : zSUp σc 29 U) (hi : i < U.nb) (har : -2147483648 ≤ a ∧ a < 2147483648) (hbr : -2147483648 ≤ b ∧ b < 2147483648) (hno : ¬ ((0 ≤ a ∧ a ≤ 400000) ∧ (0 ≤ b ∧ b ≤ 648000))) : zRi l E yX11_aligned cX11_aligned 6 .int (zrm 2 46) [.ref (ob E 327), .int (zI (i : Int)), .int (zI a), .int (zI b)] σ (fun r τ => r = zI 0 ∧ mK σ τ 2) := by
  refine Met.ofW (cc := cX11_aligned) (maxL := 6) (ret := (some .int)) (by decide +kernel) rfl ?_
  intro p e s m args below meth c s₁ B hml hv
  obtain ⟨rfl, hd⟩ := hv
  have C := zX_of (own := RX11) hfl B hml rfl hd rfl
  have hr := B.returns
  refine zV_go hd (Nat.le_of_ble_eq_true rfl) (lv := [(0, .ref (ob E 327)), (1, .int (zI (i : Int))), (2, .int (zI a)), (3, .int (zI b))]) rfl ?_
  have hnb : U.nb ≤ 8 := hU.2.2.1
  have hs0 := hU.2.2.2.1
  
  refine zv_aload_n C 0 dX11_aligned_0 rfl rfl ?_
  refine zv_iload_n C 1 dX11_aligned_1 rfl rfl ?_
  refine zv_cviD (st := []) C (c0_X11_noBody hfl E σ σc U ((i : Int)) hB hU (by omega)) mX11_noBody kX11_319 (by decide : kd 327 = 10) rfl rfl rfl ⟨rfl, rfl⟩ (show zfit (zrm 1 25) 2 (zrm 2 46) = true from rfl) (Nat.le_of_ble_eq_true rfl) dX11_aligned_2 ⟨Nat.zero_le _, Nat.zero_le _⟩ ?_
  refine zv_if_neZ (tgt := 40) C (by omega) dX11_aligned_5 (by decide) (fun h5 => absurd h5 (by decide)) (fun h5 => ?_)
  refine zv_aload_n C 0 dX11_aligned_8 rfl rfl ?_
  refine zv_iload_n C 2 dX11_aligned_9 rfl rfl ?_
  refine zv_csiD (st := [.ref (ob E 327)]) C (c_X11_isDay hfl E (thW σ 0) (a) (by omega)) mX11_isDay kX11_338 rfl ⟨rfl, rfl⟩ (show zfit (zrm 1 25) 1 (zrm 2 46) = true from rfl) (Nat.le_of_ble_eq_true rfl) dX11_aligned_10 ⟨Nat.zero_le _, Nat.zero_le _⟩ ?_
  refine zv_if_eqB (tgt := 28) C dX11_aligned_13 (by decide) (fun h13 => ?_) (fun h13 => ?_)
  · skip
    refine zv_iconst (v := zI 1) C dX11_aligned_28 rfl ?_
    refine zv_goto (tgt := 33) C dX11_aligned_29 (by decide) ?_
    refine zv_iconst (v := zI 2) C dX11_aligned_33 rfl ?_
    refine zv_cviD (st := []) C (c1_X11_fails hfl E (thW σ 0) 2) mX11_fails kX11_309 (by decide : kd 327 = 10) rfl rfl rfl ⟨rfl, rfl⟩ (show zfit (zrm 0 0) 3 (zrm 2 46) = true from rfl) (Nat.le_of_ble_eq_true rfl) dX11_aligned_34 ⟨Nat.zero_le _, Nat.zero_le _⟩ ?_
    refine zv_if_eqZ (tgt := 42) C (by omega) dX11_aligned_37 (by decide) (fun h37 => absurd h37 (by decide)) (fun h37 => ?_)
    refine zv_iconst (v := zI 0) C dX11_aligned_40 rfl ?_
    exact zv_iret C hr rfl dX11_aligned_41 ⟨rfl, mK_th2 _ _ _⟩
  · skip
    refine zv_iload_n C 3 dX11_aligned_16 rfl rfl ?_
    refine zv_i2lZ C (by omega) dX11_aligned_17 ?_
    refine zv_lconst (v := zL 0) C dX11_aligned_18 (by decide) ?_
    refine zv_ldc2 C kX11_432 dX11_aligned_19 ?_
    refine zv_eql (y := zL 648000) (by decide) ?_
    refine zv_csiD (st := [.ref (ob E 327)]) C (c_X11_inRange hfl E (thW σ 0) (b) (0) (648000) (by omega) (by omega) (by omega)) mX11_inRange kX11_71 rfl ⟨rfl, rfl⟩ (show zfit (zrm 0 0) 6 (zrm 2 46) = true from rfl) (Nat.le_of_ble_eq_true rfl) dX11_aligned_22 ⟨Nat.zero_le _, Nat.zero_le _⟩ ?_
    refine zv_if_neB (tgt := 32) C dX11_aligned_25 (by decide) (fun h25 => ?_) (fun h25 => ?_)
    · skip
      refine zv_iconst (v := zI 0) C dX11_aligned_32 rfl ?_
      refine zv_iconst (v := zI 2) C dX11_aligned_33 rfl ?_
      exfalso
      omega
    · skip
      refine zv_iconst (v := zI 1) C dX11_aligned_28 rfl ?_
      refine zv_goto (tgt := 33) C dX11_aligned_29 (by decide) ?_
      refine zv_iconst (v := zI 2) C dX11_aligned_33 rfl ?_
      refine zv_cviD (st := []) C (c1_X11_fails hfl E (thW σ 0) 2) mX11_fails kX11_309 (by decide : kd 327 = 10) rfl rfl rfl ⟨rfl, rfl⟩ (show zfit (zrm 0 0) 3 (zrm 2 46) = true from rfl) (Nat.le_of_ble_eq_true rfl) dX11_aligned_34 ⟨Nat.zero_le _, Nat.zero_le _⟩ ?_
      refine zv_if_eqZ (tgt := 42) C (by omega) dX11_aligned_37 (by decide) (fun h37 => absurd h37 (by decide)) (fun h37 => ?_)
      refine zv_iconst (v := zI 0) C dX11_aligned_40 rfl ?_
      exact zv_iret C hr rfl dX11_aligned_41 ⟨rfl, mK_th2 _ _ _⟩
set_option maxRecDepth 20000 in
theorem c_X11_accuracy {l : Launch} (hfl : l.stackTraces = false) (E : zE) (σ : zS) (σc : zS) (U : zSU) (S : zST) (i : Nat) (hB : zRb (gI σ 328) U) (hU : zSUp σc 29 U) (hFN : zFN) (hW : zRo (gI σ 332) U.nb S) (hS : zSTp σc 34 S) (hi : i < U.nb) : zRdd l E yX11_accuracy cX11_accuracy 4 (zrm 5 127) [.ref (ob E 327), .int (zI (i : Int))] σ (fun r τ => r = dAcc U S i ∧ mK σ τ 0) := by
  refine Met.ofW (cc := cX11_accuracy) (maxL := 4) (ret := (some .double)) (by decide +kernel) rfl ?_
  intro p e s m args below meth c s₁ B hml hv
  obtain ⟨rfl, hd⟩ := hv
  have C := zX_of (own := RX11) hfl B hml rfl hd rfl
  have hr := B.returns
  refine zV_go hd (Nat.le_of_ble_eq_true rfl) (lv := [(0, .ref (ob E 327)), (1, .int (zI (i : Int)))]) rfl ?_
  have hnb : U.nb ≤ 8 := hU.2.2.1
  have hs0 := hU.2.2.2.1
  have hqp := qPtr_b hU hS hi
  have hqd := qDue_b hU hi
  have hq0 := qDue_0 hU hi
  refine zv_aload_n C 0 dX11_accuracy_0 rfl rfl ?_
  refine zv_iload_n C 1 dX11_accuracy_1 rfl rfl ?_
  refine zv_cviD (st := []) C (c0_X11_noBody hfl E σ σc U ((i : Int)) hB hU (by omega)) mX11_noBody kX11_319 (by decide : kd 327 = 10) rfl rfl rfl ⟨rfl, rfl⟩ (show zfit (zrm 1 25) 2 (zrm 5 127) = true from rfl) (Nat.le_of_ble_eq_true rfl) dX11_accuracy_2 ⟨Nat.zero_le _, Nat.zero_le _⟩ ?_
  refine zv_if_eqZ (tgt := 10) C (by omega) dX11_accuracy_5 (by decide) (fun h5 => ?_) (fun h5 => absurd h5 (by decide))
  refine zv_aload_n C 0 dX11_accuracy_10 rfl rfl ?_
  refine zv_iload_n C 1 dX11_accuracy_11 rfl rfl ?_
  refine zv_cvvD (st := []) C (c_X11_ratio hfl E (thW σ 0) σc U S i hB hU hW hS hi) mX11_ratio kX11_278 (by decide : kd 327 = 10) rfl rfl rfl ⟨rfl, rfl⟩ (show zfit (zrm 4 102) 6 (zrm 5 127) = true from rfl) (Nat.le_of_ble_eq_true rfl) dX11_accuracy_12 ⟨Nat.zero_le _, Nat.zero_le _⟩ ?_
  refine zv_aload_n C 0 dX11_accuracy_15 rfl rfl ?_
  refine zG10_22 C (by decide : kd 327 = _) kX11_249 dX11_accuracy_16 ?_
  refine zv_eql (y := (zL ((qPtr U S i).1))) ((mW_r _ _ _).1) ?_
  refine zv_l2d C dX11_accuracy_19 ?_
  refine zv_aload_n C 0 dX11_accuracy_20 rfl rfl ?_
  refine zG10_23 C (by decide : kd 327 = _) kX11_253 dX11_accuracy_21 ?_
  refine zv_eql (y := (zL ((qPtr U S i).2))) ((mW_r _ _ _).2) ?_
  refine zv_l2d C dX11_accuracy_24 ?_
  refine zv_ddiv C dX11_accuracy_25 (hFN.1 _ _ (by omega) (by omega)) ?_
  refine zv_dstore_n (lv' := [(2, .double (FP.ddiv (FP.l2d (zL ((qPtr U S i).1))) (FP.l2d (zL ((qPtr U S i).2))))), (0, .ref (ob E 327)), (1, .int (zI (i : Int)))]) C dX11_accuracy_26 rfl (by decide) rfl ?_
  refine zv_aload_n C 1 dX11_accuracy_27 rfl rfl ?_
  refine zv_iload_n C 2 dX11_accuracy_28 rfl rfl ?_
  refine zv_cvvD (st := []) C (c_X11_due hfl E (mW (thW σ 0) (qPtr U S i).1 (qPtr U S i).2) σc U i hB hU hi) mX11_due kX11_275 (by decide : kd 327 = 10) rfl rfl rfl ⟨rfl, rfl⟩ (show zfit (zrm 3 76) 2 (zrm 5 127) = true from rfl) (Nat.le_of_ble_eq_true rfl) dX11_accuracy_29 ⟨Nat.zero_le _, Nat.zero_le _⟩ ?_
  refine zv_dload_n C 0 dX11_accuracy_32 rfl rfl ?_
  refine zv_aload_n C 1 dX11_accuracy_33 rfl rfl ?_
  refine zG10_22 C (by decide : kd 327 = _) kX11_249 dX11_accuracy_34 ?_
  refine zv_eql (y := (zL ((qDue U i).1))) ((mW_r _ _ _).1) ?_
  refine zv_l2d C dX11_accuracy_37 ?_
  refine zv_aload_n C 1 dX11_accuracy_38 rfl rfl ?_
  refine zG10_23 C (by decide : kd 327 = _) kX11_253 dX11_accuracy_39 ?_
  refine zv_eql (y := (zL ((qDue U i).2))) ((mW_r _ _ _).2) ?_
  refine zv_l2d C dX11_accuracy_42 ?_
  refine zv_ddiv C dX11_accuracy_43 (hFN.1 _ _ (by omega) (by omega)) ?_
  refine zv_ddiv C dX11_accuracy_44 (hFN.2 _ _ _ _ (by omega) (by omega) (by omega) hq0 (by omega)) ?_
  exact zv_dret C hr dX11_accuracy_45 ⟨rfl, mK_W (mK_W (mK_th _ _) _ _) _ _⟩
set_option maxRecDepth 20000 in
theorem x1_X11_accuracy {l : Launch} (hfl : l.stackTraces = false) (E : zE) (σ : zS) (σc : zS) (U : zSU) (y : Int) (hB : zRb (gI σ 328) U) (hU : zSUp σc 29 U) (hy : -2147483648 ≤ y ∧ y < 2147483648) (hno : ¬ (0 ≤ y ∧ y < U.nb)) : zRdd l E yX11_accuracy cX11_accuracy 4 (zrm 2 46) [.ref (ob E 327), .int (zI y)] σ (fun r τ => r = FP.dconst0 ∧ mK σ τ 1) := by
  refine Met.ofW (cc := cX11_accuracy) (maxL := 4) (ret := (some .double)) (by decide +kernel) rfl ?_
  intro p e s m args below meth c s₁ B hml hv
  obtain ⟨rfl, hd⟩ := hv
  have C := zX_of (own := RX11) hfl B hml rfl hd rfl
  have hr := B.returns
  refine zV_go hd (Nat.le_of_ble_eq_true rfl) (lv := [(0, .ref (ob E 327)), (1, .int (zI y))]) rfl ?_
  have hnb : U.nb ≤ 8 := hU.2.2.1
  have hs0 := hU.2.2.2.1
  
  refine zv_aload_n C 0 dX11_accuracy_0 rfl rfl ?_
  refine zv_iload_n C 1 dX11_accuracy_1 rfl rfl ?_
  refine zv_cviD (st := []) C (c1_X11_noBody hfl E σ σc U (y) hB hU (by omega) hno) mX11_noBody kX11_319 (by decide : kd 327 = 10) rfl rfl rfl ⟨rfl, rfl⟩ (show zfit (zrm 1 25) 2 (zrm 2 46) = true from rfl) (Nat.le_of_ble_eq_true rfl) dX11_accuracy_2 ⟨Nat.zero_le _, Nat.zero_le _⟩ ?_
  refine zv_if_eqZ (tgt := 10) C (by omega) dX11_accuracy_5 (by decide) (fun h5 => absurd h5 (by decide)) (fun h5 => ?_)
  refine zv_dconst0 C dX11_accuracy_8 ?_
  exact zv_dret C hr dX11_accuracy_9 ⟨rfl, by first | exact mK_th _ _ | exact mK_th2 _ _ _ | exact mK_C (mK_W (mK_th _ _) _ _) _ | exact mK_W (mK_th _ _) _ _⟩
set_option maxRecDepth 20000 in
theorem c_X11_goodShare {l : Launch} (hfl : l.stackTraces = false) (E : zE) (σ : zS) (σc : zS) (U : zSU) (S : zST) (y lim : Int) (hB : zRb (gI σ 328) U) (hU : zSUp σc 29 U) (hW : zRo (gI σ 332) U.nb S) (hS : zSTp σc 34 S) (hy : U.s0 ≤ y ∧ y ≤ U.s0 + 999) (hl : 0 ≤ lim ∧ lim ≤ 1000000000) : zRf l E yX11_goodShare cX11_goodShare 5 (zrm 8 201) [.ref (ob E 327), .int (zI y), .int (zI lim)] σ (fun r τ => r = dGs U S y lim ∧ mK σ τ 0) := by
  refine Met.ofW (cc := cX11_goodShare) (maxL := 5) (ret := (some .float)) (by decide +kernel) rfl ?_
  intro p e s m args below meth c s₁ B hml hv
  obtain ⟨rfl, hd⟩ := hv
  have C := zX_of (own := RX11) hfl B hml rfl hd rfl
  have hr := B.returns
  refine zV_go hd (Nat.le_of_ble_eq_true rfl) (lv := [(0, .ref (ob E 327)), (1, .int (zI y)), (2, .int (zI lim))]) rfl ?_
  have hnb : U.nb ≤ 8 := hU.2.2.1
  have hs0 := hU.2.2.2.1
  have hyf := yF_e (U := U) (y := y) hs0 (by omega)
  
  refine zv_aload_n C 0 dX11_goodShare_0 rfl rfl ?_
  refine zv_iconst (v := zI 0) C dX11_goodShare_1 rfl ?_
  refine zP10_10 C (by decide : kd 327 = _) kX11_50 dX11_goodShare_2 ?_
  refine zv_eqS (τ := (thW σ 0)) (rfl) ?_
  refine zv_aload_n C 0 dX11_goodShare_5 rfl rfl ?_
  refine zv_aload_n C 0 dX11_goodShare_6 rfl rfl ?_
  refine zv_iload_n C 1 dX11_goodShare_7 rfl rfl ?_
  refine zv_cviD (st := [.ref (ob E 327)]) C (c_X11_isYear hfl E (thW σ 0) σc U (y) hB hU (by omega)) mX11_isYear kX11_327 (by decide : kd 327 = 10) rfl rfl rfl ⟨rfl, rfl⟩ (show zfit (zrm 1 25) 2 (zrm 8 201) = true from rfl) (Nat.le_of_ble_eq_true rfl) dX11_goodShare_8 ⟨Nat.zero_le _, Nat.zero_le _⟩ ?_
  refine zv_if_eqB (tgt := 26) C dX11_goodShare_11 (by decide) (fun h11 => ?_) (fun h11 => ?_)
  · skip
    refine zv_iconst (v := zI 1) C dX11_goodShare_26 rfl ?_
    refine zv_goto (tgt := 31) C dX11_goodShare_27 (by decide) ?_
    refine zv_iconst (v := zI 1) C dX11_goodShare_31 rfl ?_
    exfalso
    omega
  · skip
    refine zv_iload_n C 2 dX11_goodShare_14 rfl rfl ?_
    refine zv_i2lZ C (by omega) dX11_goodShare_15 ?_
    refine zv_lconst (v := zL 0) C dX11_goodShare_16 (by decide) ?_
    refine zv_ldc2 C kX11_353 dX11_goodShare_17 ?_
    refine zv_eql (y := zL 1000000000) (by decide) ?_
    refine zv_csiD (st := [.ref (ob E 327)]) C (c_X11_inRange hfl E (thW σ 0) (lim) (0) (1000000000) (by omega) (by omega) (by omega)) mX11_inRange kX11_71 rfl ⟨rfl, rfl⟩ (show zfit (zrm 0 0) 6 (zrm 8 201) = true from rfl) (Nat.le_of_ble_eq_true rfl) dX11_goodShare_20 ⟨Nat.zero_le _, Nat.zero_le _⟩ ?_
    refine zv_if_neB (tgt := 30) C dX11_goodShare_23 (by decide) (fun h23 => ?_) (fun h23 => ?_)
    · skip
      refine zv_iconst (v := zI 0) C dX11_goodShare_30 rfl ?_
      refine zv_iconst (v := zI 1) C dX11_goodShare_31 rfl ?_
      refine zv_cviD (st := []) C (c0_X11_fails hfl E (thW σ 0) 1) mX11_fails kX11_309 (by decide : kd 327 = 10) rfl rfl rfl ⟨rfl, rfl⟩ (show zfit (zrm 0 0) 3 (zrm 8 201) = true from rfl) (Nat.le_of_ble_eq_true rfl) dX11_goodShare_32 ⟨Nat.zero_le _, Nat.zero_le _⟩ ?_
      refine zv_if_eqZ (tgt := 40) C (by omega) dX11_goodShare_35 (by decide) (fun h35 => ?_) (fun h35 => absurd h35 (by decide))
      refine zv_iconst (v := zI 0) C dX11_goodShare_40 rfl ?_
      refine zv_istore_n (lv' := [(3, .int (zI 0)), (0, .ref (ob E 327)), (1, .int (zI y)), (2, .int (zI lim))]) C dX11_goodShare_41 rfl (by decide) rfl ?_
      refine zv_iconst (v := zI 0) C dX11_goodShare_42 rfl ?_
      refine zv_istore (lv' := [(4, .int (zI 0)), (3, .int (zI 0)), (0, .ref (ob E 327)), (1, .int (zI y)), (2, .int (zI lim))]) C dX11_goodShare_43  (by decide) rfl ?_
      have q45_36 : (0 : Int) = (0 : Int) := by first | rfl | omega
      have q45_37 : (0 : Int) = (dGd U S y lim 0 : Int) := by first | rfl | omega
      refine zv_sub (lv' := [(0, .ref (ob E 327)), (1, .int (zI y)), (2, .int (zI lim)), (3, .int (zI (dGd U S y lim 0 : Int))), (4, .int (zI (0 : Int)))]) [2, 3, 4, 1, 0] (zcons rfl (zcons rfl (zcons rfl (zcons (zqI q45_37) (zcons (zqI q45_36) rfl))))) ?_
      refine zv_eqS (τ := (mQ (thW σ 0) U S (yF U y) 0)) (rfl) ?_
      refine zv_while (α := Nat) (fun v => U.nb - v) (fun v => v ≤ U.nb) (fun v => (mQ (thW σ 0) U S (yF U y) v)) (fun v => [(0, .ref (ob E 327)), (1, .int (zI y)), (2, .int (zI lim)), (3, .int (zI (dGd U S y lim v : Int))), (4, .int (zI (v : Int)))]) (fun v => []) (fun j hI ih => ?_) (0) (by omega)
      have hgd := dGd_le U S y lim j
      refine zv_iload C 4 dX11_goodShare_45 rfl ?_
      refine zv_aload_n C 0 dX11_goodShare_47 rfl rfl ?_
      refine zG10_0 C (by decide : kd 327 = _) kX11_7 dX11_goodShare_48 ?_
      refine zv_iconst (v := zI 0) C dX11_goodShare_51 rfl ?_
      refine zv_iald (j := 0) C (by decide : kd 328 = _) (zI_ix (by omega)) (by decide) dX11_goodShare_52 ?_
      refine zv_eqi (y := zI (U.nb : Int)) ((by rw [mQ_g _ _ _ _ _ _ (by decide)]; exact hB.1)) ?_
      refine zv_icmp_geZ (tgt := 83) C (by omega) (by omega) dX11_goodShare_53 (by decide) (fun h53 => ?_) (fun h53 => ?_)
      · skip
        refine zv_aload_n C 0 dX11_goodShare_83 rfl rfl ?_
        refine zG10_0 C (by decide : kd 327 = _) kX11_7 dX11_goodShare_84 ?_
        refine zv_iconst (v := zI 0) C dX11_goodShare_87 rfl ?_
        refine zv_iald (j := 0) C (by decide : kd 328 = _) (zI_ix (by omega)) (by decide) dX11_goodShare_88 ?_
        refine zv_eqi (y := zI (U.nb : Int)) ((by rw [mQ_g _ _ _ _ _ _ (by decide)]; exact hB.1)) ?_
        refine zv_if_neZ (tgt := 96) C (by omega) dX11_goodShare_89 (by decide) (fun h89 => ?_) (fun h89 => ?_)
        · skip
          refine zv_iload_n C 3 dX11_goodShare_96 rfl rfl ?_
          refine zv_i2f C dX11_goodShare_97 ?_
          refine zv_aload_n C 0 dX11_goodShare_98 rfl rfl ?_
          refine zG10_0 C (by decide : kd 327 = _) kX11_7 dX11_goodShare_99 ?_
          refine zv_iconst (v := zI 0) C dX11_goodShare_102 rfl ?_
          refine zv_iald (j := 0) C (by decide : kd 328 = _) (zI_ix (by omega)) (by decide) dX11_goodShare_103 ?_
          refine zv_eqi (y := zI (U.nb : Int)) ((by rw [mQ_g _ _ _ _ _ _ (by decide)]; exact hB.1)) ?_
          refine zv_i2f C dX11_goodShare_104 ?_
          refine zv_fdiv C dX11_goodShare_105 (nan_f (by omega) (by omega)) ?_
          exact zv_fret C hr dX11_goodShare_106 ⟨by rw [dGs, if_neg (by omega), show j = U.nb by omega], mK_Q (mK_th _ _) _ _ _ _⟩
        · skip
          refine zv_fconst1 C dX11_goodShare_92 ?_
          refine zv_goto (tgt := 106) C dX11_goodShare_93 (by decide) ?_
          exact zv_fret C hr dX11_goodShare_106 ⟨by rw [dGs, if_pos (by omega)], mK_Q (mK_th _ _) _ _ _ _⟩
      · skip
        have hqb := qErr_b hU hS (i := j) (by omega) (y := y) (by omega)
        refine zv_iload_n C 3 dX11_goodShare_56 rfl rfl ?_
        refine zv_aload_n C 0 dX11_goodShare_57 rfl rfl ?_
        refine zv_iload C 4 dX11_goodShare_58 rfl ?_
        refine zv_iload_n C 1 dX11_goodShare_60 rfl rfl ?_
        refine zv_cvlD (st := [.int (zI (dGd U S y lim j : Int))]) C (c_X11_offAt hfl E (mQ (thW σ 0) U S (yF U y) j) σc U S j (y) (mQ_B (σ := thW σ 0) hB S (yF U y) j) hU (mQ_W (σ := thW σ 0) hW (yF U y) j) hS (by omega) (by omega)) mX11_offAt kX11_344 (by decide : kd 327 = 10) rfl rfl rfl ⟨rfl, rfl⟩ (show zfit (zrm 7 179) 3 (zrm 8 201) = true from rfl) (Nat.le_of_ble_eq_true rfl) dX11_goodShare_61 ⟨Nat.zero_le _, Nat.zero_le _⟩ ?_
        refine zv_iload_n C 2 dX11_goodShare_64 rfl rfl ?_
        refine zv_i2lZ C (by omega) dX11_goodShare_65 ?_
        refine zv_lc_gtZ (tgt := 74) C (by omega) (by omega) dX11_goodShare_66 dX11_goodShare_67 (by decide) (fun h66 => ?_) (fun h66 => ?_)
        · skip
          refine zv_iconst (v := zI 0) C dX11_goodShare_74 rfl ?_
          refine zv_iaddZ C dX11_goodShare_75 ?_
          refine zv_istore_n (lv' := [(3, .int (zI ((dGd U S y lim j : Int) + 0))), (0, .ref (ob E 327)), (1, .int (zI y)), (2, .int (zI lim)), (4, .int (zI (j : Int)))]) C dX11_goodShare_76 rfl (by decide) rfl ?_
          refine zv_iinc (v := (zI ((j : Int) + 1))) (lv' := [(4, .int (zI ((j : Int) + 1))), (3, .int (zI ((dGd U S y lim j : Int) + 0))), (0, .ref (ob E 327)), (1, .int (zI y)), (2, .int (zI lim))]) C 4 dX11_goodShare_77 rfl (zI_add _ _) (by decide) rfl ?_
          refine zv_goto (tgt := 45) C dX11_goodShare_80 (by decide) ?_
          have q45_87 : ((j : Int) + 1 : Int) = ((j + 1 : Nat) : Int) := by first | rfl | omega
          have q45_88 : ((dGd U S y lim j : Int) + 0 : Int) = (dGd U S y lim (j + 1) : Int) := by simp only [dGd]; first | (rw [if_pos (by omega)]; omega) | (rw [if_neg (by omega)]; omega)
          refine zv_sub (lv' := [(0, .ref (ob E 327)), (1, .int (zI y)), (2, .int (zI lim)), (3, .int (zI (dGd U S y lim (j + 1) : Int))), (4, .int (zI ((j + 1 : Nat) : Int)))]) [2, 3, 4, 1, 0] (zcons rfl (zcons rfl (zcons rfl (zcons (zqI q45_88) (zcons (zqI q45_87) rfl))))) ?_
          refine zv_eqS (τ := (mQ (thW σ 0) U S (yF U y) (j + 1))) (mQ_s _ _ _ _ _) ?_
          exact ih (j + 1) (by omega) (by omega)
        · skip
          refine zv_iconst (v := zI 1) C dX11_goodShare_70 rfl ?_
          refine zv_goto (tgt := 75) C dX11_goodShare_71 (by decide) ?_
          refine zv_iaddZ C dX11_goodShare_75 ?_
          refine zv_istore_n (lv' := [(3, .int (zI ((dGd U S y lim j : Int) + 1))), (0, .ref (ob E 327)), (1, .int (zI y)), (2, .int (zI lim)), (4, .int (zI (j : Int)))]) C dX11_goodShare_76 rfl (by decide) rfl ?_
          refine zv_iinc (v := (zI ((j : Int) + 1))) (lv' := [(4, .int (zI ((j : Int) + 1))), (3, .int (zI ((dGd U S y lim j : Int) + 1))), (0, .ref (ob E 327)), (1, .int (zI y)), (2, .int (zI lim))]) C 4 dX11_goodShare_77 rfl (zI_add _ _) (by decide) rfl ?_
          refine zv_goto (tgt := 45) C dX11_goodShare_80 (by decide) ?_
          have q45_99 : ((j : Int) + 1 : Int) = ((j + 1 : Nat) : Int) := by first | rfl | omega
          have q45_100 : ((dGd U S y lim j : Int) + 1 : Int) = (dGd U S y lim (j + 1) : Int) := by simp only [dGd]; first | (rw [if_pos (by omega)]; omega) | (rw [if_neg (by omega)]; omega)
          refine zv_sub (lv' := [(0, .ref (ob E 327)), (1, .int (zI y)), (2, .int (zI lim)), (3, .int (zI (dGd U S y lim (j + 1) : Int))), (4, .int (zI ((j + 1 : Nat) : Int)))]) [2, 3, 4, 1, 0] (zcons rfl (zcons rfl (zcons rfl (zcons (zqI q45_100) (zcons (zqI q45_99) rfl))))) ?_
          refine zv_eqS (τ := (mQ (thW σ 0) U S (yF U y) (j + 1))) (mQ_s _ _ _ _ _) ?_
          exact ih (j + 1) (by omega) (by omega)
    · skip
      refine zv_iconst (v := zI 1) C dX11_goodShare_26 rfl ?_
      refine zv_goto (tgt := 31) C dX11_goodShare_27 (by decide) ?_
      refine zv_iconst (v := zI 1) C dX11_goodShare_31 rfl ?_
      exfalso
      omega
set_option maxRecDepth 20000 in
theorem x1_X11_goodShare {l : Launch} (hfl : l.stackTraces = false) (E : zE) (σ : zS) (σc : zS) (U : zSU) (a b : Int) (hB : zRb (gI σ 328) U) (hU : zSUp σc 29 U) (har : -2147483648 ≤ a ∧ a < 2147483648) (hbr : -2147483648 ≤ b ∧ b < 2147483648) (hno : ¬ ((U.s0 ≤ a ∧ a ≤ U.s0 + 999) ∧ (0 ≤ b ∧ b ≤ 1000000000))) : zRf l E yX11_goodShare cX11_goodShare 5 (zrm 2 46) [.ref (ob E 327), .int (zI a), .int (zI b)] σ (fun r τ => r = FP.fconst0 ∧ mK σ τ 1) := by
  refine Met.ofW (cc := cX11_goodShare) (maxL := 5) (ret := (some .float)) (by decide +kernel) rfl ?_
  intro p e s m args below meth c s₁ B hml hv
  obtain ⟨rfl, hd⟩ := hv
  have C := zX_of (own := RX11) hfl B hml rfl hd rfl
  have hr := B.returns
  refine zV_go hd (Nat.le_of_ble_eq_true rfl) (lv := [(0, .ref (ob E 327)), (1, .int (zI a)), (2, .int (zI b))]) rfl ?_
  have hnb : U.nb ≤ 8 := hU.2.2.1
  have hs0 := hU.2.2.2.1
  
  refine zv_aload_n C 0 dX11_goodShare_0 rfl rfl ?_
  refine zv_iconst (v := zI 0) C dX11_goodShare_1 rfl ?_
  refine zP10_10 C (by decide : kd 327 = _) kX11_50 dX11_goodShare_2 ?_
  refine zv_eqS (τ := (thW σ 0)) (rfl) ?_
  refine zv_aload_n C 0 dX11_goodShare_5 rfl rfl ?_
  refine zv_aload_n C 0 dX11_goodShare_6 rfl rfl ?_
  refine zv_iload_n C 1 dX11_goodShare_7 rfl rfl ?_
  refine zv_cviD (st := [.ref (ob E 327)]) C (c_X11_isYear hfl E (thW σ 0) σc U (a) hB hU (by omega)) mX11_isYear kX11_327 (by decide : kd 327 = 10) rfl rfl rfl ⟨rfl, rfl⟩ (show zfit (zrm 1 25) 2 (zrm 2 46) = true from rfl) (Nat.le_of_ble_eq_true rfl) dX11_goodShare_8 ⟨Nat.zero_le _, Nat.zero_le _⟩ ?_
  refine zv_if_eqB (tgt := 26) C dX11_goodShare_11 (by decide) (fun h11 => ?_) (fun h11 => ?_)
  · skip
    refine zv_iconst (v := zI 1) C dX11_goodShare_26 rfl ?_
    refine zv_goto (tgt := 31) C dX11_goodShare_27 (by decide) ?_
    refine zv_iconst (v := zI 1) C dX11_goodShare_31 rfl ?_
    refine zv_cviD (st := []) C (c1_X11_fails hfl E (thW σ 0) 1) mX11_fails kX11_309 (by decide : kd 327 = 10) rfl rfl rfl ⟨rfl, rfl⟩ (show zfit (zrm 0 0) 3 (zrm 2 46) = true from rfl) (Nat.le_of_ble_eq_true rfl) dX11_goodShare_32 ⟨Nat.zero_le _, Nat.zero_le _⟩ ?_
    refine zv_if_eqZ (tgt := 40) C (by omega) dX11_goodShare_35 (by decide) (fun h35 => absurd h35 (by decide)) (fun h35 => ?_)
    refine zv_fconst0 C dX11_goodShare_38 ?_
    exact zv_fret C hr dX11_goodShare_39 ⟨rfl, mK_th2 _ _ _⟩
  · skip
    refine zv_iload_n C 2 dX11_goodShare_14 rfl rfl ?_
    refine zv_i2lZ C (by omega) dX11_goodShare_15 ?_
    refine zv_lconst (v := zL 0) C dX11_goodShare_16 (by decide) ?_
    refine zv_ldc2 C kX11_353 dX11_goodShare_17 ?_
    refine zv_eql (y := zL 1000000000) (by decide) ?_
    refine zv_csiD (st := [.ref (ob E 327)]) C (c_X11_inRange hfl E (thW σ 0) (b) (0) (1000000000) (by omega) (by omega) (by omega)) mX11_inRange kX11_71 rfl ⟨rfl, rfl⟩ (show zfit (zrm 0 0) 6 (zrm 2 46) = true from rfl) (Nat.le_of_ble_eq_true rfl) dX11_goodShare_20 ⟨Nat.zero_le _, Nat.zero_le _⟩ ?_
    refine zv_if_neB (tgt := 30) C dX11_goodShare_23 (by decide) (fun h23 => ?_) (fun h23 => ?_)
    · skip
      refine zv_iconst (v := zI 0) C dX11_goodShare_30 rfl ?_
      refine zv_iconst (v := zI 1) C dX11_goodShare_31 rfl ?_
      exfalso
      omega
    · skip
      refine zv_iconst (v := zI 1) C dX11_goodShare_26 rfl ?_
      refine zv_goto (tgt := 31) C dX11_goodShare_27 (by decide) ?_
      refine zv_iconst (v := zI 1) C dX11_goodShare_31 rfl ?_
      refine zv_cviD (st := []) C (c1_X11_fails hfl E (thW σ 0) 1) mX11_fails kX11_309 (by decide : kd 327 = 10) rfl rfl rfl ⟨rfl, rfl⟩ (show zfit (zrm 0 0) 3 (zrm 2 46) = true from rfl) (Nat.le_of_ble_eq_true rfl) dX11_goodShare_32 ⟨Nat.zero_le _, Nat.zero_le _⟩ ?_
      refine zv_if_eqZ (tgt := 40) C (by omega) dX11_goodShare_35 (by decide) (fun h35 => absurd h35 (by decide)) (fun h35 => ?_)
      refine zv_fconst0 C dX11_goodShare_38 ?_
      exact zv_fret C hr dX11_goodShare_39 ⟨rfl, mK_th2 _ _ _⟩
