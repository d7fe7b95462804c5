set_option maxRecDepth 20000 in
theorem c_X3_arcBy {l : Launch} (hfl : l.stackTraces = false) (E : zE) (σ : zS) (k : Nat) (t b : Int) (f F : Nat) (hF : F = f * 1296000) (hk : kd k = 3) (hR : zRt σ k t b) (ht : -9223372036854775808 < t ∧ t < 9223372036854775808) (hb : 0 < b ∧ b < 1125899906842624) (hf : f ≤ 200000000) : zRl l E yX3_arcBy cX3_arcBy 14 (zrm 1 21) [.ref (ob E k), .int (zI (f : Int))] σ (fun r τ => r = zL (rArc t b (F : Int)) ∧ τ = σ) := by
  refine Met.ofW (cc := cX3_arcBy) (maxL := 14) (ret := (some .long)) (by decide +kernel) rfl ?_
  intro p e s m args below meth c s₁ B hml hv
  obtain ⟨rfl, hd⟩ := hv
  have C := zX_of (own := RX3) hfl B hml rfl hd rfl
  have hr := B.returns
  refine zV_go hd (Nat.le_of_ble_eq_true rfl) (lv := [(0, .ref (ob E k)), (1, .int (zI (f : Int)))]) rfl ?_
  have hm1 : 0 ≤ (t.natAbs : Int) % b := Int.emod_nonneg _ (by omega)
  have hm2 : (t.natAbs : Int) % b < b := Int.emod_lt_of_pos _ (by omega)
  refine zv_aload_n C 0 dX3_arcBy_0 rfl rfl ?_
  refine zG3_0 C hk kX3_9 dX3_arcBy_1 ?_
  refine zv_eql (y := zL t) (hR.1) ?_
  refine zv_cslD (st := []) C (c_J9_abs_067f4 hfl E σ (t) (by omega)) mJ9_abs_067f4 kX3_18 rfl ⟨rfl, rfl⟩ (show zfit (zrm 0 0) 2 (zrm 1 21) = true from rfl) (Nat.le_of_ble_eq_true rfl) dX3_arcBy_4 ⟨Nat.zero_le _, Nat.zero_le _⟩ ?_
  refine zv_lstore_n (lv' := [(2, .long (zL ((t).natAbs : Int))), (0, .ref (ob E k)), (1, .int (zI (f : Int)))]) C dX3_arcBy_7 rfl (by decide) rfl ?_
  refine zv_lload_n C 0 dX3_arcBy_8 rfl rfl ?_
  refine zv_aload_n C 1 dX3_arcBy_9 rfl rfl ?_
  refine zG3_1 C hk kX3_15 dX3_arcBy_10 ?_
  refine zv_eql (y := zL b) (hR.2) ?_
  refine zv_lremP C (by omega) (by omega) dX3_arcBy_13 ?_
  refine zv_lstore (lv' := [(4, .long (zL (((t).natAbs : Int) % b))), (2, .long (zL ((t).natAbs : Int))), (0, .ref (ob E k)), (1, .int (zI (f : Int)))]) C dX3_arcBy_14  (by decide) rfl ?_
  refine zv_iload_n C 3 dX3_arcBy_16 rfl rfl ?_
  refine zv_i2lZ C (by omega) dX3_arcBy_17 ?_
  refine zv_ldc2 C kX3_35 dX3_arcBy_18 ?_
  refine zv_eql (y := zL 1296000) (by decide) ?_
  refine zv_lmulZ C dX3_arcBy_21 ?_
  refine zv_eql (y := (zL (F : Int))) (congrArg zL (show (f : Int) * 1296000 = (F : Int) by omega)) ?_
  refine zv_lstore (lv' := [(6, .long (zL (F : Int))), (4, .long (zL (((t).natAbs : Int) % b))), (2, .long (zL ((t).natAbs : Int))), (0, .ref (ob E k)), (1, .int (zI (f : Int)))]) C dX3_arcBy_22  (by decide) rfl ?_
  refine zv_lconst (v := zL 0) C dX3_arcBy_24 (by decide) ?_
  refine zv_lstore (lv' := [(8, .long (zL 0)), (6, .long (zL (F : Int))), (4, .long (zL (((t).natAbs : Int) % b))), (2, .long (zL ((t).natAbs : Int))), (0, .ref (ob E k)), (1, .int (zI (f : Int)))]) C dX3_arcBy_25  (by decide) rfl ?_
  refine zv_lconst (v := zL 0) C dX3_arcBy_27 (by decide) ?_
  refine zv_lstore (lv' := [(10, .long (zL 0)), (8, .long (zL 0)), (6, .long (zL (F : Int))), (4, .long (zL (((t).natAbs : Int) % b))), (2, .long (zL ((t).natAbs : Int))), (0, .ref (ob E k)), (1, .int (zI (f : Int)))]) C dX3_arcBy_28  (by decide) rfl ?_
  refine zv_bipush (v := zI 36) C dX3_arcBy_30 (by decide) ?_
  refine zv_istore (lv' := [(12, .int (zI 36)), (10, .long (zL 0)), (8, .long (zL 0)), (6, .long (zL (F : Int))), (4, .long (zL (((t).natAbs : Int) % b))), (2, .long (zL ((t).natAbs : Int))), (0, .ref (ob E k)), (1, .int (zI (f : Int)))]) C dX3_arcBy_32  (by decide) rfl ?_
  have q34_26 : (36 : Int) = 36 - 12 * (0 : Int) := by first | rfl | omega
  have q34_27 : (0 : Int) = (t.natAbs : Int) % b * (aF F 0 : Int) % b := by rw [aF_z (by omega)]; simp
  have q34_28 : (0 : Int) = (t.natAbs : Int) % b * (aF F 0 : Int) / b := by rw [aF_z (by omega)]; simp
  have q34_29 : (((t).natAbs : Int) % b : Int) = (t.natAbs : Int) % b := by first | rfl | omega
  have q34_30 : (((t).natAbs : Int) : Int) = (t.natAbs : Int) := by first | rfl | omega
  refine zv_sub (lv' := [(0, .ref (ob E k)), (1, .int (zI (f : Int))), (2, .long (zL (t.natAbs : Int))), (4, .long (zL ((t.natAbs : Int) % b))), (6, .long (zL (F : Int))), (8, .long (zL ((t.natAbs : Int) % b * (aF F 0 : Int) / b))), (10, .long (zL ((t.natAbs : Int) % b * (aF F 0 : Int) % b))), (12, .int (zI (36 - 12 * (0 : Int))))]) [6, 7, 5, 4, 3, 2, 1, 0] (zcons rfl (zcons rfl (zcons (zqL q34_30) (zcons (zqL q34_29) (zcons rfl (zcons (zqL q34_28) (zcons (zqL q34_27) (zcons (zqI q34_26) rfl)))))))) ?_
  refine zv_while (α := Nat) (fun v => 4 - v) (fun v => v ≤ 4) (fun v => σ) (fun v => [(0, .ref (ob E k)), (1, .int (zI (f : Int))), (2, .long (zL (t.natAbs : Int))), (4, .long (zL ((t.natAbs : Int) % b))), (6, .long (zL (F : Int))), (8, .long (zL ((t.natAbs : Int) % b * (aF F v : Int) / b))), (10, .long (zL ((t.natAbs : Int) % b * (aF F v : Int) % b))), (12, .int (zI (36 - 12 * (v : Int))))]) (fun v => []) (fun j hI ih => ?_) (0) (by omega)
  refine zv_iload C 7 dX3_arcBy_34 rfl ?_
  refine zv_if_ltZ (tgt := 91) C (by omega) dX3_arcBy_36 (by decide) (fun h36 => ?_) (fun h36 => ?_)
  · skip
    have hj4 : aF F j = F := by rw [show j = 4 by omega, aF_4]
    refine zv_lload_n C 2 dX3_arcBy_91 rfl rfl ?_
    refine zv_aload_n C 0 dX3_arcBy_92 rfl rfl ?_
    refine zG3_1 C hk kX3_15 dX3_arcBy_93 ?_
    refine zv_eql (y := zL b) (hR.2) ?_
    refine zv_ldivP C (by omega) (by omega) dX3_arcBy_96 ?_
    refine zv_lload C 4 dX3_arcBy_97 rfl ?_
    refine zv_lmulZ C dX3_arcBy_99 ?_
    refine zv_lload C 5 dX3_arcBy_100 rfl ?_
    refine zv_laddZ C dX3_arcBy_102 ?_
    refine zv_lstore (lv' := [(12, .long (zL ((((t.natAbs : Int) / b) * (F : Int)) + ((t.natAbs : Int) % b * (aF F j : Int) / b)))), (0, .ref (ob E k)), (1, .int (zI (f : Int))), (2, .long (zL (t.natAbs : Int))), (4, .long (zL ((t.natAbs : Int) % b))), (6, .long (zL (F : Int))), (8, .long (zL ((t.natAbs : Int) % b * (aF F j : Int) / b))), (10, .long (zL ((t.natAbs : Int) % b * (aF F j : Int) % b)))]) C dX3_arcBy_103  (by decide) rfl ?_
    refine zv_aload_n C 1 dX3_arcBy_105 rfl rfl ?_
    refine zG3_0 C hk kX3_9 dX3_arcBy_106 ?_
    refine zv_eql (y := zL t) (hR.1) ?_
    refine zv_lconst (v := zL 0) C dX3_arcBy_109 (by decide) ?_
    refine zv_lc_geZ (tgt := 120) C (by omega) (by omega) dX3_arcBy_110 dX3_arcBy_111 (by decide) (fun h110 => ?_) (fun h110 => ?_)
    · skip
      refine zv_lload C 0 dX3_arcBy_120 rfl ?_
      exact zv_lret C hr dX3_arcBy_122 ⟨by refine congrArg zL ?_; rw [hj4]; unfold rArc; first | rw [if_pos (by omega), arc_split hb.1] | rw [if_neg (by omega), arc_split hb.1], rfl⟩
    · skip
      refine zv_lload C 0 dX3_arcBy_114 rfl ?_
      refine zv_lnegZ C dX3_arcBy_116 ?_
      refine zv_goto (tgt := 122) C dX3_arcBy_117 (by decide) ?_
      exact zv_lret C hr dX3_arcBy_122 ⟨by refine congrArg zL ?_; rw [hj4]; unfold rArc; first | rw [if_pos (by omega), arc_split hb.1] | rw [if_neg (by omega), arc_split hb.1], rfl⟩
  · skip
    have hj4 : j < 4 := by omega
    have hx1 : 0 ≤ (t.natAbs : Int) % b * (aF F j : Int) % b := Int.emod_nonneg _ (by omega)
    have hx2 : (t.natAbs : Int) % b * (aF F j : Int) % b < b := Int.emod_lt_of_pos _ (by omega)
    have hg1 : 0 ≤ (t.natAbs : Int) % b * ((F / 2 ^ (36 - 12 * j) % 4096 : Nat) : Int) := Int.mul_nonneg hm1 (by omega)
    have hg2 : (t.natAbs : Int) % b * ((F / 2 ^ (36 - 12 * j) % 4096 : Nat) : Int) ≤ (t.natAbs : Int) % b * 4095 := Int.mul_le_mul_of_nonneg_left (by omega) hm1
    refine zv_lload C 6 dX3_arcBy_39 rfl ?_
    refine zv_ldc2 C kX3_37 dX3_arcBy_41 ?_
    refine zv_eql (y := zL 4096) (by decide) ?_
    refine zv_lmulZ C dX3_arcBy_44 ?_
    refine zv_lload C 3 dX3_arcBy_45 rfl ?_
    refine zv_lload C 4 dX3_arcBy_47 rfl ?_
    refine zv_iload C 7 dX3_arcBy_49 rfl ?_
    refine zv_lshr C dX3_arcBy_51 ?_
    refine zv_eql (y := (zL ((F / 2 ^ (36 - 12 * j) : Nat) : Int))) (zA1 (by omega) (by omega)) ?_
    refine zv_ldc2 C kX3_39 dX3_arcBy_52 ?_
    refine zv_eql (y := zL 4095) (by decide) ?_
    refine zv_land C dX3_arcBy_55 ?_
    refine zv_eql (y := (zL ((F / 2 ^ (36 - 12 * j) % 4096 : Nat) : Int))) (zA2 (Nat.lt_of_le_of_lt (Nat.div_le_self _ _) (by omega))) ?_
    refine zv_lmulZ C dX3_arcBy_56 ?_
    refine zv_laddZ C dX3_arcBy_57 ?_
    refine zv_lstore (lv' := [(10, .long (zL ((((t.natAbs : Int) % b * (aF F j : Int) % b) * 4096) + (((t.natAbs : Int) % b) * ((F / 2 ^ (36 - 12 * j) % 4096 : Nat) : Int))))), (0, .ref (ob E k)), (1, .int (zI (f : Int))), (2, .long (zL (t.natAbs : Int))), (4, .long (zL ((t.natAbs : Int) % b))), (6, .long (zL (F : Int))), (8, .long (zL ((t.natAbs : Int) % b * (aF F j : Int) / b))), (12, .int (zI (36 - 12 * (j : Int))))]) C dX3_arcBy_58  (by decide) rfl ?_
    refine zv_lload C 6 dX3_arcBy_60 rfl ?_
    refine zv_ldc2 C kX3_37 dX3_arcBy_62 ?_
    refine zv_eql (y := zL 4096) (by decide) ?_
    refine zv_lmulZ C dX3_arcBy_65 ?_
    refine zv_lload C 0 dX3_arcBy_66 rfl ?_
    refine zv_aload_n C 1 dX3_arcBy_68 rfl rfl ?_
    refine zG3_1 C hk kX3_15 dX3_arcBy_69 ?_
    refine zv_eql (y := zL b) (hR.2) ?_
    refine zv_ldivP C (by omega) (by omega) dX3_arcBy_72 ?_
    refine zv_laddZ C dX3_arcBy_73 ?_
    refine zv_lstore (lv' := [(8, .long (zL ((((t.natAbs : Int) % b * (aF F j : Int) / b) * 4096) + (((((t.natAbs : Int) % b * (aF F j : Int) % b) * 4096) + (((t.natAbs : Int) % b) * ((F / 2 ^ (36 - 12 * j) % 4096 : Nat) : Int))) / b)))), (10, .long (zL ((((t.natAbs : Int) % b * (aF F j : Int) % b) * 4096) + (((t.natAbs : Int) % b) * ((F / 2 ^ (36 - 12 * j) % 4096 : Nat) : Int))))), (0, .ref (ob E k)), (1, .int (zI (f : Int))), (2, .long (zL (t.natAbs : Int))), (4, .long (zL ((t.natAbs : Int) % b))), (6, .long (zL (F : Int))), (12, .int (zI (36 - 12 * (j : Int))))]) C dX3_arcBy_74  (by decide) rfl ?_
    refine zv_lload C 1 dX3_arcBy_76 rfl ?_
    refine zv_aload_n C 2 dX3_arcBy_78 rfl rfl ?_
    refine zG3_1 C hk kX3_15 dX3_arcBy_79 ?_
    refine zv_eql (y := zL b) (hR.2) ?_
    refine zv_lremP C (by omega) (by omega) dX3_arcBy_82 ?_
    refine zv_lstore (lv' := [(10, .long (zL (((((t.natAbs : Int) % b * (aF F j : Int) % b) * 4096) + (((t.natAbs : Int) % b) * ((F / 2 ^ (36 - 12 * j) % 4096 : Nat) : Int))) % b))), (8, .long (zL ((((t.natAbs : Int) % b * (aF F j : Int) / b) * 4096) + (((((t.natAbs : Int) % b * (aF F j : Int) % b) * 4096) + (((t.natAbs : Int) % b) * ((F / 2 ^ (36 - 12 * j) % 4096 : Nat) : Int))) / b)))), (0, .ref (ob E k)), (1, .int (zI (f : Int))), (2, .long (zL (t.natAbs : Int))), (4, .long (zL ((t.natAbs : Int) % b))), (6, .long (zL (F : Int))), (12, .int (zI (36 - 12 * (j : Int))))]) C dX3_arcBy_83  (by decide) rfl ?_
    refine zv_iinc (v := (zI (36 - 12 * (j : Int) + (-12)))) (lv' := [(12, .int (zI (36 - 12 * (j : Int) + (-12)))), (10, .long (zL (((((t.natAbs : Int) % b * (aF F j : Int) % b) * 4096) + (((t.natAbs : Int) % b) * ((F / 2 ^ (36 - 12 * j) % 4096 : Nat) : Int))) % b))), (8, .long (zL ((((t.natAbs : Int) % b * (aF F j : Int) / b) * 4096) + (((((t.natAbs : Int) % b * (aF F j : Int) % b) * 4096) + (((t.natAbs : Int) % b) * ((F / 2 ^ (36 - 12 * j) % 4096 : Nat) : Int))) / b)))), (0, .ref (ob E k)), (1, .int (zI (f : Int))), (2, .long (zL (t.natAbs : Int))), (4, .long (zL ((t.natAbs : Int) % b))), (6, .long (zL (F : Int)))]) C 7 dX3_arcBy_85 rfl (zI_add _ _) (by decide) rfl ?_
    refine zv_goto (tgt := 34) C dX3_arcBy_88 (by decide) ?_
    have q34_101 : (36 - 12 * (j : Int) + (-12) : Int) = 36 - 12 * ((j + 1 : Nat) : Int) := by omega
    have q34_102 : (((((t.natAbs : Int) % b * (aF F j : Int) % b) * 4096) + (((t.natAbs : Int) % b) * ((F / 2 ^ (36 - 12 * j) % 4096 : Nat) : Int))) % b : Int) = (t.natAbs : Int) % b * (aF F (j + 1) : Int) % b := by exact (arc_n hb.1 (by omega)).1
    have q34_103 : ((((t.natAbs : Int) % b * (aF F j : Int) / b) * 4096) + (((((t.natAbs : Int) % b * (aF F j : Int) % b) * 4096) + (((t.natAbs : Int) % b) * ((F / 2 ^ (36 - 12 * j) % 4096 : Nat) : Int))) / b) : Int) = (t.natAbs : Int) % b * (aF F (j + 1) : Int) / b := by exact (arc_n hb.1 (by omega)).2
    refine zv_sub (lv' := [(0, .ref (ob E k)), (1, .int (zI (f : Int))), (2, .long (zL (t.natAbs : Int))), (4, .long (zL ((t.natAbs : Int) % b))), (6, .long (zL (F : Int))), (8, .long (zL ((t.natAbs : Int) % b * (aF F (j + 1) : Int) / b))), (10, .long (zL ((t.natAbs : Int) % b * (aF F (j + 1) : Int) % b))), (12, .int (zI (36 - 12 * ((j + 1 : Nat) : Int))))]) [3, 4, 5, 6, 7, 2, 1, 0] (zcons rfl (zcons rfl (zcons rfl (zcons rfl (zcons rfl (zcons (zqL q34_103) (zcons (zqL q34_102) (zcons (zqI q34_101) rfl)))))))) ?_
    exact ih (j + 1) (by omega) (by omega)
set_option maxRecDepth 20000 in
theorem c_X3_wholeTurnsBy {l : Launch} (hfl : l.stackTraces = false) (E : zE) (σ : zS) (k : Nat) (t b f : Int) (hk : kd k = 3) (hR : zRt σ k t b) (hb : 0 < b ∧ b < 9223372036854775808) (hf : -2147483648 ≤ f ∧ f < 2147483648) (hm : -9223372036854775808 < t * f ∧ t * f < 9223372036854775808) : zRl l E yX3_wholeTurnsBy cX3_wholeTurnsBy 2 (zrm 1 25) [.ref (ob E k), .int (zI f)] σ (fun r τ => r = zL (t * f / b) ∧ τ = σ) := by
  refine Met.ofW (cc := cX3_wholeTurnsBy) (maxL := 2) (ret := (some .long)) (by decide +kernel) rfl ?_
  intro p e s m args below meth c s₁ B hml hv
  obtain ⟨rfl, hd⟩ := hv
  have C := zX_of (own := RX3) hfl B hml rfl hd rfl
  have hr := B.returns
  refine zV_go hd (Nat.le_of_ble_eq_true rfl) (lv := [(0, .ref (ob E k)), (1, .int (zI f))]) rfl ?_
  refine zv_aload_n C 0 dX3_wholeTurnsBy_0 rfl rfl ?_
  refine zG3_0 C hk kX3_9 dX3_wholeTurnsBy_1 ?_
  refine zv_eql (y := zL t) (hR.1) ?_
  refine zv_iload_n C 1 dX3_wholeTurnsBy_4 rfl rfl ?_
  refine zv_i2lZ C (by omega) dX3_wholeTurnsBy_5 ?_
  refine zv_lmulZ C dX3_wholeTurnsBy_6 ?_
  refine zv_aload_n C 0 dX3_wholeTurnsBy_7 rfl rfl ?_
  refine zG3_1 C hk kX3_15 dX3_wholeTurnsBy_8 ?_
  refine zv_eql (y := zL b) (hR.2) ?_
  refine zv_cslD (st := []) C (c_J9_floorDiv_f86c9 hfl E σ (t * f) (b) (by omega) (by omega)) mJ9_floorDiv_f86c9 kX3_41 rfl ⟨rfl, rfl⟩ (show zfit (zrm 0 0) 6 (zrm 1 25) = true from rfl) (Nat.le_of_ble_eq_true rfl) dX3_wholeTurnsBy_11 ⟨Nat.zero_le _, Nat.zero_le _⟩ ?_
  exact zv_lret C hr dX3_wholeTurnsBy_14 ⟨rfl, rfl⟩
set_option maxRecDepth 20000 in
theorem c_X3_angleBy {l : Launch} (hfl : l.stackTraces = false) (E : zE) (σ : zS) (k : Nat) (t b f : Int) (hk : kd k = 3) (hR : zRt σ k t b) (hb : 0 < b ∧ b < 7000000000000) (hf : -2147483648 ≤ f ∧ f < 2147483648) (hm : -9223372036854775808 < t * f ∧ t * f < 9223372036854775808) : zRi l E yX3_angleBy cX3_angleBy 2 .int (zrm 1 25) [.ref (ob E k), .int (zI f)] σ (fun r τ => r = zI (t * f % b * 1296000 / b) ∧ τ = σ) := by
  refine Met.ofW (cc := cX3_angleBy) (maxL := 2) (ret := (some .int)) (by decide +kernel) rfl ?_
  intro p e s m args below meth c s₁ B hml hv
  obtain ⟨rfl, hd⟩ := hv
  have C := zX_of (own := RX3) hfl B hml rfl hd rfl
  have hr := B.returns
  refine zV_go hd (Nat.le_of_ble_eq_true rfl) (lv := [(0, .ref (ob E k)), (1, .int (zI f))]) rfl ?_
  have hm1 : 0 ≤ t * f % b := Int.emod_nonneg _ (by omega)
  have hm2 : t * f % b < b := Int.emod_lt_of_pos _ (by omega)
  refine zv_aload_n C 0 dX3_angleBy_0 rfl rfl ?_
  refine zG3_0 C hk kX3_9 dX3_angleBy_1 ?_
  refine zv_eql (y := zL t) (hR.1) ?_
  refine zv_iload_n C 1 dX3_angleBy_4 rfl rfl ?_
  refine zv_i2lZ C (by omega) dX3_angleBy_5 ?_
  refine zv_lmulZ C dX3_angleBy_6 ?_
  refine zv_aload_n C 0 dX3_angleBy_7 rfl rfl ?_
  refine zG3_1 C hk kX3_15 dX3_angleBy_8 ?_
  refine zv_eql (y := zL b) (hR.2) ?_
  refine zv_cslD (st := []) C (c_J9_floorMod_f86c9 hfl E σ (t * f) (b) (by omega) (by omega)) mJ9_floorMod_f86c9 kX3_44 rfl ⟨rfl, rfl⟩ (show zfit (zrm 0 0) 6 (zrm 1 25) = true from rfl) (Nat.le_of_ble_eq_true rfl) dX3_angleBy_11 ⟨Nat.zero_le _, Nat.zero_le _⟩ ?_
  refine zv_ldc2 C kX3_35 dX3_angleBy_14 ?_
  refine zv_eql (y := zL 1296000) (by decide) ?_
  refine zv_lmulZ C dX3_angleBy_17 ?_
  refine zv_aload_n C 0 dX3_angleBy_18 rfl rfl ?_
  refine zG3_1 C hk kX3_15 dX3_angleBy_19 ?_
  refine zv_eql (y := zL b) (hR.2) ?_
  refine zv_ldivP C (by omega) (by omega) dX3_angleBy_22 ?_
  refine zv_l2iZ C dX3_angleBy_23 ?_
  exact zv_iret C hr rfl dX3_angleBy_24 ⟨rfl, rfl⟩
theorem ang_lt {x b : Int} (hb : 0 < b) : 0 ≤ x % b * 1296000 / b ∧ x % b * 1296000 / b < 1296000 := by
  have h1 : 0 ≤ x % b := Int.emod_nonneg _ (by omega)
  have h2 : x % b < b := Int.emod_lt_of_pos _ hb
  exact ⟨Int.ediv_nonneg (by omega) (by omega), Int.ediv_lt_of_lt_mul hb (by rw [Int.mul_comm 1296000]; omega)⟩
set_option maxRecDepth 20000 in
theorem c_X3_drumBy {l : Launch} (hfl : l.stackTraces = false) (E : zE) (σ : zS) (k : Nat) (t b f : Int) (hk : kd k = 3) (hR : zRt σ k t b) (hb : 0 < b ∧ b < 7000000000000) (hf : -2147483648 ≤ f ∧ f < 2147483648) (hm : -9223372036854775808 < t * f ∧ t * f < 9223372036854775808) : zRl l E yX3_drumBy cX3_drumBy 2 (zrm 2 46) [.ref (ob E k), .int (zI f)] σ (fun r τ => r = zL (t * f / b * 1296000 + t * f % b * 1296000 / b) ∧ τ = σ) := by
  refine Met.ofW (cc := cX3_drumBy) (maxL := 2) (ret := (some .long)) (by decide +kernel) rfl ?_
  intro p e s m args below meth c s₁ B hml hv
  obtain ⟨rfl, hd⟩ := hv
  have C := zX_of (own := RX3) hfl B hml rfl hd rfl
  have hr := B.returns
  refine zV_go hd (Nat.le_of_ble_eq_true rfl) (lv := [(0, .ref (ob E k)), (1, .int (zI f))]) rfl ?_
  have hm1 := ang_lt (x := t * f) hb.1
  refine zv_aload_n C 0 dX3_drumBy_0 rfl rfl ?_
  refine zv_iload_n C 1 dX3_drumBy_1 rfl rfl ?_
  refine zv_cvlD (st := []) C (c_X3_wholeTurnsBy hfl E σ k t b f hk hR (by omega) hf hm) mX3_wholeTurnsBy kX3_47 hk rfl rfl rfl ⟨rfl, rfl⟩ (show zfit (zrm 1 25) 2 (zrm 2 46) = true from rfl) (Nat.le_of_ble_eq_true rfl) dX3_drumBy_2 ⟨Nat.zero_le _, Nat.zero_le _⟩ ?_
  refine zv_ldc2 C kX3_35 dX3_drumBy_5 ?_
  refine zv_eql (y := zL 1296000) (by decide) ?_
  refine zv_lmulZ C dX3_drumBy_8 ?_
  refine zv_aload_n C 0 dX3_drumBy_9 rfl rfl ?_
  refine zv_iload_n C 1 dX3_drumBy_10 rfl rfl ?_
  refine zv_cviD (st := [.long (zL ((t * f / b) * 1296000))]) C (c_X3_angleBy hfl E σ k t b f hk hR hb hf hm) mX3_angleBy kX3_51 hk rfl rfl rfl ⟨rfl, rfl⟩ (show zfit (zrm 1 25) 2 (zrm 2 46) = true from rfl) (Nat.le_of_ble_eq_true rfl) dX3_drumBy_11 ⟨Nat.zero_le _, Nat.zero_le _⟩ ?_
  refine zv_i2lZ C (by omega) dX3_drumBy_14 ?_
  refine zv_laddZ C dX3_drumBy_15 ?_
  exact zv_lret C hr dX3_drumBy_16 ⟨rfl, rfl⟩
