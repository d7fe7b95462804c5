theorem zA1 {F j : Nat} (hF : F < 2 ^ 62) (hj : j < 4) : zL (F : Int) >>> ((zI (36 - 12 * (j : Int))).toInt64 &&& 63) = zL ((F / 2 ^ (36 - 12 * j) : Nat) : Int) := by
  rcases (show j = 0 ∨ j = 1 ∨ j = 2 ∨ j = 3 by omega) with h | h | h | h <;> subst h <;> exact zL_shr (by decide +kernel) hF
theorem zA2 {a : Nat} (ha : a < 2 ^ 62) : zL (a : Int) &&& zL 4095 = zL ((a % 4096 : Nat) : Int) := by
  have h := zL_and (a := a) (b := 4095) (by omega) (by decide)
  rw [show ((4095 : Nat) : Int) = 4095 from rfl] at h
  rw [h, show 4095 = 2 ^ 12 - 1 from rfl, Nat.and_two_pow_sub_one_eq_mod]
theorem arc_n {r b : Int} {F j : Nat} (hb : 0 < b) (hj : j < 4) : (r * (aF F j : Int) % b * 4096 + r * ((F / 2 ^ (36 - 12 * j) % 4096 : Nat) : Int)) % b = r * (aF F (j + 1) : Int) % b ∧ r * (aF F j : Int) / b * 4096 + (r * (aF F j : Int) % b * 4096 + r * ((F / 2 ^ (36 - 12 * j) % 4096 : Nat) : Int)) / b = r * (aF F (j + 1) : Int) / b := by
  rw [aF_s hj, Int.natCast_add, Int.natCast_mul]
  exact arc_step hb
theorem aF_z {F : Nat} (h : F < 2 ^ 48) : aF F 0 = 0 := Nat.div_eq_of_lt h
theorem aF_4 (F : Nat) : aF F 4 = F := Nat.div_one F
set_option maxRecDepth 20000 in
theorem c_X3_setTo {l : Launch} (hfl : l.stackTraces = false) (E : zE) (σ : zS) (k : Nat) (z w : Int) (hk : kd k = 3) (hz : -9223372036854775808 < z ∧ z < 9223372036854775808) (hw : 0 < w ∧ w < 9223372036854775808) : zRv l E yX3_setTo cX3_setTo 7 (zrm 1 30) [.ref (ob E k), .long (zL z), .long (zL w)] σ (fun τ => τ = sJ (sJ σ k 0 (zL (rT z w))) k 1 (zL (rB z w))) := by
  refine Met.ofW (cc := cX3_setTo) (maxL := 7) (ret := none) (by decide +kernel) rfl ?_
  intro p e s m args below meth c s₁ B hml hv
  obtain ⟨rfl, hd⟩ := hv
  have C := zX_of (own := RX3) hfl B hml rfl hd rfl
  have hr := B.returns
  refine zV_go hd (Nat.le_of_ble_eq_true rfl) (lv := [(0, .ref (ob E k)), (1, .long (zL z)), (3, .long (zL w))]) rfl ?_
  have hg := rG_pos z w
  have hg2 := rG_le (z := z) (w := w) hw.1
  have hq : 0 ≤ w / (rG z w : Int) := Int.ediv_nonneg (by omega) (by omega)
  have hq2 : w / (rG z w : Int) ≤ w := Int.ediv_le_self _ (by omega)
  refine zv_lload_n C 1 dX3_setTo_0 rfl rfl ?_
  refine zv_cslD (st := []) C (c_J9_abs_067f4 hfl E σ (z) (by omega)) mJ9_abs_067f4 kX3_18 rfl ⟨rfl, rfl⟩ (show zfit (zrm 0 0) 2 (zrm 1 30) = true from rfl) (Nat.le_of_ble_eq_true rfl) dX3_setTo_1 ⟨Nat.zero_le _, Nat.zero_le _⟩ ?_
  refine zv_lload_n C 2 dX3_setTo_4 rfl rfl ?_
  refine zv_eql (y := (zL (w.natAbs : Int))) (by rw [Int.natAbs_of_nonneg (by omega)]) ?_
  refine zv_cslD (st := []) C (c_X3_commonDivisor hfl E σ z.natAbs w.natAbs (by omega) (by omega)) mX3_commonDivisor kX3_24 rfl ⟨rfl, rfl⟩ (show zfit (zrm 0 0) 11 (zrm 1 30) = true from rfl) (Nat.le_of_ble_eq_true rfl) dX3_setTo_5 ⟨Nat.zero_le _, Nat.zero_le _⟩ ?_
  refine zv_lstore (lv' := [(5, .long (zL (rG z w : Int))), (0, .ref (ob E k)), (1, .long (zL z)), (3, .long (zL w))]) C dX3_setTo_8  (by decide) rfl ?_
  refine zv_aload_n C 1 dX3_setTo_10 rfl rfl ?_
  refine zv_lload_n C 2 dX3_setTo_11 rfl rfl ?_
  refine zv_lload C 0 dX3_setTo_12 rfl ?_
  refine zv_ldivT C (by omega) (by omega) dX3_setTo_14 ?_
  refine zv_eql (y := (zL (rT z w))) (rfl) ?_
  refine zP3_0 C hk kX3_9 dX3_setTo_15 ?_
  refine zv_aload_n C 1 dX3_setTo_18 rfl rfl ?_
  refine zv_lconst (v := zL 1) C dX3_setTo_19 (by decide) ?_
  refine zv_lload_n C 3 dX3_setTo_20 rfl rfl ?_
  refine zv_lload C 0 dX3_setTo_21 rfl ?_
  refine zv_ldivP C (by omega) (by omega) dX3_setTo_23 ?_
  refine zv_cslD (st := [.ref (ob E k)]) C (c_J9_max_f86c9 hfl E (sJ σ k 0 (zL (rT z w))) (1) (w / (rG z w : Int)) (by omega) (by omega)) mJ9_max_f86c9 kX3_28 rfl ⟨rfl, rfl⟩ (show zfit (zrm 0 0) 4 (zrm 1 30) = true from rfl) (Nat.le_of_ble_eq_true rfl) dX3_setTo_24 ⟨Nat.zero_le _, Nat.zero_le _⟩ ?_
  refine zP3_1 C hk kX3_15 dX3_setTo_27 ?_
  exact zv_vret C hr dX3_setTo_30 rfl
set_option maxRecDepth 20000 in
theorem c_X3_addFraction {l : Launch} (hfl : l.stackTraces = false) (E : zE) (σ : zS) (k : Nat) (t b z w : Int) (hk : kd k = 3) (hR : zRt σ k t b) (hz : -9223372036854775808 < (t * w + z * b) ∧ (t * w + z * b) < 9223372036854775808) (hw : 0 < (b * w) ∧ (b * w) < 9223372036854775808) : zRv l E yX3_addFraction cX3_addFraction 5 (zrm 2 56) [.ref (ob E k), .long (zL z), .long (zL w)] σ (fun τ => τ = sJ (sJ σ k 0 (zL (rT (t * w + z * b) (b * w)))) k 1 (zL (rB (t * w + z * b) (b * w)))) := by
  refine Met.ofW (cc := cX3_addFraction) (maxL := 5) (ret := none) (by decide +kernel) rfl ?_
  intro p e s m args below meth c s₁ B hml hv
  obtain ⟨rfl, hd⟩ := hv
  have C := zX_of (own := RX3) hfl B hml rfl hd rfl
  have hr := B.returns
  refine zV_go hd (Nat.le_of_ble_eq_true rfl) (lv := [(0, .ref (ob E k)), (1, .long (zL z)), (3, .long (zL w))]) rfl ?_
  refine zv_aload_n C 0 dX3_addFraction_0 rfl rfl ?_
  refine zv_aload_n C 0 dX3_addFraction_1 rfl rfl ?_
  refine zG3_0 C hk kX3_9 dX3_addFraction_2 ?_
  refine zv_eql (y := zL t) (hR.1) ?_
  refine zv_lload_n C 2 dX3_addFraction_5 rfl rfl ?_
  refine zv_lmulZ C dX3_addFraction_6 ?_
  refine zv_lload_n C 1 dX3_addFraction_7 rfl rfl ?_
  refine zv_aload_n C 0 dX3_addFraction_8 rfl rfl ?_
  refine zG3_1 C hk kX3_15 dX3_addFraction_9 ?_
  refine zv_eql (y := zL b) (hR.2) ?_
  refine zv_lmulZ C dX3_addFraction_12 ?_
  refine zv_laddZ C dX3_addFraction_13 ?_
  refine zv_aload_n C 0 dX3_addFraction_14 rfl rfl ?_
  refine zG3_1 C hk kX3_15 dX3_addFraction_15 ?_
  refine zv_eql (y := zL b) (hR.2) ?_
  refine zv_lload_n C 2 dX3_addFraction_18 rfl rfl ?_
  refine zv_lmulZ C dX3_addFraction_19 ?_
  refine zv_cvvD (st := []) C (c_X3_setTo hfl E σ k _ _ hk hz hw) mX3_setTo kX3_31 hk rfl rfl rfl ⟨rfl, rfl⟩ (show zfit (zrm 1 30) 7 (zrm 2 56) = true from rfl) (Nat.le_of_ble_eq_true rfl) dX3_addFraction_20 ⟨Nat.zero_le _, Nat.zero_le _⟩ ?_
  exact zv_vret C hr dX3_addFraction_23 rfl
set_option maxRecDepth 20000 in
theorem c_X3_copyFrom {l : Launch} (hfl : l.stackTraces = false) (E : zE) (σ : zS) (k b : Nat) (hk : kd k = 3) (hb : kd b = 3) : zRv l E yX3_copyFrom cX3_copyFrom 2 (zrm 0 0) [.ref (ob E k), .ref (ob E b)] σ (fun τ => τ = sJ (sJ σ k 0 (gJ σ b 0)) k 1 (gJ σ b 1)) := by
  refine Met.ofW (cc := cX3_copyFrom) (maxL := 2) (ret := none) (by decide +kernel) rfl ?_
  intro p e s m args below meth c s₁ B hml hv
  obtain ⟨rfl, hd⟩ := hv
  have C := zX_of (own := RX3) hfl B hml rfl hd rfl
  have hr := B.returns
  refine zV_go hd (Nat.le_of_ble_eq_true rfl) (lv := [(0, .ref (ob E k)), (1, .ref (ob E b))]) rfl ?_
  refine zv_aload_n C 0 dX3_copyFrom_0 rfl rfl ?_
  refine zv_aload_n C 1 dX3_copyFrom_1 rfl rfl ?_
  refine zG3_0 C hb kX3_9 dX3_copyFrom_2 ?_
  refine zP3_0 C hk kX3_9 dX3_copyFrom_5 ?_
  refine zv_aload_n C 0 dX3_copyFrom_8 rfl rfl ?_
  refine zv_aload_n C 1 dX3_copyFrom_9 rfl rfl ?_
  refine zG3_1 C hb kX3_15 dX3_copyFrom_10 ?_
  refine zv_eql (y := (gJ σ b 1)) (by rw [gJ_sJ, if_neg (by omega)]) ?_
  refine zP3_1 C hk kX3_15 dX3_copyFrom_13 ?_
  exact zv_vret C hr dX3_copyFrom_16 rfl
