/-- the numerator nearest to q times 100 / p -/
def nN (p q : Nat) : Nat := if 100 * q % p ≤ p - 100 * q % p then 100 * q / p else 100 * q / p + 1
/-- how far off p · numerator is -/
def nD (p q : Nat) : Nat := if 100 * q % p ≤ p - 100 * q % p then 100 * q % p else p - 100 * q % p
/-- the best denominator up to j -/
def nB (p : Nat) : Nat → Nat
  | 0 => 1
  | j + 1 => if nD p (j + 1) * nB p j < nD p (nB p j) * (j + 1) then j + 1 else nB p j
theorem nB_b (p : Nat) : ∀ j, 1 ≤ nB p j ∧ nB p j ≤ max 1 j := by
  intro j
  induction j with
  | zero => exact ⟨Nat.le_refl _, Nat.le_refl _⟩
  | succ j ih => unfold nB; split <;> omega
theorem nB_1 (p : Nat) : nB p 1 = 1 := by unfold nB; split <;> rfl
theorem nD_b {p : Nat} (hp : 0 < p) (q : Nat) : nD p q ≤ p := by
  have := Nat.mod_lt (100 * q) hp
  unfold nD
  split <;> omega
theorem nD_e {p q : Nat} (hp : 0 < p) : (100 * (q : Int) - (nN p q : Int) * (p : Int)).natAbs = nD p q := by
  have h1 := Nat.mod_add_div (100 * q) p
  have h2 := Nat.mod_lt (100 * q) hp
  have h3 : 100 * (q : Int) = ((100 * q % p : Nat) : Int) + ((100 * q / p : Nat) : Int) * (p : Int) := by
    rw [← Int.natCast_mul, ← Int.natCast_add, Nat.mul_comm (100 * q / p), h1]
    rfl
  unfold nD nN
  split
  · rw [h3]; omega
  · rw [h3, Int.natCast_add, Int.add_mul]; omega
set_option maxRecDepth 20000 in
theorem c_X0_nearestNumerator {l : Launch} (hfl : l.stackTraces = false) (E : zE) (σ : zS) (pd q : Nat) (hp : 100 ≤ pd ∧ pd ≤ 10000000) (hq : 1 ≤ q ∧ q ≤ 10000) : zRi l E yX0_nearestNumerator cX0_nearestNumerator 5 .int (zrm 0 0) [.int (zI (pd : Int)), .int (zI (q : Int))] σ (fun r τ => r = zI (nN pd q : Int) ∧ τ = σ) := by
  refine Met.ofW (cc := cX0_nearestNumerator) (maxL := 5) (ret := (some .int)) (by decide +kernel) rfl ?_
  intro p e s m args below meth c s₁ B hml hv
  obtain ⟨rfl, hd⟩ := hv
  have C := zX_of (own := RX0) hfl B hml rfl hd rfl
  have hr := B.returns
  refine zV_go hd (Nat.le_of_ble_eq_true rfl) (lv := [(0, .int (zI (pd : Int))), (1, .int (zI (q : Int)))]) rfl ?_
  have h2 := Nat.mod_lt (100 * q) (show 0 < pd by omega)
  have h1 := Nat.mod_add_div (100 * q) pd
  have h4 := Nat.div_le_self (100 * q) pd
  have h3 : 100 * (q : Int) - ((100 * q / pd : Nat) : Int) * (pd : Int) = ((100 * q % pd : Nat) : Int) := by
    rw [← Int.natCast_mul, Nat.mul_comm (100 * q / pd)]; omega
  have h5 : 0 ≤ ((100 * q / pd : Nat) : Int) := Int.natCast_nonneg _
  refine zv_iload_n C 0 dX0_nearestNumerator_0 rfl rfl ?_
  refine zv_if_leZ (tgt := 13) C (by omega) dX0_nearestNumerator_1 (by decide) (fun h1 => ?_) (fun h1 => ?_)
  · exfalso
    omega
  · skip
    refine zv_bipush (v := zI 100) C dX0_nearestNumerator_4 (by decide) ?_
    refine zv_iload_n C 1 dX0_nearestNumerator_6 rfl rfl ?_
    refine zv_imulZ C dX0_nearestNumerator_7 ?_
    refine zv_iload_n C 0 dX0_nearestNumerator_8 rfl rfl ?_
    refine zv_idivP C (by omega) (by omega) dX0_nearestNumerator_9 ?_
    refine zv_eqi (y := (zI ((100 * q / pd : Nat) : Int))) (by rw [Int.natCast_ediv, Int.natCast_mul]; rfl) ?_
    refine zv_goto (tgt := 14) C dX0_nearestNumerator_10 (by decide) ?_
    refine zv_istore_n (lv' := [(2, .int (zI ((100 * q / pd : Nat) : Int))), (0, .int (zI (pd : Int))), (1, .int (zI (q : Int)))]) C dX0_nearestNumerator_14 rfl (by decide) rfl ?_
    refine zv_ldc2 C kX0_76 dX0_nearestNumerator_15 ?_
    refine zv_eql (y := zL 100) (by decide) ?_
    refine zv_iload_n C 2 dX0_nearestNumerator_18 rfl rfl ?_
    refine zv_i2lZ C (by omega) dX0_nearestNumerator_19 ?_
    refine zv_lmulZ C dX0_nearestNumerator_20 ?_
    refine zv_iload_n C 0 dX0_nearestNumerator_21 rfl rfl ?_
    refine zv_i2lZ C (by omega) dX0_nearestNumerator_22 ?_
    refine zv_iload_n C 1 dX0_nearestNumerator_23 rfl rfl ?_
    refine zv_i2lZ C (by omega) dX0_nearestNumerator_24 ?_
    refine zv_lmulZ C dX0_nearestNumerator_25 ?_
    refine zv_lsubZ C dX0_nearestNumerator_26 ?_
    refine zv_eql (y := (zL ((100 * q % pd : Nat) : Int))) (congrArg zL h3) ?_
    refine zv_lstore_n (lv' := [(3, .long (zL ((100 * q % pd : Nat) : Int))), (2, .int (zI ((100 * q / pd : Nat) : Int))), (0, .int (zI (pd : Int))), (1, .int (zI (q : Int)))]) C dX0_nearestNumerator_27 rfl (by decide) rfl ?_
    refine zv_lload_n C 0 dX0_nearestNumerator_28 rfl rfl ?_
    refine zv_iload_n C 2 dX0_nearestNumerator_29 rfl rfl ?_
    refine zv_i2lZ C (by omega) dX0_nearestNumerator_30 ?_
    refine zv_lload_n C 0 dX0_nearestNumerator_31 rfl rfl ?_
    refine zv_lsubZ C dX0_nearestNumerator_32 ?_
    refine zv_lc_gtZ (tgt := 41) C (by omega) (by omega) dX0_nearestNumerator_33 dX0_nearestNumerator_34 (by decide) (fun h33 => ?_) (fun h33 => ?_)
    · skip
      refine zv_iload_n C 1 dX0_nearestNumerator_41 rfl rfl ?_
      refine zv_iconst (v := zI 1) C dX0_nearestNumerator_42 rfl ?_
      refine zv_iaddZ C dX0_nearestNumerator_43 ?_
      exact zv_iret C hr rfl dX0_nearestNumerator_44 ⟨by unfold nN; first | (rw [if_pos (by omega)]) | (rw [if_neg (by omega)]; rfl), rfl⟩
    · skip
      refine zv_iload_n C 1 dX0_nearestNumerator_37 rfl rfl ?_
      refine zv_goto (tgt := 44) C dX0_nearestNumerator_38 (by decide) ?_
      exact zv_iret C hr rfl dX0_nearestNumerator_44 ⟨by unfold nN; first | (rw [if_pos (by omega)]) | (rw [if_neg (by omega)]; rfl), rfl⟩
set_option maxRecDepth 20000 in
theorem c_X0_distanceTo {l : Launch} (hfl : l.stackTraces = false) (E : zE) (σ : zS) (pd q : Nat) (hp : 100 ≤ pd ∧ pd ≤ 10000000) (hq : 1 ≤ q ∧ q ≤ 10000) : zRl l E yX0_distanceTo cX0_distanceTo 2 (zrm 1 24) [.int (zI (pd : Int)), .int (zI (q : Int))] σ (fun r τ => r = zL (nD pd q : Int) ∧ τ = σ) := by
  refine Met.ofW (cc := cX0_distanceTo) (maxL := 2) (ret := (some .long)) (by decide +kernel) rfl ?_
  intro p e s m args below meth c s₁ B hml hv
  obtain ⟨rfl, hd⟩ := hv
  have C := zX_of (own := RX0) hfl B hml rfl hd rfl
  have hr := B.returns
  refine zV_go hd (Nat.le_of_ble_eq_true rfl) (lv := [(0, .int (zI (pd : Int))), (1, .int (zI (q : Int)))]) rfl ?_
  have hb := nD_b (p := pd) (by omega) q
  have he := nD_e (p := pd) (q := q) (by omega)
  have hnn : nN pd q ≤ 100 * q + 1 := by
    have := Nat.div_le_self (100 * q) pd
    unfold nN
    split <;> omega
  refine zv_ldc2 C kX0_76 dX0_distanceTo_0 ?_
  refine zv_eql (y := zL 100) (by decide) ?_
  refine zv_iload_n C 1 dX0_distanceTo_3 rfl rfl ?_
  refine zv_i2lZ C (by omega) dX0_distanceTo_4 ?_
  refine zv_lmulZ C dX0_distanceTo_5 ?_
  refine zv_iload_n C 0 dX0_distanceTo_6 rfl rfl ?_
  refine zv_iload_n C 1 dX0_distanceTo_7 rfl rfl ?_
  refine zv_csiD (st := [.long (zL (100 * (q : Int)))]) C (c_X0_nearestNumerator hfl E σ pd q hp (by omega)) mX0_nearestNumerator kX0_78 rfl ⟨rfl, rfl⟩ (show zfit (zrm 0 0) 5 (zrm 1 24) = true from rfl) (Nat.le_of_ble_eq_true rfl) dX0_distanceTo_8 ⟨Nat.zero_le _, Nat.zero_le _⟩ ?_
  refine zv_i2lZ C (by omega) dX0_distanceTo_11 ?_
  refine zv_iload_n C 0 dX0_distanceTo_12 rfl rfl ?_
  refine zv_i2lZ C (by omega) dX0_distanceTo_13 ?_
  refine zv_lmulZ C dX0_distanceTo_14 ?_
  refine zv_lsubZ C dX0_distanceTo_15 ?_
  refine zv_cslD (st := []) C (c_J9_abs_067f4 hfl E σ ((100 * (q : Int)) - ((nN pd q : Int) * (pd : Int))) (by omega)) mJ9_abs_067f4 kX0_39 rfl ⟨rfl, rfl⟩ (show zfit (zrm 0 0) 2 (zrm 1 24) = true from rfl) (Nat.le_of_ble_eq_true rfl) dX0_distanceTo_16 ⟨Nat.zero_le _, Nat.zero_le _⟩ ?_
  exact zv_lret C hr dX0_distanceTo_19 ⟨by rw [he], rfl⟩
set_option maxRecDepth 20000 in
theorem c_X0_nearestDenominator {l : Launch} (hfl : l.stackTraces = false) (E : zE) (σ : zS) (pd q : Nat) (hp : 100 ≤ pd ∧ pd ≤ 10000000) (hq : 1 ≤ q ∧ q ≤ 10000) : zRi l E yX0_nearestDenominator cX0_nearestDenominator 9 .int (zrm 2 45) [.ref (ob E 318), .int (zI (pd : Int)), .int (zI (q : Int))] σ (fun r τ => r = zI (nB pd q : Int) ∧ τ = σ) := by
  refine Met.ofW (cc := cX0_nearestDenominator) (maxL := 9) (ret := (some .int)) (by decide +kernel) rfl ?_
  intro p e s m args below meth c s₁ B hml hv
  obtain ⟨rfl, hd⟩ := hv
  have C := zX_of (own := RX0) hfl B hml rfl hd rfl
  have hr := B.returns
  refine zV_go hd (Nat.le_of_ble_eq_true rfl) (lv := [(0, .ref (ob E 318)), (1, .int (zI (pd : Int))), (2, .int (zI (q : Int)))]) rfl ?_
  refine zv_iconst (v := zI 1) C dX0_nearestDenominator_0 rfl ?_
  refine zv_istore_n (lv' := [(3, .int (zI 1)), (0, .ref (ob E 318)), (1, .int (zI (pd : Int))), (2, .int (zI (q : Int)))]) C dX0_nearestDenominator_1 rfl (by decide) rfl ?_
  refine zv_iload_n C 2 dX0_nearestDenominator_2 rfl rfl ?_
  refine zv_iconst (v := zI 1) C dX0_nearestDenominator_3 rfl ?_
  refine zv_cslD (st := []) C (c_X0_distanceTo hfl E σ pd 1 hp (by omega)) mX0_distanceTo kX0_72 rfl ⟨rfl, rfl⟩ (show zfit (zrm 1 24) 2 (zrm 2 45) = true from rfl) (Nat.le_of_ble_eq_true rfl) dX0_nearestDenominator_4 ⟨Nat.zero_le _, Nat.zero_le _⟩ ?_
  refine zv_lstore (lv' := [(4, .long (zL (nD pd 1 : Int))), (3, .int (zI 1)), (0, .ref (ob E 318)), (1, .int (zI (pd : Int))), (2, .int (zI (q : Int)))]) C dX0_nearestDenominator_7  (by decide) rfl ?_
  refine zv_iconst (v := zI 2) C dX0_nearestDenominator_9 rfl ?_
  refine zv_istore (lv' := [(6, .int (zI 2)), (4, .long (zL (nD pd 1 : Int))), (3, .int (zI 1)), (0, .ref (ob E 318)), (1, .int (zI (pd : Int))), (2, .int (zI (q : Int)))]) C dX0_nearestDenominator_10  (by decide) rfl ?_
  have q12_8 : (2 : Int) = (2 : Int) := by first | rfl | omega
  have q12_9 : ((nD pd 1 : Int) : Int) = (nD pd (nB pd (2 - 1)) : Int) := by rw [nB_1]
  have q12_10 : (1 : Int) = (nB pd (2 - 1) : Int) := by rw [nB_1]; rfl
  refine zv_sub (lv' := [(0, .ref (ob E 318)), (1, .int (zI (pd : Int))), (2, .int (zI (q : Int))), (3, .int (zI (nB pd (2 - 1) : Int))), (4, .long (zL (nD pd (nB pd (2 - 1)) : Int))), (6, .int (zI (2 : Int)))]) [3, 4, 5, 2, 1, 0] (zcons rfl (zcons rfl (zcons rfl (zcons (zqI q12_10) (zcons (zqL q12_9) (zcons (zqI q12_8) rfl)))))) ?_
  refine zv_while (α := Nat) (fun v => q + 1 - v) (fun v => 2 ≤ v ∧ v ≤ q + 1 ∨ (v = 2 ∧ q = 1)) (fun v => σ) (fun v => [(0, .ref (ob E 318)), (1, .int (zI (pd : Int))), (2, .int (zI (q : Int))), (3, .int (zI (nB pd (v - 1) : Int))), (4, .long (zL (nD pd (nB pd (v - 1)) : Int))), (6, .int (zI (v : Int)))]) (fun v => []) (fun j hI ih => ?_) (2) (by omega)
  have hb := nB_b pd (j - 1)
  have hd1 := nD_b (p := pd) (by omega) (nB pd (j - 1))
  have hd2 := nD_b (p := pd) (by omega) j
  have hm1 : nD pd j * nB pd (j - 1) ≤ 10000000 * 10000 := Nat.mul_le_mul (by omega) (by omega)
  have hm2 : nD pd (nB pd (j - 1)) * j ≤ 10000000 * 10001 := Nat.mul_le_mul (by omega) (by omega)
  refine zv_iload C 5 dX0_nearestDenominator_12 rfl ?_
  refine zv_iload_n C 2 dX0_nearestDenominator_14 rfl rfl ?_
  refine zv_icmp_gtZ (tgt := 54) C (by omega) (by omega) dX0_nearestDenominator_15 (by decide) (fun h15 => ?_) (fun h15 => ?_)
  · skip
    refine zv_iload_n C 3 dX0_nearestDenominator_54 rfl rfl ?_
    exact zv_iret C hr rfl dX0_nearestDenominator_55 ⟨by rw [show q = j - 1 by omega], rfl⟩
  · skip
    refine zv_iload_n C 1 dX0_nearestDenominator_18 rfl rfl ?_
    refine zv_iload C 5 dX0_nearestDenominator_19 rfl ?_
    refine zv_cslD (st := []) C (c_X0_distanceTo hfl E σ pd j hp (by omega)) mX0_distanceTo kX0_72 rfl ⟨rfl, rfl⟩ (show zfit (zrm 1 24) 2 (zrm 2 45) = true from rfl) (Nat.le_of_ble_eq_true rfl) dX0_nearestDenominator_21 ⟨Nat.zero_le _, Nat.zero_le _⟩ ?_
    refine zv_lstore (lv' := [(7, .long (zL (nD pd j : Int))), (0, .ref (ob E 318)), (1, .int (zI (pd : Int))), (2, .int (zI (q : Int))), (3, .int (zI (nB pd (j - 1) : Int))), (4, .long (zL (nD pd (nB pd (j - 1)) : Int))), (6, .int (zI (j : Int)))]) C dX0_nearestDenominator_24  (by decide) rfl ?_
    refine zv_lload C 0 dX0_nearestDenominator_26 rfl ?_
    refine zv_iload_n C 4 dX0_nearestDenominator_28 rfl rfl ?_
    refine zv_i2lZ C (by omega) dX0_nearestDenominator_29 ?_
    refine zv_lmulZ C dX0_nearestDenominator_30 ?_
    refine zv_eql (y := (zL ((nD pd j * nB pd (j - 1) : Nat) : Int))) (by rw [Int.natCast_mul]) ?_
    refine zv_lload C 5 dX0_nearestDenominator_31 rfl ?_
    refine zv_iload C 6 dX0_nearestDenominator_33 rfl ?_
    refine zv_i2lZ C (by omega) dX0_nearestDenominator_35 ?_
    refine zv_lmulZ C dX0_nearestDenominator_36 ?_
    refine zv_eql (y := (zL ((nD pd (nB pd (j - 1)) * j : Nat) : Int))) (by rw [Int.natCast_mul]) ?_
    refine zv_lc_geZ (tgt := 48) C (by omega) (by omega) dX0_nearestDenominator_37 dX0_nearestDenominator_38 (by decide) (fun h37 => ?_) (fun h37 => ?_)
    · skip
      have hB1 : nB pd (j + 1 - 1) = nB pd (j - 1) := by
        obtain ⟨i, rfl⟩ : ∃ i, j = i + 1 := ⟨j - 1, by omega⟩
        show nB pd (i + 1) = nB pd i
        rw [nB, if_neg (by simp only [Nat.add_sub_cancel] at *; omega)]
      refine zv_iinc (v := (zI ((j : Int) + 1))) (lv' := [(6, .int (zI ((j : Int) + 1))), (7, .long (zL (nD pd j : Int))), (0, .ref (ob E 318)), (1, .int (zI (pd : Int))), (2, .int (zI (q : Int))), (3, .int (zI (nB pd (j - 1) : Int))), (4, .long (zL (nD pd (nB pd (j - 1)) : Int)))]) C 6 dX0_nearestDenominator_48 rfl (zI_add _ _) (by decide) rfl ?_
      refine zv_goto (tgt := 12) C dX0_nearestDenominator_51 (by decide) ?_
      have q12_47 : ((j : Int) + 1 : Int) = ((j + 1 : Nat) : Int) := by first | rfl | omega
      have q12_48 : ((nD pd (nB pd (j - 1)) : Int) : Int) = (nD pd (nB pd ((j + 1) - 1)) : Int) := by rw [hB1]
      have q12_49 : ((nB pd (j - 1) : Int) : Int) = (nB pd ((j + 1) - 1) : Int) := by rw [hB1]
      refine zv_sub (lv' := [(0, .ref (ob E 318)), (1, .int (zI (pd : Int))), (2, .int (zI (q : Int))), (3, .int (zI (nB pd ((j + 1) - 1) : Int))), (4, .long (zL (nD pd (nB pd ((j + 1) - 1)) : Int))), (6, .int (zI ((j + 1 : Nat) : Int)))]) [2, 3, 4, 5, 6, 0] (zcons rfl (zcons rfl (zcons rfl (zcons (zqI q12_49) (zcons (zqL q12_48) (zcons (zqI q12_47) rfl)))))) ?_
      exact ih (j + 1) (by omega) (by omega)
    · skip
      have hB1 : nB pd (j + 1 - 1) = j := by
        obtain ⟨i, rfl⟩ : ∃ i, j = i + 1 := ⟨j - 1, by omega⟩
        show nB pd (i + 1) = i + 1
        rw [nB, if_pos (by simp only [Nat.add_sub_cancel] at *; omega)]
      refine zv_iload C 6 dX0_nearestDenominator_41 rfl ?_
      refine zv_istore_n (lv' := [(3, .int (zI (j : Int))), (7, .long (zL (nD pd j : Int))), (0, .ref (ob E 318)), (1, .int (zI (pd : Int))), (2, .int (zI (q : Int))), (4, .long (zL (nD pd (nB pd (j - 1)) : Int))), (6, .int (zI (j : Int)))]) C dX0_nearestDenominator_43 rfl (by decide) rfl ?_
      refine zv_lload C 1 dX0_nearestDenominator_44 rfl ?_
      refine zv_lstore (lv' := [(4, .long (zL (nD pd j : Int))), (3, .int (zI (j : Int))), (7, .long (zL (nD pd j : Int))), (0, .ref (ob E 318)), (1, .int (zI (pd : Int))), (2, .int (zI (q : Int))), (6, .int (zI (j : Int)))]) C dX0_nearestDenominator_46  (by decide) rfl ?_
      refine zv_iinc (v := (zI ((j : Int) + 1))) (lv' := [(6, .int (zI ((j : Int) + 1))), (4, .long (zL (nD pd j : Int))), (3, .int (zI (j : Int))), (7, .long (zL (nD pd j : Int))), (0, .ref (ob E 318)), (1, .int (zI (pd : Int))), (2, .int (zI (q : Int)))]) C 6 dX0_nearestDenominator_48 rfl (zI_add _ _) (by decide) rfl ?_
      refine zv_goto (tgt := 12) C dX0_nearestDenominator_51 (by decide) ?_
      have q12_63 : ((j : Int) + 1 : Int) = ((j + 1 : Nat) : Int) := by first | rfl | omega
      have q12_64 : ((nD pd j : Int) : Int) = (nD pd (nB pd ((j + 1) - 1)) : Int) := by rw [hB1]
      have q12_65 : ((j : Int) : Int) = (nB pd ((j + 1) - 1) : Int) := by rw [hB1]
      refine zv_sub (lv' := [(0, .ref (ob E 318)), (1, .int (zI (pd : Int))), (2, .int (zI (q : Int))), (3, .int (zI (nB pd ((j + 1) - 1) : Int))), (4, .long (zL (nD pd (nB pd ((j + 1) - 1)) : Int))), (6, .int (zI ((j + 1 : Nat) : Int)))]) [4, 5, 6, 2, 1, 0] (zcons rfl (zcons rfl (zcons rfl (zcons (zqI q12_65) (zcons (zqL q12_64) (zcons (zqI q12_63) rfl)))))) ?_
      exact ih (j + 1) (by omega) (by omega)
