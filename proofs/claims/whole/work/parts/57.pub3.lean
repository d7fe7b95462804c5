set_option maxRecDepth 20000 in
theorem c_X10_wayRound {l : Launch} (hfl : l.stackTraces = false) (E : zE) (σ : zS) (a b : Int) (ha : 0 ≤ a ∧ a < 1296000) (hb : 0 ≤ b ∧ b < 1296000) : zRi l E yX10_wayRound cX10_wayRound 3 .int (zrm 1 21) [.int (zI a), .int (zI b)] σ (fun r τ => r = zI (min ((a - b).natAbs : Int) (1296000 - ((a - b).natAbs : Int))) ∧ τ = σ) := by
  refine Met.ofW (cc := cX10_wayRound) (maxL := 3) (ret := (some .int)) (by decide +kernel) rfl ?_
  intro p e s m args below meth c s₁ B hml hv
  obtain ⟨rfl, hd⟩ := hv
  have C := zX_of (own := RX10) hfl B hml rfl hd rfl
  have hr := B.returns
  refine zV_go hd (Nat.le_of_ble_eq_true rfl) (lv := [(0, .int (zI a)), (1, .int (zI b))]) rfl ?_
  refine zv_iload_n C 0 dX10_wayRound_0 rfl rfl ?_
  refine zv_iload_n C 1 dX10_wayRound_1 rfl rfl ?_
  refine zv_isubZ C dX10_wayRound_2 ?_
  refine zv_csiD (st := []) C (c_J9_abs_0f7a4 hfl E σ (a - b) (by omega)) mJ9_abs_0f7a4 kX10_415 rfl ⟨rfl, rfl⟩ (show zfit (zrm 0 0) 1 (zrm 1 21) = true from rfl) (Nat.le_of_ble_eq_true rfl) dX10_wayRound_3 ⟨Nat.zero_le _, Nat.zero_le _⟩ ?_
  refine zv_istore_n (lv' := [(2, .int (zI ((a - b).natAbs : Int))), (0, .int (zI a)), (1, .int (zI b))]) C dX10_wayRound_6 rfl (by decide) rfl ?_
  refine zv_iload_n C 0 dX10_wayRound_7 rfl rfl ?_
  refine zv_ldcw C kX10_375 dX10_wayRound_8 ?_
  refine zv_eqi (y := zI 1296000) (by decide) ?_
  refine zv_iload_n C 0 dX10_wayRound_11 rfl rfl ?_
  refine zv_isubZ C dX10_wayRound_12 ?_
  refine zv_csiD (st := []) C (c_J9_min_7cf53 hfl E σ (((a - b).natAbs : Int)) (1296000 - ((a - b).natAbs : Int)) (by omega) (by omega)) mJ9_min_7cf53 kX10_417 rfl ⟨rfl, rfl⟩ (show zfit (zrm 0 0) 2 (zrm 1 21) = true from rfl) (Nat.le_of_ble_eq_true rfl) dX10_wayRound_13 ⟨Nat.zero_le _, Nat.zero_le _⟩ ?_
  exact zv_iret C hr rfl dX10_wayRound_16 ⟨rfl, rfl⟩
def qTeeth (S : zST) : Nat → Nat
  | 0 => 0
  | i + 1 => qTeeth S i + tTe (S.tr i) (S.tn i)
set_option maxRecDepth 20000 in
theorem c_X10_teethOfAll {l : Launch} (hfl : l.stackTraces = false) (E : zE) (σ : zS) (U : zSU) (S : zST) (hU : zSUp σ 29 U) (hS : zSTp σ 34 S) : zRi l E yX10_teethOfAll cX10_teethOfAll 3 .int (zrm 2 45) [.ref (ob E 0)] σ (fun r τ => r = zI (qTeeth S U.nb : Int) ∧ τ = σ) := by
  refine Met.ofW (cc := cX10_teethOfAll) (maxL := 3) (ret := (some .int)) (by decide +kernel) rfl ?_
  intro p e s m args below meth c s₁ B hml hv
  obtain ⟨rfl, hd⟩ := hv
  have C := zX_of (own := RX10) hfl B hml rfl hd rfl
  have hr := B.returns
  refine zV_go hd (Nat.le_of_ble_eq_true rfl) (lv := [(0, .ref (ob E 0))]) rfl ?_
  have hnb : U.nb ≤ 8 := hU.2.2.1
  have hs0 := hU.2.2.2.1
  
  refine zv_iconst (v := zI 0) C dX10_teethOfAll_0 rfl ?_
  refine zv_istore_n (lv' := [(1, .int (zI 0)), (0, .ref (ob E 0))]) C dX10_teethOfAll_1 rfl (by decide) rfl ?_
  refine zv_iconst (v := zI 0) C dX10_teethOfAll_2 rfl ?_
  refine zv_istore_n (lv' := [(2, .int (zI 0)), (1, .int (zI 0)), (0, .ref (ob E 0))]) C dX10_teethOfAll_3 rfl (by decide) rfl ?_
  have q4_7 : (0 : Int) = (0 : Int) := by first | rfl | omega
  have q4_8 : (0 : Int) = (qTeeth S 0 : Int) := by first | rfl | omega
  refine zv_sub (lv' := [(0, .ref (ob E 0)), (1, .int (zI (qTeeth S 0 : Int))), (2, .int (zI (0 : Int)))]) [2, 1, 0] (zcons rfl (zcons (zqI q4_8) (zcons (zqI q4_7) rfl))) ?_
  refine zv_while (α := Nat) (fun v => U.nb - v) (fun v => v ≤ U.nb) (fun v => σ) (fun v => [(0, .ref (ob E 0)), (1, .int (zI (qTeeth S v : Int))), (2, .int (zI (v : Int)))]) (fun v => []) (fun j hI ih => ?_) (0) (by omega)
  refine zv_iload_n C 2 dX10_teethOfAll_4 rfl rfl ?_
  refine zv_aload_n C 0 dX10_teethOfAll_5 rfl rfl ?_
  refine zG9_1 C (by decide : kd 0 = _) kX10_19 dX10_teethOfAll_6 ?_
  refine zG4_1 C (by decide : kd 29 = _) kX10_108 dX10_teethOfAll_9 ?_
  refine zv_eqi (y := zI (U.nb : Int)) (hU.2.1) ?_
  refine zv_icmp_geZ (tgt := 36) C (by omega) (by omega) dX10_teethOfAll_12 (by decide) (fun h12 => ?_) (fun h12 => ?_)
  · skip
    refine zv_iload_n C 1 dX10_teethOfAll_36 rfl rfl ?_
    exact zv_iret C hr rfl dX10_teethOfAll_37 ⟨by rw [show j = U.nb by omega], rfl⟩
  · skip
    have hj8 : j < 8 := by omega
    have hkj : kd (34 + 4 + 2 * j) = 8 := ((zst (show kd 34 = 6 by decide)).2.2.2 j hj8).1
    refine zv_iload_n C 1 dX10_teethOfAll_15 rfl rfl ?_
    refine zv_aload_n C 0 dX10_teethOfAll_16 rfl rfl ?_
    refine zG9_2 C (by decide : kd 0 = _) kX10_26 dX10_teethOfAll_17 ?_
    refine zG6_5 C (by decide : kd 34 = _) kX10_154 dX10_teethOfAll_20 ?_
    refine zv_iload_n C 2 dX10_teethOfAll_23 rfl rfl ?_
    refine zv_tald (j := j) C (by decide : kd 37 = _) (zI_ix rfl) (Nat.lt_of_lt_of_eq hj8 (by decide)) dX10_teethOfAll_24 ?_
    refine zv_cviD (st := [.int (zI (qTeeth S j : Int))]) C (c_X8_teethTogether hfl E σ (34 + 4 + 2 * j) (S.tn j) (S.tr j) hkj (hS.2.2.2.2.2.2 j hj8).1) mX8_teethTogether kX10_159 hkj rfl rfl rfl ⟨rfl, rfl⟩ (show zfit (zrm 1 23) 3 (zrm 2 45) = true from rfl) (Nat.le_of_ble_eq_true rfl) dX10_teethOfAll_25 ⟨Nat.zero_le _, Nat.zero_le _⟩ ?_
    refine zv_iaddZ C dX10_teethOfAll_28 ?_
    refine zv_eqi (y := (zI (qTeeth S (j + 1) : Int))) (by rw [qTeeth, Int.natCast_add]) ?_
    refine zv_istore_n (lv' := [(1, .int (zI (qTeeth S (j + 1) : Int))), (0, .ref (ob E 0)), (2, .int (zI (j : Int)))]) C dX10_teethOfAll_29 rfl (by decide) rfl ?_
    refine zv_iinc (v := (zI ((j : Int) + 1))) (lv' := [(2, .int (zI ((j : Int) + 1))), (1, .int (zI (qTeeth S (j + 1) : Int))), (0, .ref (ob E 0))]) C 2 dX10_teethOfAll_30 rfl (zI_add _ _) (by decide) rfl ?_
    refine zv_goto (tgt := 4) C dX10_teethOfAll_33 (by decide) ?_
    have q4_35 : ((j : Int) + 1 : Int) = ((j + 1 : Nat) : Int) := by first | rfl | omega
    refine zv_sub (lv' := [(0, .ref (ob E 0)), (1, .int (zI (qTeeth S (j + 1) : Int))), (2, .int (zI ((j + 1 : Nat) : Int)))]) [2, 1, 0] (zcons rfl (zcons rfl (zcons (zqI q4_35) rfl))) ?_
    exact ih (j + 1) (by omega) (by omega)
set_option maxRecDepth 20000 in
theorem c_X10_leapYears {l : Launch} (hfl : l.stackTraces = false) (E : zE) (σ : zS) (U : zSU) (b d : Int) (hU : zSUp σ 29 U) (hb : U.s0 ≤ b ∧ b ≤ U.s0 + 999) (hd2 : U.s0 ≤ d ∧ d ≤ U.s0 + 999) (hle : b ≤ d) : zRi l E yX10_leapYears cX10_leapYears 3 .int (zrm 3 65) [.ref (ob E 0), .int (zI b), .int (zI d)] σ (fun r τ => r = zI (yLp d - yLp (b - 1)) ∧ τ = σ) := by
  refine Met.ofW (cc := cX10_leapYears) (maxL := 3) (ret := (some .int)) (by decide +kernel) rfl ?_
  intro p e s m args below meth c s₁ B hml hv
  obtain ⟨rfl, hd⟩ := hv
  have C := zX_of (own := RX10) hfl B hml rfl hd rfl
  have hr := B.returns
  refine zV_go hd (Nat.le_of_ble_eq_true rfl) (lv := [(0, .ref (ob E 0)), (1, .int (zI b)), (2, .int (zI d))]) rfl ?_
  have hnb : U.nb ≤ 8 := hU.2.2.1
  have hs0 := hU.2.2.2.1
  
  refine zv_aload_n C 0 dX10_leapYears_0 rfl rfl ?_
  refine zv_iload_n C 1 dX10_leapYears_1 rfl rfl ?_
  refine zv_iload_n C 2 dX10_leapYears_2 rfl rfl ?_
  refine zv_cvvD (st := []) C (c_X10_needYears hfl E σ U b d hU (by omega) (by omega) hb hd2 hle) mX10_needYears kX10_203 (by decide : kd 0 = 9) rfl rfl rfl ⟨rfl, rfl⟩ (show zfit (zrm 2 43) 3 (zrm 3 65) = true from rfl) (Nat.le_of_ble_eq_true rfl) dX10_leapYears_3 ⟨Nat.zero_le _, Nat.zero_le _⟩ ?_
  refine zv_iload_n C 2 dX10_leapYears_6 rfl rfl ?_
  refine zv_csiD (st := []) C (c_X4_leapYearsTo hfl E σ (d) (by omega)) mX4_leapYearsTo kX10_207 rfl ⟨rfl, rfl⟩ (show zfit (zrm 0 0) 1 (zrm 3 65) = true from rfl) (Nat.le_of_ble_eq_true rfl) dX10_leapYears_7 ⟨Nat.zero_le _, Nat.zero_le _⟩ ?_
  refine zv_iload_n C 1 dX10_leapYears_10 rfl rfl ?_
  refine zv_iconst (v := zI 1) C dX10_leapYears_11 rfl ?_
  refine zv_isubZ C dX10_leapYears_12 ?_
  refine zv_csiD (st := [.int (zI (yLp (d)))]) C (c_X4_leapYearsTo hfl E σ (b - 1) (by omega)) mX4_leapYearsTo kX10_207 rfl ⟨rfl, rfl⟩ (show zfit (zrm 0 0) 1 (zrm 3 65) = true from rfl) (Nat.le_of_ble_eq_true rfl) dX10_leapYears_13 ⟨Nat.zero_le _, Nat.zero_le _⟩ ?_
  refine zv_isubZ C dX10_leapYears_16 ?_
  exact zv_iret C hr rfl dX10_leapYears_17 ⟨rfl, rfl⟩
