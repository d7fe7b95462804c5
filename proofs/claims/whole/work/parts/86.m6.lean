/-! errors of years, in the reference -/
def mE (σ : zS) (U : zSU) (S : zST) (i f : Nat) : zS := mC (mW σ (qDue U i).1 (qDue U i).2) (eCut U S i f)
theorem mCW_o (σ : zS) (a b d e : Int) (P Q : Bool) : mC (mW (mC (mW σ a b) P) d e) Q = mC (mW σ d e) Q := by
  refine zS_ext (fun x j => ?_) (fun x j => ?_) (fun _ _ => rfl)
  · show (if x = 327 ∧ j = 24 then _ else if x = 327 ∧ j = 24 then _ else gI σ x j) = (if x = 327 ∧ j = 24 then _ else gI σ x j)
    by_cases h : x = 327 ∧ j = 24
    · rw [if_pos h, if_pos h]
    · rw [if_neg h, if_neg h, if_neg h]
  · show (if x = 327 ∧ j = 23 then _ else if x = 327 ∧ j = 22 then _ else if x = 327 ∧ j = 23 then _ else if x = 327 ∧ j = 22 then _ else gJ σ x j) = (if x = 327 ∧ j = 23 then _ else if x = 327 ∧ j = 22 then _ else gJ σ x j)
    by_cases h : x = 327 ∧ j = 23
    · rw [if_pos h, if_pos h]
    · rw [if_neg h, if_neg h, if_neg h]
      by_cases g : x = 327 ∧ j = 22
      · rw [if_pos g, if_pos g]
      · rw [if_neg g, if_neg g, if_neg g]
theorem mE_o (σ : zS) (U : zSU) (S : zST) (i f j g : Nat) : mE (mE σ U S i f) U S j g = mE σ U S j g := mCW_o _ _ _ _ _ _ _
theorem mK_E {σ τ : zS} {k : Nat} (h : mK σ τ k) (U : zSU) (S : zST) (i f : Nat) : mK σ (mE τ U S i f) k := mK_C (mK_W h _ _) _
def yF (U : zSU) (y : Int) : Nat := (yEnd U.s0 y).toNat
theorem yF_e {U : zSU} {y : Int} (h : 1600 ≤ U.s0 ∧ U.s0 ≤ 2400) (hy : U.s0 - 1 ≤ y ∧ y ≤ U.s0 + 999) : (yF U y : Int) = yEnd U.s0 y ∧ yF U y ≤ 400000 := by
  unfold yF yEnd yLp
  omega
/-- the world behind the errors of j bodies -/
def mQ (σ : zS) (U : zSU) (S : zST) (f : Nat) : Nat → zS
  | 0 => σ
  | k + 1 => mE σ U S k f
theorem mQ_s (σ : zS) (U : zSU) (S : zST) (f k : Nat) : mE (mQ σ U S f k) U S k f = mQ σ U S f (k + 1) := by
  cases k with
  | zero => rfl
  | succ k => exact mE_o _ _ _ _ _ _ _
theorem mK_Q {σ τ : zS} {q : Nat} (h : mK σ τ q) (U : zSU) (S : zST) (f k : Nat) : mK σ (mQ τ U S f k) q := by
  cases k with
  | zero => exact h
  | succ k => exact mK_E h _ _ _ _
theorem mQ_g (σ : zS) (U : zSU) (S : zST) (f k x : Nat) (hx : x ≠ 327) : gI (mQ σ U S f k) x = gI σ x := by
  cases k with
  | zero => rfl
  | succ k => exact funext fun j => by show (if x = 327 ∧ j = 24 then _ else gI σ x j) = _; rw [if_neg (by omega)]
theorem mQ_B {σ : zS} {U : zSU} (hB : zRb (gI σ 328) U) (S : zST) (f k : Nat) : zRb (gI (mQ σ U S f k) 328) U := by rw [mQ_g _ _ _ _ _ _ (by decide)]; exact hB
theorem mQ_W {σ : zS} {U : zSU} {S : zST} (hW : zRo (gI σ 332) U.nb S) (f k : Nat) : zRo (gI (mQ σ U S f k) 332) U.nb S := by rw [mQ_g _ _ _ _ _ _ (by decide)]; exact hW
set_option maxRecDepth 20000 in
theorem c_X11_errorAt {l : Launch} (hfl : l.stackTraces = false) (E : zE) (σ : zS) (σc : zS) (U : zSU) (S : zST) (i : Nat) (y : Int) (hB : zRb (gI σ 328) U) (hU : zSUp σc 29 U) (hW : zRo (gI σ 332) U.nb S) (hS : zSTp σc 34 S) (hi : i < U.nb) (hy : U.s0 - 1 ≤ y ∧ y ≤ U.s0 + 999) : zRl l E yX11_errorAt cX11_errorAt 3 (zrm 6 157) [.ref (ob E 327), .int (zI (i : Int)), .int (zI y)] σ (fun r τ => r = zL (qErr U S i y) ∧ τ = mE σ U S i (yF U y)) := by
  refine Met.ofW (cc := cX11_errorAt) (maxL := 3) (ret := (some .long)) (by decide +kernel) rfl ?_
  intro p e s m args below meth c s₁ B hml hv
  obtain ⟨rfl, hd⟩ := hv
  have C := zX_of (own := RX11) hfl B hml rfl hd rfl
  have hr := B.returns
  refine zV_go hd (Nat.le_of_ble_eq_true rfl) (lv := [(0, .ref (ob E 327)), (1, .int (zI (i : Int))), (2, .int (zI y))]) rfl ?_
  have hnb : U.nb ≤ 8 := hU.2.2.1
  have hs0 := hU.2.2.2.1
  have hyf := yF_e (U := U) (y := y) hs0 (by omega)
  
  refine zv_aload_n C 0 dX11_errorAt_0 rfl rfl ?_
  refine zv_iload_n C 1 dX11_errorAt_1 rfl rfl ?_
  refine zv_aload_n C 0 dX11_errorAt_2 rfl rfl ?_
  refine zv_iload_n C 2 dX11_errorAt_3 rfl rfl ?_
  refine zv_cviD (st := [.int (zI (i : Int)), .ref (ob E 327)]) C (c_X11_endNow hfl E σ σc U (y) hB hU (by omega)) mX11_endNow kX11_299 (by decide : kd 327 = 10) rfl rfl rfl ⟨rfl, rfl⟩ (show zfit (zrm 1 21) 2 (zrm 6 157) = true from rfl) (Nat.le_of_ble_eq_true rfl) dX11_errorAt_4 ⟨Nat.zero_le _, Nat.zero_le _⟩ ?_
  refine zv_eqi (y := (zI (yF U y : Int))) (congrArg zI hyf.1.symm) ?_
  refine zv_cvlD (st := []) C (c_X11_errorNow hfl E σ σc U S i (yF U y) hB hU hW hS hi (by omega)) mX11_errorNow kX11_302 (by decide : kd 327 = 10) rfl rfl rfl ⟨rfl, rfl⟩ (show zfit (zrm 5 127) 11 (zrm 6 157) = true from rfl) (Nat.le_of_ble_eq_true rfl) dX11_errorAt_7 ⟨Nat.zero_le _, Nat.zero_le _⟩ ?_
  refine zv_eql (y := (zL (qErr U S i y))) (by rw [qErr, hyf.1]) ?_
  exact zv_lret C hr dX11_errorAt_10 ⟨rfl, rfl⟩
set_option maxRecDepth 20000 in
theorem c_X11_offAt {l : Launch} (hfl : l.stackTraces = false) (E : zE) (σ : zS) (σc : zS) (U : zSU) (S : zST) (i : Nat) (y : Int) (hB : zRb (gI σ 328) U) (hU : zSUp σc 29 U) (hW : zRo (gI σ 332) U.nb S) (hS : zSTp σc 34 S) (hi : i < U.nb) (hy : U.s0 - 1 ≤ y ∧ y ≤ U.s0 + 999) : zRl l E yX11_offAt cX11_offAt 3 (zrm 7 179) [.ref (ob E 327), .int (zI (i : Int)), .int (zI y)] σ (fun r τ => r = zL ((qErr U S i y).natAbs : Int) ∧ τ = mE σ U S i (yF U y)) := by
  refine Met.ofW (cc := cX11_offAt) (maxL := 3) (ret := (some .long)) (by decide +kernel) rfl ?_
  intro p e s m args below meth c s₁ B hml hv
  obtain ⟨rfl, hd⟩ := hv
  have C := zX_of (own := RX11) hfl B hml rfl hd rfl
  have hr := B.returns
  refine zV_go hd (Nat.le_of_ble_eq_true rfl) (lv := [(0, .ref (ob E 327)), (1, .int (zI (i : Int))), (2, .int (zI y))]) rfl ?_
  have hnb : U.nb ≤ 8 := hU.2.2.1
  have hs0 := hU.2.2.2.1
  have hyf := yF_e (U := U) (y := y) hs0 (by omega)
  have hqb := qErr_b hU hS hi (y := y) (by omega)
  refine zv_aload_n C 0 dX11_offAt_0 rfl rfl ?_
  refine zv_iload_n C 1 dX11_offAt_1 rfl rfl ?_
  refine zv_iload_n C 2 dX11_offAt_2 rfl rfl ?_
  refine zv_cvlD (st := []) C (c_X11_errorAt hfl E σ σc U S i y hB hU hW hS hi (by omega)) mX11_errorAt kX11_306 (by decide : kd 327 = 10) rfl rfl rfl ⟨rfl, rfl⟩ (show zfit (zrm 6 157) 3 (zrm 7 179) = true from rfl) (Nat.le_of_ble_eq_true rfl) dX11_offAt_3 ⟨Nat.zero_le _, Nat.zero_le _⟩ ?_
  refine zv_cslD (st := []) C (c_J9_abs_067f4 hfl E (mE σ U S i (yF U y)) (qErr U S i y) (by omega)) mJ9_abs_067f4 kX11_239 rfl ⟨rfl, rfl⟩ (show zfit (zrm 0 0) 2 (zrm 7 179) = true from rfl) (Nat.le_of_ble_eq_true rfl) dX11_offAt_6 ⟨Nat.zero_le _, Nat.zero_le _⟩ ?_
  exact zv_lret C hr dX11_offAt_9 ⟨rfl, rfl⟩
set_option maxRecDepth 20000 in
theorem c_X11_totalError {l : Launch} (hfl : l.stackTraces = false) (E : zE) (σ : zS) (σc : zS) (U : zSU) (S : zST) (y : Int) (hB : zRb (gI σ 328) U) (hU : zSUp σc 29 U) (hW : zRo (gI σ 332) U.nb S) (hS : zSTp σc 34 S) (hy : U.s0 ≤ y ∧ y ≤ U.s0 + 999) : zRl l E yX11_totalError cX11_totalError 5 (zrm 8 201) [.ref (ob E 327), .int (zI y)] σ (fun r τ => r = zL (qSum U S y U.nb) ∧ mK σ τ 0) := by
  refine Met.ofW (cc := cX11_totalError) (maxL := 5) (ret := (some .long)) (by decide +kernel) rfl ?_
  intro p e s m args below meth c s₁ B hml hv
  obtain ⟨rfl, hd⟩ := hv
  have C := zX_of (own := RX11) hfl B hml rfl hd rfl
  have hr := B.returns
  refine zV_go hd (Nat.le_of_ble_eq_true rfl) (lv := [(0, .ref (ob E 327)), (1, .int (zI y))]) rfl ?_
  have hnb : U.nb ≤ 8 := hU.2.2.1
  have hs0 := hU.2.2.2.1
  have hyf := yF_e (U := U) (y := y) hs0 (by omega)
  
  refine zv_aload_n C 0 dX11_totalError_0 rfl rfl ?_
  refine zv_iconst (v := zI 0) C dX11_totalError_1 rfl ?_
  refine zP10_10 C (by decide : kd 327 = _) kX11_50 dX11_totalError_2 ?_
  refine zv_eqS (τ := (thW σ 0)) (rfl) ?_
  refine zv_aload_n C 0 dX11_totalError_5 rfl rfl ?_
  refine zv_iload_n C 1 dX11_totalError_6 rfl rfl ?_
  refine zv_iconst (v := zI 1) C dX11_totalError_7 rfl ?_
  refine zv_cviD (st := []) C (c0_X11_noYear hfl E (thW σ 0) σc U (y) 1 hB hU (by omega)) mX11_noYear kX11_330 (by decide : kd 327 = 10) rfl rfl rfl ⟨rfl, rfl⟩ (show zfit (zrm 2 46) 3 (zrm 8 201) = true from rfl) (Nat.le_of_ble_eq_true rfl) dX11_totalError_8 ⟨Nat.zero_le _, Nat.zero_le _⟩ ?_
  refine zv_if_eqZ (tgt := 16) C (by omega) dX11_totalError_11 (by decide) (fun h11 => ?_) (fun h11 => absurd h11 (by decide))
  refine zv_lconst (v := zL 0) C dX11_totalError_16 (by decide) ?_
  refine zv_lstore_n (lv' := [(2, .long (zL 0)), (0, .ref (ob E 327)), (1, .int (zI y))]) C dX11_totalError_17 rfl (by decide) rfl ?_
  refine zv_iconst (v := zI 0) C dX11_totalError_18 rfl ?_
  refine zv_istore (lv' := [(4, .int (zI 0)), (2, .long (zL 0)), (0, .ref (ob E 327)), (1, .int (zI y))]) C dX11_totalError_19  (by decide) rfl ?_
  have q21_17 : (0 : Int) = (0 : Int) := by first | rfl | omega
  have q21_18 : (0 : Int) = qSum U S y 0 := by first | rfl | omega
  refine zv_sub (lv' := [(0, .ref (ob E 327)), (1, .int (zI y)), (2, .long (zL (qSum U S y 0))), (4, .int (zI (0 : Int)))]) [2, 3, 1, 0] (zcons rfl (zcons rfl (zcons (zqL q21_18) (zcons (zqI q21_17) rfl)))) ?_
  refine zv_eqS (τ := (mQ (thW σ 0) U S (yF U y) 0)) (rfl) ?_
  refine zv_while (α := Nat) (fun v => U.nb - v) (fun v => v ≤ U.nb) (fun v => (mQ (thW σ 0) U S (yF U y) v)) (fun v => [(0, .ref (ob E 327)), (1, .int (zI y)), (2, .long (zL (qSum U S y v))), (4, .int (zI (v : Int)))]) (fun v => []) (fun j hI ih => ?_) (0) (by omega)
  refine zv_iload C 3 dX11_totalError_21 rfl ?_
  refine zv_aload_n C 0 dX11_totalError_23 rfl rfl ?_
  refine zG10_0 C (by decide : kd 327 = _) kX11_7 dX11_totalError_24 ?_
  refine zv_iconst (v := zI 0) C dX11_totalError_27 rfl ?_
  refine zv_iald (j := 0) C (by decide : kd 328 = _) (zI_ix (by omega)) (by decide) dX11_totalError_28 ?_
  refine zv_eqi (y := zI (U.nb : Int)) ((by rw [mQ_g _ _ _ _ _ _ (by decide)]; exact hB.1)) ?_
  refine zv_icmp_geZ (tgt := 48) C (by omega) (by omega) dX11_totalError_29 (by decide) (fun h29 => ?_) (fun h29 => ?_)
  · skip
    refine zv_lload_n C 2 dX11_totalError_48 rfl rfl ?_
    exact zv_lret C hr dX11_totalError_49 ⟨by rw [show j = U.nb by omega], mK_Q (mK_th _ _) _ _ _ _⟩
  · skip
    refine zv_lload_n C 2 dX11_totalError_32 rfl rfl ?_
    refine zv_aload_n C 0 dX11_totalError_33 rfl rfl ?_
    refine zv_iload C 3 dX11_totalError_34 rfl ?_
    refine zv_iload_n C 1 dX11_totalError_36 rfl rfl ?_
    refine zv_cvlD (st := [.long (zL (qSum U S y j))]) C (c_X11_offAt hfl E (mQ (thW σ 0) U S (yF U y) j) σc U S j (y) (mQ_B (σ := thW σ 0) hB S (yF U y) j) hU (mQ_W (σ := thW σ 0) hW (yF U y) j) hS (by omega) (by omega)) mX11_offAt kX11_344 (by decide : kd 327 = 10) rfl rfl rfl ⟨rfl, rfl⟩ (show zfit (zrm 7 179) 3 (zrm 8 201) = true from rfl) (Nat.le_of_ble_eq_true rfl) dX11_totalError_37 ⟨Nat.zero_le _, Nat.zero_le _⟩ ?_
    refine zv_laddZ C dX11_totalError_40 ?_
    refine zv_lstore_n (lv' := [(2, .long (zL ((qSum U S y j) + ((qErr U S j (y)).natAbs : Int)))), (0, .ref (ob E 327)), (1, .int (zI y)), (4, .int (zI (j : Int)))]) C dX11_totalError_41 rfl (by decide) rfl ?_
    refine zv_iinc (v := (zI ((j : Int) + 1))) (lv' := [(4, .int (zI ((j : Int) + 1))), (2, .long (zL ((qSum U S y j) + ((qErr U S j (y)).natAbs : Int)))), (0, .ref (ob E 327)), (1, .int (zI y))]) C 3 dX11_totalError_42 rfl (zI_add _ _) (by decide) rfl ?_
    refine zv_goto (tgt := 21) C dX11_totalError_45 (by decide) ?_
    have q21_42 : ((j : Int) + 1 : Int) = ((j + 1 : Nat) : Int) := by first | rfl | omega
    have q21_43 : ((qSum U S y j) + ((qErr U S j (y)).natAbs : Int) : Int) = qSum U S y (j + 1) := by first | rfl | omega
    refine zv_sub (lv' := [(0, .ref (ob E 327)), (1, .int (zI y)), (2, .long (zL (qSum U S y (j + 1)))), (4, .int (zI ((j + 1 : Nat) : Int)))]) [2, 3, 1, 0] (zcons rfl (zcons rfl (zcons (zqL q21_43) (zcons (zqI q21_42) rfl)))) ?_
    refine zv_eqS (τ := (mQ (thW σ 0) U S (yF U y) (j + 1))) (mQ_s _ _ _ _ _) ?_
    exact ih (j + 1) (by omega) (by omega)
set_option maxRecDepth 20000 in
theorem x1_X11_totalError {l : Launch} (hfl : l.stackTraces = false) (E : zE) (σ : zS) (σc : zS) (U : zSU) (y : Int) (hB : zRb (gI σ 328) U) (hU : zSUp σc 29 U) (hy : -2147483648 ≤ y ∧ y < 2147483648) (hno : ¬ (U.s0 ≤ y ∧ y ≤ U.s0 + 999)) : zRl l E yX11_totalError cX11_totalError 5 (zrm 3 68) [.ref (ob E 327), .int (zI y)] σ (fun r τ => r = zL 0 ∧ mK σ τ 1) := by
  refine Met.ofW (cc := cX11_totalError) (maxL := 5) (ret := (some .long)) (by decide +kernel) rfl ?_
  intro p e s m args below meth c s₁ B hml hv
  obtain ⟨rfl, hd⟩ := hv
  have C := zX_of (own := RX11) hfl B hml rfl hd rfl
  have hr := B.returns
  refine zV_go hd (Nat.le_of_ble_eq_true rfl) (lv := [(0, .ref (ob E 327)), (1, .int (zI y))]) rfl ?_
  have hnb : U.nb ≤ 8 := hU.2.2.1
  have hs0 := hU.2.2.2.1
  
  refine zv_aload_n C 0 dX11_totalError_0 rfl rfl ?_
  refine zv_iconst (v := zI 0) C dX11_totalError_1 rfl ?_
  refine zP10_10 C (by decide : kd 327 = _) kX11_50 dX11_totalError_2 ?_
  refine zv_eqS (τ := (thW σ 0)) (rfl) ?_
  refine zv_aload_n C 0 dX11_totalError_5 rfl rfl ?_
  refine zv_iload_n C 1 dX11_totalError_6 rfl rfl ?_
  refine zv_iconst (v := zI 1) C dX11_totalError_7 rfl ?_
  refine zv_cviD (st := []) C (c1_X11_noYear hfl E (thW σ 0) σc U (y) 1 hB hU (by omega) hno) mX11_noYear kX11_330 (by decide : kd 327 = 10) rfl rfl rfl ⟨rfl, rfl⟩ (show zfit (zrm 2 46) 3 (zrm 3 68) = true from rfl) (Nat.le_of_ble_eq_true rfl) dX11_totalError_8 ⟨Nat.zero_le _, Nat.zero_le _⟩ ?_
  refine zv_if_eqZ (tgt := 16) C (by omega) dX11_totalError_11 (by decide) (fun h11 => absurd h11 (by decide)) (fun h11 => ?_)
  refine zv_lconst (v := zL 0) C dX11_totalError_14 (by decide) ?_
  exact zv_lret C hr dX11_totalError_15 ⟨rfl, by first | exact mK_th _ _ | exact mK_th2 _ _ _ | exact mK_C (mK_W (mK_th _ _) _ _) _ | exact mK_W (mK_th _ _) _ _⟩
set_option maxRecDepth 20000 in
theorem c_X11_worst {l : Launch} (hfl : l.stackTraces = false) (E : zE) (σ : zS) (σc : zS) (U : zSU) (S : zST) (y : Int) (hB : zRb (gI σ 328) U) (hU : zSUp σc 29 U) (hW : zRo (gI σ 332) U.nb S) (hS : zSTp σc 34 S) (hy : U.s0 ≤ y ∧ y ≤ U.s0 + 999) : zRi l E yX11_worst cX11_worst 8 .int (zrm 8 201) [.ref (ob E 327), .int (zI y)] σ (fun r τ => r = zI (dWor U S y U.nb).1 ∧ mK σ τ 0) := by
  refine Met.ofW (cc := cX11_worst) (maxL := 8) (ret := (some .int)) (by decide +kernel) rfl ?_
  intro p e s m args below meth c s₁ B hml hv
  obtain ⟨rfl, hd⟩ := hv
  have C := zX_of (own := RX11) hfl B hml rfl hd rfl
  have hr := B.returns
  refine zV_go hd (Nat.le_of_ble_eq_true rfl) (lv := [(0, .ref (ob E 327)), (1, .int (zI y))]) rfl ?_
  have hnb : U.nb ≤ 8 := hU.2.2.1
  have hs0 := hU.2.2.2.1
  have hyf := yF_e (U := U) (y := y) hs0 (by omega)
  have hwb := dWor_b hU hS (y := y) (by omega)
  refine zv_aload_n C 0 dX11_worst_0 rfl rfl ?_
  refine zv_iconst (v := zI 0) C dX11_worst_1 rfl ?_
  refine zP10_10 C (by decide : kd 327 = _) kX11_50 dX11_worst_2 ?_
  refine zv_eqS (τ := (thW σ 0)) (rfl) ?_
  refine zv_aload_n C 0 dX11_worst_5 rfl rfl ?_
  refine zv_iload_n C 1 dX11_worst_6 rfl rfl ?_
  refine zv_iconst (v := zI 1) C dX11_worst_7 rfl ?_
  refine zv_cviD (st := []) C (c0_X11_noYear hfl E (thW σ 0) σc U (y) 1 hB hU (by omega)) mX11_noYear kX11_330 (by decide : kd 327 = 10) rfl rfl rfl ⟨rfl, rfl⟩ (show zfit (zrm 2 46) 3 (zrm 8 201) = true from rfl) (Nat.le_of_ble_eq_true rfl) dX11_worst_8 ⟨Nat.zero_le _, Nat.zero_le _⟩ ?_
  refine zv_if_eqZ (tgt := 16) C (by omega) dX11_worst_11 (by decide) (fun h11 => ?_) (fun h11 => absurd h11 (by decide))
  refine zv_iconst (v := zI (-1)) C dX11_worst_16 rfl ?_
  refine zv_istore_n (lv' := [(2, .int (zI (-1))), (0, .ref (ob E 327)), (1, .int (zI y))]) C dX11_worst_17 rfl (by decide) rfl ?_
  refine zv_ldc2 C kX11_347 dX11_worst_18 ?_
  refine zv_eql (y := zL (-1)) (by decide) ?_
  refine zv_lstore_n (lv' := [(3, .long (zL (-1))), (2, .int (zI (-1))), (0, .ref (ob E 327)), (1, .int (zI y))]) C dX11_worst_21 rfl (by decide) rfl ?_
  refine zv_iconst (v := zI 0) C dX11_worst_22 rfl ?_
  refine zv_istore (lv' := [(5, .int (zI 0)), (3, .long (zL (-1))), (2, .int (zI (-1))), (0, .ref (ob E 327)), (1, .int (zI y))]) C dX11_worst_23  (by decide) rfl ?_
  have q25_20 : (0 : Int) = (0 : Int) := by first | rfl | omega
  have q25_21 : ((-1) : Int) = (dWor U S y 0).2 := by first | rfl | omega
  have q25_22 : ((-1) : Int) = (dWor U S y 0).1 := by first | rfl | omega
  refine zv_sub (lv' := [(0, .ref (ob E 327)), (1, .int (zI y)), (2, .int (zI ((dWor U S y 0).1))), (3, .long (zL ((dWor U S y 0).2))), (5, .int (zI (0 : Int)))]) [3, 4, 2, 1, 0] (zcons rfl (zcons rfl (zcons (zqI q25_22) (zcons (zqL q25_21) (zcons (zqI q25_20) rfl))))) ?_
  refine zv_eqS (τ := (mQ (thW σ 0) U S (yF U y) 0)) (rfl) ?_
  refine zv_while (α := Nat) (fun v => U.nb - v) (fun v => v ≤ U.nb) (fun v => (mQ (thW σ 0) U S (yF U y) v)) (fun v => [(0, .ref (ob E 327)), (1, .int (zI y)), (2, .int (zI ((dWor U S y v).1))), (3, .long (zL ((dWor U S y v).2))), (5, .int (zI (v : Int)))]) (fun v => []) (fun j hI ih => ?_) (0) (by omega)
  have hwj := hwb j hI
  refine zv_iload C 4 dX11_worst_25 rfl ?_
  refine zv_aload_n C 0 dX11_worst_27 rfl rfl ?_
  refine zG10_0 C (by decide : kd 327 = _) kX11_7 dX11_worst_28 ?_
  refine zv_iconst (v := zI 0) C dX11_worst_31 rfl ?_
  refine zv_iald (j := 0) C (by decide : kd 328 = _) (zI_ix (by omega)) (by decide) dX11_worst_32 ?_
  refine zv_eqi (y := zI (U.nb : Int)) ((by rw [mQ_g _ _ _ _ _ _ (by decide)]; exact hB.1)) ?_
  refine zv_icmp_geZ (tgt := 67) C (by omega) (by omega) dX11_worst_33 (by decide) (fun h33 => ?_) (fun h33 => ?_)
  · skip
    refine zv_iload_n C 2 dX11_worst_67 rfl rfl ?_
    exact zv_iret C hr rfl dX11_worst_68 ⟨by rw [show j = U.nb by omega], mK_Q (mK_th _ _) _ _ _ _⟩
  · skip
    have hqb := qErr_b hU hS (i := j) (by omega) (y := y) (by omega)
    refine zv_aload_n C 0 dX11_worst_36 rfl rfl ?_
    refine zv_iload C 4 dX11_worst_37 rfl ?_
    refine zv_iload_n C 1 dX11_worst_39 rfl rfl ?_
    refine zv_cvlD (st := []) C (c_X11_offAt hfl E (mQ (thW σ 0) U S (yF U y) j) σc U S j (y) (mQ_B (σ := thW σ 0) hB S (yF U y) j) hU (mQ_W (σ := thW σ 0) hW (yF U y) j) hS (by omega) (by omega)) mX11_offAt kX11_344 (by decide : kd 327 = 10) rfl rfl rfl ⟨rfl, rfl⟩ (show zfit (zrm 7 179) 3 (zrm 8 201) = true from rfl) (Nat.le_of_ble_eq_true rfl) dX11_worst_40 ⟨Nat.zero_le _, Nat.zero_le _⟩ ?_
    refine zv_lstore (lv' := [(6, .long (zL ((qErr U S j (y)).natAbs : Int))), (0, .ref (ob E 327)), (1, .int (zI y)), (2, .int (zI ((dWor U S y j).1))), (3, .long (zL ((dWor U S y j).2))), (5, .int (zI (j : Int)))]) C dX11_worst_43  (by decide) rfl ?_
    refine zv_lload C 0 dX11_worst_45 rfl ?_
    refine zv_lload_n C 4 dX11_worst_47 rfl rfl ?_
    refine zv_lc_gtZ (tgt := 55) C (by omega) (by omega) dX11_worst_48 dX11_worst_49 (by decide) (fun h48 => ?_) (fun h48 => ?_)
    · skip
      refine zv_iload C 5 dX11_worst_55 rfl ?_
      refine zv_istore_n (lv' := [(2, .int (zI (j : Int))), (6, .long (zL ((qErr U S j (y)).natAbs : Int))), (0, .ref (ob E 327)), (1, .int (zI y)), (3, .long (zL ((dWor U S y j).2))), (5, .int (zI (j : Int)))]) C dX11_worst_57 rfl (by decide) rfl ?_
      refine zv_lload C 1 dX11_worst_58 rfl ?_
      refine zv_lstore_n (lv' := [(3, .long (zL ((qErr U S j (y)).natAbs : Int))), (2, .int (zI (j : Int))), (6, .long (zL ((qErr U S j (y)).natAbs : Int))), (0, .ref (ob E 327)), (1, .int (zI y)), (5, .int (zI (j : Int)))]) C dX11_worst_60 rfl (by decide) rfl ?_
      refine zv_iinc (v := (zI ((j : Int) + 1))) (lv' := [(5, .int (zI ((j : Int) + 1))), (3, .long (zL ((qErr U S j (y)).natAbs : Int))), (2, .int (zI (j : Int))), (6, .long (zL ((qErr U S j (y)).natAbs : Int))), (0, .ref (ob E 327)), (1, .int (zI y))]) C 5 dX11_worst_61 rfl (zI_add _ _) (by decide) rfl ?_
      refine zv_goto (tgt := 25) C dX11_worst_64 (by decide) ?_
      have q25_54 : ((j : Int) + 1 : Int) = ((j + 1 : Nat) : Int) := by first | rfl | omega
      have q25_55 : (((qErr U S j (y)).natAbs : Int) : Int) = (dWor U S y (j + 1)).2 := by simp only [dWor]; first | rw [if_pos (by omega)] | rw [if_neg (by omega)]
      have q25_56 : ((j : Int) : Int) = (dWor U S y (j + 1)).1 := by simp only [dWor]; first | rw [if_pos (by omega)] | rw [if_neg (by omega)]
      refine zv_sub (lv' := [(0, .ref (ob E 327)), (1, .int (zI y)), (2, .int (zI ((dWor U S y (j + 1)).1))), (3, .long (zL ((dWor U S y (j + 1)).2))), (5, .int (zI ((j + 1 : Nat) : Int)))]) [4, 5, 2, 1, 0] (zcons rfl (zcons rfl (zcons (zqI q25_56) (zcons (zqL q25_55) (zcons (zqI q25_54) rfl))))) ?_
      refine zv_eqS (τ := (mQ (thW σ 0) U S (yF U y) (j + 1))) (mQ_s _ _ _ _ _) ?_
      exact ih (j + 1) (by omega) (by omega)
    · skip
      refine zv_goto (tgt := 61) C dX11_worst_52 (by decide) ?_
      refine zv_iinc (v := (zI ((j : Int) + 1))) (lv' := [(5, .int (zI ((j : Int) + 1))), (6, .long (zL ((qErr U S j (y)).natAbs : Int))), (0, .ref (ob E 327)), (1, .int (zI y)), (2, .int (zI ((dWor U S y j).1))), (3, .long (zL ((dWor U S y j).2)))]) C 5 dX11_worst_61 rfl (zI_add _ _) (by decide) rfl ?_
      refine zv_goto (tgt := 25) C dX11_worst_64 (by decide) ?_
      have q25_64 : ((j : Int) + 1 : Int) = ((j + 1 : Nat) : Int) := by first | rfl | omega
      have q25_65 : ((dWor U S y j).2 : Int) = (dWor U S y (j + 1)).2 := by simp only [dWor]; first | rw [if_pos (by omega)] | rw [if_neg (by omega)]
      have q25_66 : ((dWor U S y j).1 : Int) = (dWor U S y (j + 1)).1 := by simp only [dWor]; first | rw [if_pos (by omega)] | rw [if_neg (by omega)]
      refine zv_sub (lv' := [(0, .ref (ob E 327)), (1, .int (zI y)), (2, .int (zI ((dWor U S y (j + 1)).1))), (3, .long (zL ((dWor U S y (j + 1)).2))), (5, .int (zI ((j + 1 : Nat) : Int)))]) [2, 3, 4, 5, 0] (zcons rfl (zcons rfl (zcons (zqI q25_66) (zcons (zqL q25_65) (zcons (zqI q25_64) rfl))))) ?_
      refine zv_eqS (τ := (mQ (thW σ 0) U S (yF U y) (j + 1))) (mQ_s _ _ _ _ _) ?_
      exact ih (j + 1) (by omega) (by omega)
set_option maxRecDepth 20000 in
theorem x1_X11_worst {l : Launch} (hfl : l.stackTraces = false) (E : zE) (σ : zS) (σc : zS) (U : zSU) (y : Int) (hB : zRb (gI σ 328) U) (hU : zSUp σc 29 U) (hy : -2147483648 ≤ y ∧ y < 2147483648) (hno : ¬ (U.s0 ≤ y ∧ y ≤ U.s0 + 999)) : zRi l E yX11_worst cX11_worst 8 .int (zrm 3 68) [.ref (ob E 327), .int (zI y)] σ (fun r τ => r = zI 0 ∧ mK σ τ 1) := by
  refine Met.ofW (cc := cX11_worst) (maxL := 8) (ret := (some .int)) (by decide +kernel) rfl ?_
  intro p e s m args below meth c s₁ B hml hv
  obtain ⟨rfl, hd⟩ := hv
  have C := zX_of (own := RX11) hfl B hml rfl hd rfl
  have hr := B.returns
  refine zV_go hd (Nat.le_of_ble_eq_true rfl) (lv := [(0, .ref (ob E 327)), (1, .int (zI y))]) rfl ?_
  have hnb : U.nb ≤ 8 := hU.2.2.1
  have hs0 := hU.2.2.2.1
  
  refine zv_aload_n C 0 dX11_worst_0 rfl rfl ?_
  refine zv_iconst (v := zI 0) C dX11_worst_1 rfl ?_
  refine zP10_10 C (by decide : kd 327 = _) kX11_50 dX11_worst_2 ?_
  refine zv_eqS (τ := (thW σ 0)) (rfl) ?_
  refine zv_aload_n C 0 dX11_worst_5 rfl rfl ?_
  refine zv_iload_n C 1 dX11_worst_6 rfl rfl ?_
  refine zv_iconst (v := zI 1) C dX11_worst_7 rfl ?_
  refine zv_cviD (st := []) C (c1_X11_noYear hfl E (thW σ 0) σc U (y) 1 hB hU (by omega) hno) mX11_noYear kX11_330 (by decide : kd 327 = 10) rfl rfl rfl ⟨rfl, rfl⟩ (show zfit (zrm 2 46) 3 (zrm 3 68) = true from rfl) (Nat.le_of_ble_eq_true rfl) dX11_worst_8 ⟨Nat.zero_le _, Nat.zero_le _⟩ ?_
  refine zv_if_eqZ (tgt := 16) C (by omega) dX11_worst_11 (by decide) (fun h11 => absurd h11 (by decide)) (fun h11 => ?_)
  refine zv_iconst (v := zI 0) C dX11_worst_14 rfl ?_
  exact zv_iret C hr rfl dX11_worst_15 ⟨rfl, by first | exact mK_th _ _ | exact mK_th2 _ _ _ | exact mK_C (mK_W (mK_th _ _) _ _) _ | exact mK_W (mK_th _ _) _ _⟩
set_option maxRecDepth 20000 in
theorem c_X11_error {l : Launch} (hfl : l.stackTraces = false) (E : zE) (σ : zS) (σc : zS) (U : zSU) (S : zST) (i : Nat) (y : Int) (hB : zRb (gI σ 328) U) (hU : zSUp σc 29 U) (hW : zRo (gI σ 332) U.nb S) (hS : zSTp σc 34 S) (hi : i < U.nb) (hy : U.s0 ≤ y ∧ y ≤ U.s0 + 999) : zRl l E yX11_error cX11_error 3 (zrm 7 179) [.ref (ob E 327), .int (zI (i : Int)), .int (zI y)] σ (fun r τ => r = zL (qErr U S i y) ∧ mK σ τ 0) := by
  refine Met.ofW (cc := cX11_error) (maxL := 3) (ret := (some .long)) (by decide +kernel) rfl ?_
  intro p e s m args below meth c s₁ B hml hv
  obtain ⟨rfl, hd⟩ := hv
  have C := zX_of (own := RX11) hfl B hml rfl hd rfl
  have hr := B.returns
  refine zV_go hd (Nat.le_of_ble_eq_true rfl) (lv := [(0, .ref (ob E 327)), (1, .int (zI (i : Int))), (2, .int (zI y))]) rfl ?_
  have hnb : U.nb ≤ 8 := hU.2.2.1
  have hs0 := hU.2.2.2.1
  have hyf := yF_e (U := U) (y := y) hs0 (by omega)
  
  refine zv_aload_n C 0 dX11_error_0 rfl rfl ?_
  refine zv_iload_n C 1 dX11_error_1 rfl rfl ?_
  refine zv_cviD (st := []) C (c0_X11_noBody hfl E σ σc U ((i : Int)) hB hU (by omega)) mX11_noBody kX11_319 (by decide : kd 327 = 10) rfl rfl rfl ⟨rfl, rfl⟩ (show zfit (zrm 1 25) 2 (zrm 7 179) = true from rfl) (Nat.le_of_ble_eq_true rfl) dX11_error_2 ⟨Nat.zero_le _, Nat.zero_le _⟩ ?_
  refine zv_if_neZ (tgt := 17) C (by omega) dX11_error_5 (by decide) (fun h5 => absurd h5 (by decide)) (fun h5 => ?_)
  refine zv_aload_n C 0 dX11_error_8 rfl rfl ?_
  refine zv_iload_n C 2 dX11_error_9 rfl rfl ?_
  refine zv_iconst (v := zI 2) C dX11_error_10 rfl ?_
  refine zv_cviD (st := []) C (c0_X11_noYear hfl E (thW σ 0) σc U (y) 2 hB hU (by omega)) mX11_noYear kX11_330 (by decide : kd 327 = 10) rfl rfl rfl ⟨rfl, rfl⟩ (show zfit (zrm 2 46) 3 (zrm 7 179) = true from rfl) (Nat.le_of_ble_eq_true rfl) dX11_error_11 ⟨Nat.zero_le _, Nat.zero_le _⟩ ?_
  refine zv_if_eqZ (tgt := 21) C (by omega) dX11_error_14 (by decide) (fun h14 => ?_) (fun h14 => absurd h14 (by decide))
  refine zv_aload_n C 0 dX11_error_21 rfl rfl ?_
  refine zv_iload_n C 1 dX11_error_22 rfl rfl ?_
  refine zv_iload_n C 2 dX11_error_23 rfl rfl ?_
  refine zv_cvlD (st := []) C (c_X11_errorAt hfl E (thW σ 0) σc U S i y hB hU hW hS hi (by omega)) mX11_errorAt kX11_306 (by decide : kd 327 = 10) rfl rfl rfl ⟨rfl, rfl⟩ (show zfit (zrm 6 157) 3 (zrm 7 179) = true from rfl) (Nat.le_of_ble_eq_true rfl) dX11_error_24 ⟨Nat.zero_le _, Nat.zero_le _⟩ ?_
  exact zv_lret C hr dX11_error_27 ⟨rfl, mK_E (mK_th _ _) _ _ _ _⟩
set_option maxRecDepth 20000 in
theorem x1_X11_error {l : Launch} (hfl : l.stackTraces = false) (E : zE) (σ : zS) (σc : zS) (U : zSU) (y z : Int) (hB : zRb (gI σ 328) U) (hU : zSUp σc 29 U) (hy : -2147483648 ≤ y ∧ y < 2147483648) (hno : ¬ (0 ≤ y ∧ y < U.nb)) : zRl l E yX11_error cX11_error 3 (zrm 2 46) [.ref (ob E 327), .int (zI y), .int (zI z)] σ (fun r τ => r = zL 0 ∧ mK σ τ 1) := by
  refine Met.ofW (cc := cX11_error) (maxL := 3) (ret := (some .long)) (by decide +kernel) rfl ?_
  intro p e s m args below meth c s₁ B hml hv
  obtain ⟨rfl, hd⟩ := hv
  have C := zX_of (own := RX11) hfl B hml rfl hd rfl
  have hr := B.returns
  refine zV_go hd (Nat.le_of_ble_eq_true rfl) (lv := [(0, .ref (ob E 327)), (1, .int (zI y)), (2, .int (zI z))]) rfl ?_
  have hnb : U.nb ≤ 8 := hU.2.2.1
  have hs0 := hU.2.2.2.1
  
  refine zv_aload_n C 0 dX11_error_0 rfl rfl ?_
  refine zv_iload_n C 1 dX11_error_1 rfl rfl ?_
  refine zv_cviD (st := []) C (c1_X11_noBody hfl E σ σc U (y) hB hU (by omega) hno) mX11_noBody kX11_319 (by decide : kd 327 = 10) rfl rfl rfl ⟨rfl, rfl⟩ (show zfit (zrm 1 25) 2 (zrm 2 46) = true from rfl) (Nat.le_of_ble_eq_true rfl) dX11_error_2 ⟨Nat.zero_le _, Nat.zero_le _⟩ ?_
  refine zv_if_neZ (tgt := 17) C (by omega) dX11_error_5 (by decide) (fun h5 => ?_) (fun h5 => absurd h5 (by decide))
  refine zv_lconst (v := zL 0) C dX11_error_17 (by decide) ?_
  refine zv_goto (tgt := 27) C dX11_error_18 (by decide) ?_
  exact zv_lret C hr dX11_error_27 ⟨rfl, by first | exact mK_th _ _ | exact mK_th2 _ _ _ | exact mK_C (mK_W (mK_th _ _) _ _) _ | exact mK_W (mK_th _ _) _ _⟩
set_option maxRecDepth 20000 in
theorem x2_X11_error {l : Launch} (hfl : l.stackTraces = false) (E : zE) (σ : zS) (σc : zS) (U : zSU) (i : Nat) (y : Int) (hB : zRb (gI σ 328) U) (hU : zSUp σc 29 U) (hi : i < U.nb) (hy : -2147483648 ≤ y ∧ y < 2147483648) (hno : ¬ (U.s0 ≤ y ∧ y ≤ U.s0 + 999)) : zRl l E yX11_error cX11_error 3 (zrm 3 68) [.ref (ob E 327), .int (zI (i : Int)), .int (zI y)] σ (fun r τ => r = zL 0 ∧ mK σ τ 2) := by
  refine Met.ofW (cc := cX11_error) (maxL := 3) (ret := (some .long)) (by decide +kernel) rfl ?_
  intro p e s m args below meth c s₁ B hml hv
  obtain ⟨rfl, hd⟩ := hv
  have C := zX_of (own := RX11) hfl B hml rfl hd rfl
  have hr := B.returns
  refine zV_go hd (Nat.le_of_ble_eq_true rfl) (lv := [(0, .ref (ob E 327)), (1, .int (zI (i : Int))), (2, .int (zI y))]) rfl ?_
  have hnb : U.nb ≤ 8 := hU.2.2.1
  have hs0 := hU.2.2.2.1
  
  refine zv_aload_n C 0 dX11_error_0 rfl rfl ?_
  refine zv_iload_n C 1 dX11_error_1 rfl rfl ?_
  refine zv_cviD (st := []) C (c0_X11_noBody hfl E σ σc U ((i : Int)) hB hU (by omega)) mX11_noBody kX11_319 (by decide : kd 327 = 10) rfl rfl rfl ⟨rfl, rfl⟩ (show zfit (zrm 1 25) 2 (zrm 3 68) = true from rfl) (Nat.le_of_ble_eq_true rfl) dX11_error_2 ⟨Nat.zero_le _, Nat.zero_le _⟩ ?_
  refine zv_if_neZ (tgt := 17) C (by omega) dX11_error_5 (by decide) (fun h5 => absurd h5 (by decide)) (fun h5 => ?_)
  refine zv_aload_n C 0 dX11_error_8 rfl rfl ?_
  refine zv_iload_n C 2 dX11_error_9 rfl rfl ?_
  refine zv_iconst (v := zI 2) C dX11_error_10 rfl ?_
  refine zv_cviD (st := []) C (c1_X11_noYear hfl E (thW σ 0) σc U (y) 2 hB hU (by omega) hno) mX11_noYear kX11_330 (by decide : kd 327 = 10) rfl rfl rfl ⟨rfl, rfl⟩ (show zfit (zrm 2 46) 3 (zrm 3 68) = true from rfl) (Nat.le_of_ble_eq_true rfl) dX11_error_11 ⟨Nat.zero_le _, Nat.zero_le _⟩ ?_
  refine zv_if_eqZ (tgt := 21) C (by omega) dX11_error_14 (by decide) (fun h14 => absurd h14 (by decide)) (fun h14 => ?_)
  refine zv_lconst (v := zL 0) C dX11_error_17 (by decide) ?_
  refine zv_goto (tgt := 27) C dX11_error_18 (by decide) ?_
  exact zv_lret C hr dX11_error_27 ⟨rfl, mK_th2 _ _ _⟩
set_option maxRecDepth 20000 in
theorem c_X11_errorBy {l : Launch} (hfl : l.stackTraces = false) (E : zE) (σ : zS) (σc : zS) (U : zSU) (S : zST) (i f : Nat) (hB : zRb (gI σ 328) U) (hU : zSUp σc 29 U) (hW : zRo (gI σ 332) U.nb S) (hS : zSTp σc 34 S) (hi : i < U.nb) (hf : f ≤ 400000) : zRl l E yX11_errorBy cX11_errorBy 3 (zrm 6 157) [.ref (ob E 327), .int (zI (i : Int)), .int (zI (f : Int))] σ (fun r τ => r = zL (qArc U S i (f : Int)) ∧ mK σ τ 0) := by
  refine Met.ofW (cc := cX11_errorBy) (maxL := 3) (ret := (some .long)) (by decide +kernel) rfl ?_
  intro p e s m args below meth c s₁ B hml hv
  obtain ⟨rfl, hd⟩ := hv
  have C := zX_of (own := RX11) hfl B hml rfl hd rfl
  have hr := B.returns
  refine zV_go hd (Nat.le_of_ble_eq_true rfl) (lv := [(0, .ref (ob E 327)), (1, .int (zI (i : Int))), (2, .int (zI (f : Int)))]) rfl ?_
  have hnb : U.nb ≤ 8 := hU.2.2.1
  have hs0 := hU.2.2.2.1
  
  refine zv_aload_n C 0 dX11_errorBy_0 rfl rfl ?_
  refine zv_iload_n C 1 dX11_errorBy_1 rfl rfl ?_
  refine zv_cviD (st := []) C (c0_X11_noBody hfl E σ σc U ((i : Int)) hB hU (by omega)) mX11_noBody kX11_319 (by decide : kd 327 = 10) rfl rfl rfl ⟨rfl, rfl⟩ (show zfit (zrm 1 25) 2 (zrm 6 157) = true from rfl) (Nat.le_of_ble_eq_true rfl) dX11_errorBy_2 ⟨Nat.zero_le _, Nat.zero_le _⟩ ?_
  refine zv_if_neZ (tgt := 28) C (by omega) dX11_errorBy_5 (by decide) (fun h5 => absurd h5 (by decide)) (fun h5 => ?_)
  refine zv_aload_n C 0 dX11_errorBy_8 rfl rfl ?_
  refine zv_iload_n C 2 dX11_errorBy_9 rfl rfl ?_
  refine zv_csiD (st := [.ref (ob E 327)]) C (c_X11_isDay hfl E (thW σ 0) ((f : Int)) (by omega)) mX11_isDay kX11_338 rfl ⟨rfl, rfl⟩ (show zfit (zrm 1 25) 1 (zrm 6 157) = true from rfl) (Nat.le_of_ble_eq_true rfl) dX11_errorBy_10 ⟨Nat.zero_le _, Nat.zero_le _⟩ ?_
  refine zv_if_neB (tgt := 20) C dX11_errorBy_13 (by decide) (fun h13 => ?_) (fun h13 => ?_)
  · skip
    refine zv_iconst (v := zI 0) C dX11_errorBy_20 rfl ?_
    refine zv_iconst (v := zI 2) C dX11_errorBy_21 rfl ?_
    refine zv_cviD (st := []) C (c0_X11_fails hfl E (thW σ 0) 2) mX11_fails kX11_309 (by decide : kd 327 = 10) rfl rfl rfl ⟨rfl, rfl⟩ (show zfit (zrm 0 0) 3 (zrm 6 157) = true from rfl) (Nat.le_of_ble_eq_true rfl) dX11_errorBy_22 ⟨Nat.zero_le _, Nat.zero_le _⟩ ?_
    refine zv_if_eqZ (tgt := 32) C (by omega) dX11_errorBy_25 (by decide) (fun h25 => ?_) (fun h25 => absurd h25 (by decide))
    refine zv_aload_n C 0 dX11_errorBy_32 rfl rfl ?_
    refine zv_iload_n C 1 dX11_errorBy_33 rfl rfl ?_
    refine zv_iload_n C 2 dX11_errorBy_34 rfl rfl ?_
    refine zv_cvlD (st := []) C (c_X11_errorNow hfl E (thW σ 0) σc U S i f hB hU hW hS hi (by omega)) mX11_errorNow kX11_302 (by decide : kd 327 = 10) rfl rfl rfl ⟨rfl, rfl⟩ (show zfit (zrm 5 127) 11 (zrm 6 157) = true from rfl) (Nat.le_of_ble_eq_true rfl) dX11_errorBy_35 ⟨Nat.zero_le _, Nat.zero_le _⟩ ?_
    exact zv_lret C hr dX11_errorBy_38 ⟨rfl, mK_E (mK_th _ _) _ _ _ _⟩
  · skip
    refine zv_iconst (v := zI 1) C dX11_errorBy_16 rfl ?_
    refine zv_goto (tgt := 21) C dX11_errorBy_17 (by decide) ?_
    refine zv_iconst (v := zI 2) C dX11_errorBy_21 rfl ?_
    exfalso
    omega
set_option maxRecDepth 20000 in
theorem x1_X11_errorBy {l : Launch} (hfl : l.stackTraces = false) (E : zE) (σ : zS) (σc : zS) (U : zSU) (y z : Int) (hB : zRb (gI σ 328) U) (hU : zSUp σc 29 U) (hy : -2147483648 ≤ y ∧ y < 2147483648) (hno : ¬ (0 ≤ y ∧ y < U.nb)) : zRl l E yX11_errorBy cX11_errorBy 3 (zrm 2 46) [.ref (ob E 327), .int (zI y), .int (zI z)] σ (fun r τ => r = zL 0 ∧ mK σ τ 1) := by
  refine Met.ofW (cc := cX11_errorBy) (maxL := 3) (ret := (some .long)) (by decide +kernel) rfl ?_
  intro p e s m args below meth c s₁ B hml hv
  obtain ⟨rfl, hd⟩ := hv
  have C := zX_of (own := RX11) hfl B hml rfl hd rfl
  have hr := B.returns
  refine zV_go hd (Nat.le_of_ble_eq_true rfl) (lv := [(0, .ref (ob E 327)), (1, .int (zI y)), (2, .int (zI z))]) rfl ?_
  have hnb : U.nb ≤ 8 := hU.2.2.1
  have hs0 := hU.2.2.2.1
  
  refine zv_aload_n C 0 dX11_errorBy_0 rfl rfl ?_
  refine zv_iload_n C 1 dX11_errorBy_1 rfl rfl ?_
  refine zv_cviD (st := []) C (c1_X11_noBody hfl E σ σc U (y) hB hU (by omega) hno) mX11_noBody kX11_319 (by decide : kd 327 = 10) rfl rfl rfl ⟨rfl, rfl⟩ (show zfit (zrm 1 25) 2 (zrm 2 46) = true from rfl) (Nat.le_of_ble_eq_true rfl) dX11_errorBy_2 ⟨Nat.zero_le _, Nat.zero_le _⟩ ?_
  refine zv_if_neZ (tgt := 28) C (by omega) dX11_errorBy_5 (by decide) (fun h5 => ?_) (fun h5 => absurd h5 (by decide))
  refine zv_lconst (v := zL 0) C dX11_errorBy_28 (by decide) ?_
  refine zv_goto (tgt := 38) C dX11_errorBy_29 (by decide) ?_
  exact zv_lret C hr dX11_errorBy_38 ⟨rfl, by first | exact mK_th _ _ | exact mK_th2 _ _ _ | exact mK_C (mK_W (mK_th _ _) _ _) _ | exact mK_W (mK_th _ _) _ _⟩
set_option maxRecDepth 20000 in
theorem x2_X11_errorBy {l : Launch} (hfl : l.stackTraces = false) (E : zE) (σ : zS) (σc : zS) (U : zSU) (i : Nat) (y : Int) (hB : zRb (gI σ 328) U) (hU : zSUp σc 29 U) (hi : i < U.nb) (hy : -2147483648 ≤ y ∧ y < 2147483648) (hno : ¬ (0 ≤ y ∧ y ≤ 400000)) : zRl l E yX11_errorBy cX11_errorBy 3 (zrm 2 46) [.ref (ob E 327), .int (zI (i : Int)), .int (zI y)] σ (fun r τ => r = zL 0 ∧ mK σ τ 2) := by
  refine Met.ofW (cc := cX11_errorBy) (maxL := 3) (ret := (some .long)) (by decide +kernel) rfl ?_
  intro p e s m args below meth c s₁ B hml hv
  obtain ⟨rfl, hd⟩ := hv
  have C := zX_of (own := RX11) hfl B hml rfl hd rfl
  have hr := B.returns
  refine zV_go hd (Nat.le_of_ble_eq_true rfl) (lv := [(0, .ref (ob E 327)), (1, .int (zI (i : Int))), (2, .int (zI y))]) rfl ?_
  have hnb : U.nb ≤ 8 := hU.2.2.1
  have hs0 := hU.2.2.2.1
  
  refine zv_aload_n C 0 dX11_errorBy_0 rfl rfl ?_
  refine zv_iload_n C 1 dX11_errorBy_1 rfl rfl ?_
  refine zv_cviD (st := []) C (c0_X11_noBody hfl E σ σc U ((i : Int)) hB hU (by omega)) mX11_noBody kX11_319 (by decide : kd 327 = 10) rfl rfl rfl ⟨rfl, rfl⟩ (show zfit (zrm 1 25) 2 (zrm 2 46) = true from rfl) (Nat.le_of_ble_eq_true rfl) dX11_errorBy_2 ⟨Nat.zero_le _, Nat.zero_le _⟩ ?_
  refine zv_if_neZ (tgt := 28) C (by omega) dX11_errorBy_5 (by decide) (fun h5 => absurd h5 (by decide)) (fun h5 => ?_)
  refine zv_aload_n C 0 dX11_errorBy_8 rfl rfl ?_
  refine zv_iload_n C 2 dX11_errorBy_9 rfl rfl ?_
  refine zv_csiD (st := [.ref (ob E 327)]) C (c_X11_isDay hfl E (thW σ 0) (y) (by omega)) mX11_isDay kX11_338 rfl ⟨rfl, rfl⟩ (show zfit (zrm 1 25) 1 (zrm 2 46) = true from rfl) (Nat.le_of_ble_eq_true rfl) dX11_errorBy_10 ⟨Nat.zero_le _, Nat.zero_le _⟩ ?_
  refine zv_if_neB (tgt := 20) C dX11_errorBy_13 (by decide) (fun h13 => ?_) (fun h13 => ?_)
  · skip
    refine zv_iconst (v := zI 0) C dX11_errorBy_20 rfl ?_
    refine zv_iconst (v := zI 2) C dX11_errorBy_21 rfl ?_
    exfalso
    omega
  · skip
    refine zv_iconst (v := zI 1) C dX11_errorBy_16 rfl ?_
    refine zv_goto (tgt := 21) C dX11_errorBy_17 (by decide) ?_
    refine zv_iconst (v := zI 2) C dX11_errorBy_21 rfl ?_
    refine zv_cviD (st := []) C (c1_X11_fails hfl E (thW σ 0) 2) mX11_fails kX11_309 (by decide : kd 327 = 10) rfl rfl rfl ⟨rfl, rfl⟩ (show zfit (zrm 0 0) 3 (zrm 2 46) = true from rfl) (Nat.le_of_ble_eq_true rfl) dX11_errorBy_22 ⟨Nat.zero_le _, Nat.zero_le _⟩ ?_
    refine zv_if_eqZ (tgt := 32) C (by omega) dX11_errorBy_25 (by decide) (fun h25 => absurd h25 (by decide)) (fun h25 => ?_)
    refine zv_lconst (v := zL 0) C dX11_errorBy_28 (by decide) ?_
    refine zv_goto (tgt := 38) C dX11_errorBy_29 (by decide) ?_
    exact zv_lret C hr dX11_errorBy_38 ⟨rfl, mK_th2 _ _ _⟩
set_option maxRecDepth 20000 in
theorem c_X11_angle {l : Launch} (hfl : l.stackTraces = false) (E : zE) (σ : zS) (σc : zS) (U : zSU) (S : zST) (i f : Nat) (hB : zRb (gI σ 328) U) (hU : zSUp σc 29 U) (hW : zRo (gI σ 332) U.nb S) (hS : zSTp σc 34 S) (hi : i < U.nb) (hf : f ≤ 400000) : zRi l E yX11_angle cX11_angle 3 .int (zrm 6 149) [.ref (ob E 327), .int (zI (i : Int)), .int (zI (f : Int))] σ (fun r τ => r = zI (qAng U S i (f : Int)) ∧ mK σ τ 0) := by
  refine Met.ofW (cc := cX11_angle) (maxL := 3) (ret := (some .int)) (by decide +kernel) rfl ?_
  intro p e s m args below meth c s₁ B hml hv
  obtain ⟨rfl, hd⟩ := hv
  have C := zX_of (own := RX11) hfl B hml rfl hd rfl
  have hr := B.returns
  refine zV_go hd (Nat.le_of_ble_eq_true rfl) (lv := [(0, .ref (ob E 327)), (1, .int (zI (i : Int))), (2, .int (zI (f : Int)))]) rfl ?_
  have hnb : U.nb ≤ 8 := hU.2.2.1
  have hs0 := hU.2.2.2.1
  
  refine zv_aload_n C 0 dX11_angle_0 rfl rfl ?_
  refine zv_iload_n C 1 dX11_angle_1 rfl rfl ?_
  refine zv_cviD (st := []) C (c0_X11_noBody hfl E σ σc U ((i : Int)) hB hU (by omega)) mX11_noBody kX11_319 (by decide : kd 327 = 10) rfl rfl rfl ⟨rfl, rfl⟩ (show zfit (zrm 1 25) 2 (zrm 6 149) = true from rfl) (Nat.le_of_ble_eq_true rfl) dX11_angle_2 ⟨Nat.zero_le _, Nat.zero_le _⟩ ?_
  refine zv_if_neZ (tgt := 28) C (by omega) dX11_angle_5 (by decide) (fun h5 => absurd h5 (by decide)) (fun h5 => ?_)
  refine zv_aload_n C 0 dX11_angle_8 rfl rfl ?_
  refine zv_iload_n C 2 dX11_angle_9 rfl rfl ?_
  refine zv_csiD (st := [.ref (ob E 327)]) C (c_X11_isDay hfl E (thW σ 0) ((f : Int)) (by omega)) mX11_isDay kX11_338 rfl ⟨rfl, rfl⟩ (show zfit (zrm 1 25) 1 (zrm 6 149) = true from rfl) (Nat.le_of_ble_eq_true rfl) dX11_angle_10 ⟨Nat.zero_le _, Nat.zero_le _⟩ ?_
  refine zv_if_neB (tgt := 20) C dX11_angle_13 (by decide) (fun h13 => ?_) (fun h13 => ?_)
  · skip
    refine zv_iconst (v := zI 0) C dX11_angle_20 rfl ?_
    refine zv_iconst (v := zI 2) C dX11_angle_21 rfl ?_
    refine zv_cviD (st := []) C (c0_X11_fails hfl E (thW σ 0) 2) mX11_fails kX11_309 (by decide : kd 327 = 10) rfl rfl rfl ⟨rfl, rfl⟩ (show zfit (zrm 0 0) 3 (zrm 6 149) = true from rfl) (Nat.le_of_ble_eq_true rfl) dX11_angle_22 ⟨Nat.zero_le _, Nat.zero_le _⟩ ?_
    refine zv_if_eqZ (tgt := 32) C (by omega) dX11_angle_25 (by decide) (fun h25 => ?_) (fun h25 => absurd h25 (by decide))
    refine zv_aload_n C 0 dX11_angle_32 rfl rfl ?_
    refine zv_iload_n C 1 dX11_angle_33 rfl rfl ?_
    refine zv_iload_n C 2 dX11_angle_34 rfl rfl ?_
    refine zv_cviD (st := []) C (c_X11_angleOf hfl E (thW σ 0) σc U S i f hB hU hW hS hi hf) mX11_angleOf kX11_341 (by decide : kd 327 = 10) rfl rfl rfl ⟨rfl, rfl⟩ (show zfit (zrm 5 127) 3 (zrm 6 149) = true from rfl) (Nat.le_of_ble_eq_true rfl) dX11_angle_35 ⟨Nat.zero_le _, Nat.zero_le _⟩ ?_
    exact zv_iret C hr rfl dX11_angle_38 ⟨rfl, by first | exact mK_th _ _ | exact mK_th2 _ _ _ | exact mK_C (mK_W (mK_th _ _) _ _) _ | exact mK_W (mK_th _ _) _ _⟩
  · skip
    refine zv_iconst (v := zI 1) C dX11_angle_16 rfl ?_
    refine zv_goto (tgt := 21) C dX11_angle_17 (by decide) ?_
    refine zv_iconst (v := zI 2) C dX11_angle_21 rfl ?_
    exfalso
    omega
set_option maxRecDepth 20000 in
theorem x1_X11_angle {l : Launch} (hfl : l.stackTraces = false) (E : zE) (σ : zS) (σc : zS) (U : zSU) (y z : Int) (hB : zRb (gI σ 328) U) (hU : zSUp σc 29 U) (hy : -2147483648 ≤ y ∧ y < 2147483648) (hno : ¬ (0 ≤ y ∧ y < U.nb)) : zRi l E yX11_angle cX11_angle 3 .int (zrm 2 46) [.ref (ob E 327), .int (zI y), .int (zI z)] σ (fun r τ => r = zI 0 ∧ mK σ τ 1) := by
  refine Met.ofW (cc := cX11_angle) (maxL := 3) (ret := (some .int)) (by decide +kernel) rfl ?_
  intro p e s m args below meth c s₁ B hml hv
  obtain ⟨rfl, hd⟩ := hv
  have C := zX_of (own := RX11) hfl B hml rfl hd rfl
  have hr := B.returns
  refine zV_go hd (Nat.le_of_ble_eq_true rfl) (lv := [(0, .ref (ob E 327)), (1, .int (zI y)), (2, .int (zI z))]) rfl ?_
  have hnb : U.nb ≤ 8 := hU.2.2.1
  have hs0 := hU.2.2.2.1
  
  refine zv_aload_n C 0 dX11_angle_0 rfl rfl ?_
  refine zv_iload_n C 1 dX11_angle_1 rfl rfl ?_
  refine zv_cviD (st := []) C (c1_X11_noBody hfl E σ σc U (y) hB hU (by omega) hno) mX11_noBody kX11_319 (by decide : kd 327 = 10) rfl rfl rfl ⟨rfl, rfl⟩ (show zfit (zrm 1 25) 2 (zrm 2 46) = true from rfl) (Nat.le_of_ble_eq_true rfl) dX11_angle_2 ⟨Nat.zero_le _, Nat.zero_le _⟩ ?_
  refine zv_if_neZ (tgt := 28) C (by omega) dX11_angle_5 (by decide) (fun h5 => ?_) (fun h5 => absurd h5 (by decide))
  refine zv_iconst (v := zI 0) C dX11_angle_28 rfl ?_
  refine zv_goto (tgt := 38) C dX11_angle_29 (by decide) ?_
  exact zv_iret C hr rfl dX11_angle_38 ⟨rfl, by first | exact mK_th _ _ | exact mK_th2 _ _ _ | exact mK_C (mK_W (mK_th _ _) _ _) _ | exact mK_W (mK_th _ _) _ _⟩
set_option maxRecDepth 20000 in
theorem x2_X11_angle {l : Launch} (hfl : l.stackTraces = false) (E : zE) (σ : zS) (σc : zS) (U : zSU) (i : Nat) (y : Int) (hB : zRb (gI σ 328) U) (hU : zSUp σc 29 U) (hi : i < U.nb) (hy : -2147483648 ≤ y ∧ y < 2147483648) (hno : ¬ (0 ≤ y ∧ y ≤ 400000)) : zRi l E yX11_angle cX11_angle 3 .int (zrm 2 46) [.ref (ob E 327), .int (zI (i : Int)), .int (zI y)] σ (fun r τ => r = zI 0 ∧ mK σ τ 2) := by
  refine Met.ofW (cc := cX11_angle) (maxL := 3) (ret := (some .int)) (by decide +kernel) rfl ?_
  intro p e s m args below meth c s₁ B hml hv
  obtain ⟨rfl, hd⟩ := hv
  have C := zX_of (own := RX11) hfl B hml rfl hd rfl
  have hr := B.returns
  refine zV_go hd (Nat.le_of_ble_eq_true rfl) (lv := [(0, .ref (ob E 327)), (1, .int (zI (i : Int))), (2, .int (zI y))]) rfl ?_
  have hnb : U.nb ≤ 8 := hU.2.2.1
  have hs0 := hU.2.2.2.1
  
  refine zv_aload_n C 0 dX11_angle_0 rfl rfl ?_
  refine zv_iload_n C 1 dX11_angle_1 rfl rfl ?_
  refine zv_cviD (st := []) C (c0_X11_noBody hfl E σ σc U ((i : Int)) hB hU (by omega)) mX11_noBody kX11_319 (by decide : kd 327 = 10) rfl rfl rfl ⟨rfl, rfl⟩ (show zfit (zrm 1 25) 2 (zrm 2 46) = true from rfl) (Nat.le_of_ble_eq_true rfl) dX11_angle_2 ⟨Nat.zero_le _, Nat.zero_le _⟩ ?_
  refine zv_if_neZ (tgt := 28) C (by omega) dX11_angle_5 (by decide) (fun h5 => absurd h5 (by decide)) (fun h5 => ?_)
  refine zv_aload_n C 0 dX11_angle_8 rfl rfl ?_
  refine zv_iload_n C 2 dX11_angle_9 rfl rfl ?_
  refine zv_csiD (st := [.ref (ob E 327)]) C (c_X11_isDay hfl E (thW σ 0) (y) (by omega)) mX11_isDay kX11_338 rfl ⟨rfl, rfl⟩ (show zfit (zrm 1 25) 1 (zrm 2 46) = true from rfl) (Nat.le_of_ble_eq_true rfl) dX11_angle_10 ⟨Nat.zero_le _, Nat.zero_le _⟩ ?_
  refine zv_if_neB (tgt := 20) C dX11_angle_13 (by decide) (fun h13 => ?_) (fun h13 => ?_)
  · skip
    refine zv_iconst (v := zI 0) C dX11_angle_20 rfl ?_
    refine zv_iconst (v := zI 2) C dX11_angle_21 rfl ?_
    exfalso
    omega
  · skip
    refine zv_iconst (v := zI 1) C dX11_angle_16 rfl ?_
    refine zv_goto (tgt := 21) C dX11_angle_17 (by decide) ?_
    refine zv_iconst (v := zI 2) C dX11_angle_21 rfl ?_
    refine zv_cviD (st := []) C (c1_X11_fails hfl E (thW σ 0) 2) mX11_fails kX11_309 (by decide : kd 327 = 10) rfl rfl rfl ⟨rfl, rfl⟩ (show zfit (zrm 0 0) 3 (zrm 2 46) = true from rfl) (Nat.le_of_ble_eq_true rfl) dX11_angle_22 ⟨Nat.zero_le _, Nat.zero_le _⟩ ?_
    refine zv_if_eqZ (tgt := 32) C (by omega) dX11_angle_25 (by decide) (fun h25 => absurd h25 (by decide)) (fun h25 => ?_)
    refine zv_iconst (v := zI 0) C dX11_angle_28 rfl ?_
    refine zv_goto (tgt := 38) C dX11_angle_29 (by decide) ?_
    exact zv_iret C hr rfl dX11_angle_38 ⟨rfl, mK_th2 _ _ _⟩
set_option maxRecDepth 20000 in
theorem c_X11_trueAngle {l : Launch} (hfl : l.stackTraces = false) (E : zE) (σ : zS) (σc : zS) (U : zSU) (S : zST) (i f : Nat) (hB : zRb (gI σ 328) U) (hU : zSUp σc 29 U) (hW : zRo (gI σ 332) U.nb S) (hS : zSTp σc 34 S) (hi : i < U.nb) (hf : f ≤ 400000) : zRi l E yX11_trueAngle cX11_trueAngle 3 .int (zrm 4 97) [.ref (ob E 327), .int (zI (i : Int)), .int (zI (f : Int))] σ (fun r τ => r = zI ((qDue U i).1 * (f : Int) % (qDue U i).2 * 1296000 / (qDue U i).2) ∧ mK σ τ 0) := by
  refine Met.ofW (cc := cX11_trueAngle) (maxL := 3) (ret := (some .int)) (by decide +kernel) rfl ?_
  intro p e s m args below meth c s₁ B hml hv
  obtain ⟨rfl, hd⟩ := hv
  have C := zX_of (own := RX11) hfl B hml rfl hd rfl
  have hr := B.returns
  refine zV_go hd (Nat.le_of_ble_eq_true rfl) (lv := [(0, .ref (ob E 327)), (1, .int (zI (i : Int))), (2, .int (zI (f : Int)))]) rfl ?_
  have hnb : U.nb ≤ 8 := hU.2.2.1
  have hs0 := hU.2.2.2.1
  have hqd := qDue_b hU hi
  have hm := mul_b (a := (f : Int)) (b := (qDue U i).1) (A := 400000) (by omega) hqd.1
  refine zv_aload_n C 0 dX11_trueAngle_0 rfl rfl ?_
  refine zv_iload_n C 1 dX11_trueAngle_1 rfl rfl ?_
  refine zv_cviD (st := []) C (c0_X11_noBody hfl E σ σc U ((i : Int)) hB hU (by omega)) mX11_noBody kX11_319 (by decide : kd 327 = 10) rfl rfl rfl ⟨rfl, rfl⟩ (show zfit (zrm 1 25) 2 (zrm 4 97) = true from rfl) (Nat.le_of_ble_eq_true rfl) dX11_trueAngle_2 ⟨Nat.zero_le _, Nat.zero_le _⟩ ?_
  refine zv_if_neZ (tgt := 28) C (by omega) dX11_trueAngle_5 (by decide) (fun h5 => absurd h5 (by decide)) (fun h5 => ?_)
  refine zv_aload_n C 0 dX11_trueAngle_8 rfl rfl ?_
  refine zv_iload_n C 2 dX11_trueAngle_9 rfl rfl ?_
  refine zv_csiD (st := [.ref (ob E 327)]) C (c_X11_isDay hfl E (thW σ 0) ((f : Int)) (by omega)) mX11_isDay kX11_338 rfl ⟨rfl, rfl⟩ (show zfit (zrm 1 25) 1 (zrm 4 97) = true from rfl) (Nat.le_of_ble_eq_true rfl) dX11_trueAngle_10 ⟨Nat.zero_le _, Nat.zero_le _⟩ ?_
  refine zv_if_neB (tgt := 20) C dX11_trueAngle_13 (by decide) (fun h13 => ?_) (fun h13 => ?_)
  · skip
    refine zv_iconst (v := zI 0) C dX11_trueAngle_20 rfl ?_
    refine zv_iconst (v := zI 2) C dX11_trueAngle_21 rfl ?_
    refine zv_cviD (st := []) C (c0_X11_fails hfl E (thW σ 0) 2) mX11_fails kX11_309 (by decide : kd 327 = 10) rfl rfl rfl ⟨rfl, rfl⟩ (show zfit (zrm 0 0) 3 (zrm 4 97) = true from rfl) (Nat.le_of_ble_eq_true rfl) dX11_trueAngle_22 ⟨Nat.zero_le _, Nat.zero_le _⟩ ?_
    refine zv_if_eqZ (tgt := 30) C (by omega) dX11_trueAngle_25 (by decide) (fun h25 => ?_) (fun h25 => absurd h25 (by decide))
    refine zv_aload_n C 0 dX11_trueAngle_30 rfl rfl ?_
    refine zv_iload_n C 1 dX11_trueAngle_31 rfl rfl ?_
    refine zv_cvvD (st := []) C (c_X11_due hfl E (thW σ 0) σc U i hB hU hi) mX11_due kX11_275 (by decide : kd 327 = 10) rfl rfl rfl ⟨rfl, rfl⟩ (show zfit (zrm 3 76) 2 (zrm 4 97) = true from rfl) (Nat.le_of_ble_eq_true rfl) dX11_trueAngle_32 ⟨Nat.zero_le _, Nat.zero_le _⟩ ?_
    refine zv_aload_n C 0 dX11_trueAngle_35 rfl rfl ?_
    refine zv_iload_n C 2 dX11_trueAngle_36 rfl rfl ?_
    refine zv_cviD (st := []) C (c_X11_angleNow hfl E (mW (thW σ 0) (qDue U i).1 (qDue U i).2) (qDue U i).1 (qDue U i).2 (f : Int) (mW_r _ _ _).1 (mW_r _ _ _).2 (by omega) (by omega) (by omega)) mX11_angleNow kX11_290 (by decide : kd 327 = 10) rfl rfl rfl ⟨rfl, rfl⟩ (show zfit (zrm 1 25) 2 (zrm 4 97) = true from rfl) (Nat.le_of_ble_eq_true rfl) dX11_trueAngle_37 ⟨Nat.zero_le _, Nat.zero_le _⟩ ?_
    refine zv_eqi (y := (zI ((qDue U i).1 * (f : Int) % (qDue U i).2 * 1296000 / (qDue U i).2))) (by rw [Int.mul_comm (f : Int)]) ?_
    exact zv_iret C hr rfl dX11_trueAngle_40 ⟨rfl, by first | exact mK_th _ _ | exact mK_th2 _ _ _ | exact mK_C (mK_W (mK_th _ _) _ _) _ | exact mK_W (mK_th _ _) _ _⟩
  · skip
    refine zv_iconst (v := zI 1) C dX11_trueAngle_16 rfl ?_
    refine zv_goto (tgt := 21) C dX11_trueAngle_17 (by decide) ?_
    refine zv_iconst (v := zI 2) C dX11_trueAngle_21 rfl ?_
    exfalso
    omega
set_option maxRecDepth 20000 in
theorem x1_X11_trueAngle {l : Launch} (hfl : l.stackTraces = false) (E : zE) (σ : zS) (σc : zS) (U : zSU) (y z : Int) (hB : zRb (gI σ 328) U) (hU : zSUp σc 29 U) (hy : -2147483648 ≤ y ∧ y < 2147483648) (hno : ¬ (0 ≤ y ∧ y < U.nb)) : zRi l E yX11_trueAngle cX11_trueAngle 3 .int (zrm 2 46) [.ref (ob E 327), .int (zI y), .int (zI z)] σ (fun r τ => r = zI 0 ∧ mK σ τ 1) := by
  refine Met.ofW (cc := cX11_trueAngle) (maxL := 3) (ret := (some .int)) (by decide +kernel) rfl ?_
  intro p e s m args below meth c s₁ B hml hv
  obtain ⟨rfl, hd⟩ := hv
  have C := zX_of (own := RX11) hfl B hml rfl hd rfl
  have hr := B.returns
  refine zV_go hd (Nat.le_of_ble_eq_true rfl) (lv := [(0, .ref (ob E 327)), (1, .int (zI y)), (2, .int (zI z))]) rfl ?_
  have hnb : U.nb ≤ 8 := hU.2.2.1
  have hs0 := hU.2.2.2.1
  
  refine zv_aload_n C 0 dX11_trueAngle_0 rfl rfl ?_
  refine zv_iload_n C 1 dX11_trueAngle_1 rfl rfl ?_
  refine zv_cviD (st := []) C (c1_X11_noBody hfl E σ σc U (y) hB hU (by omega) hno) mX11_noBody kX11_319 (by decide : kd 327 = 10) rfl rfl rfl ⟨rfl, rfl⟩ (show zfit (zrm 1 25) 2 (zrm 2 46) = true from rfl) (Nat.le_of_ble_eq_true rfl) dX11_trueAngle_2 ⟨Nat.zero_le _, Nat.zero_le _⟩ ?_
  refine zv_if_neZ (tgt := 28) C (by omega) dX11_trueAngle_5 (by decide) (fun h5 => ?_) (fun h5 => absurd h5 (by decide))
  refine zv_iconst (v := zI 0) C dX11_trueAngle_28 rfl ?_
  exact zv_iret C hr rfl dX11_trueAngle_29 ⟨rfl, by first | exact mK_th _ _ | exact mK_th2 _ _ _ | exact mK_C (mK_W (mK_th _ _) _ _) _ | exact mK_W (mK_th _ _) _ _⟩
set_option maxRecDepth 20000 in
theorem x2_X11_trueAngle {l : Launch} (hfl : l.stackTraces = false) (E : zE) (σ : zS) (σc : zS) (U : zSU) (i : Nat) (y : Int) (hB : zRb (gI σ 328) U) (hU : zSUp σc 29 U) (hi : i < U.nb) (hy : -2147483648 ≤ y ∧ y < 2147483648) (hno : ¬ (0 ≤ y ∧ y ≤ 400000)) : zRi l E yX11_trueAngle cX11_trueAngle 3 .int (zrm 2 46) [.ref (ob E 327), .int (zI (i : Int)), .int (zI y)] σ (fun r τ => r = zI 0 ∧ mK σ τ 2) := by
  refine Met.ofW (cc := cX11_trueAngle) (maxL := 3) (ret := (some .int)) (by decide +kernel) rfl ?_
  intro p e s m args below meth c s₁ B hml hv
  obtain ⟨rfl, hd⟩ := hv
  have C := zX_of (own := RX11) hfl B hml rfl hd rfl
  have hr := B.returns
  refine zV_go hd (Nat.le_of_ble_eq_true rfl) (lv := [(0, .ref (ob E 327)), (1, .int (zI (i : Int))), (2, .int (zI y))]) rfl ?_
  have hnb : U.nb ≤ 8 := hU.2.2.1
  have hs0 := hU.2.2.2.1
  
  refine zv_aload_n C 0 dX11_trueAngle_0 rfl rfl ?_
  refine zv_iload_n C 1 dX11_trueAngle_1 rfl rfl ?_
  refine zv_cviD (st := []) C (c0_X11_noBody hfl E σ σc U ((i : Int)) hB hU (by omega)) mX11_noBody kX11_319 (by decide : kd 327 = 10) rfl rfl rfl ⟨rfl, rfl⟩ (show zfit (zrm 1 25) 2 (zrm 2 46) = true from rfl) (Nat.le_of_ble_eq_true rfl) dX11_trueAngle_2 ⟨Nat.zero_le _, Nat.zero_le _⟩ ?_
  refine zv_if_neZ (tgt := 28) C (by omega) dX11_trueAngle_5 (by decide) (fun h5 => absurd h5 (by decide)) (fun h5 => ?_)
  refine zv_aload_n C 0 dX11_trueAngle_8 rfl rfl ?_
  refine zv_iload_n C 2 dX11_trueAngle_9 rfl rfl ?_
  refine zv_csiD (st := [.ref (ob E 327)]) C (c_X11_isDay hfl E (thW σ 0) (y) (by omega)) mX11_isDay kX11_338 rfl ⟨rfl, rfl⟩ (show zfit (zrm 1 25) 1 (zrm 2 46) = true from rfl) (Nat.le_of_ble_eq_true rfl) dX11_trueAngle_10 ⟨Nat.zero_le _, Nat.zero_le _⟩ ?_
  refine zv_if_neB (tgt := 20) C dX11_trueAngle_13 (by decide) (fun h13 => ?_) (fun h13 => ?_)
  · skip
    refine zv_iconst (v := zI 0) C dX11_trueAngle_20 rfl ?_
    refine zv_iconst (v := zI 2) C dX11_trueAngle_21 rfl ?_
    exfalso
    omega
  · skip
    refine zv_iconst (v := zI 1) C dX11_trueAngle_16 rfl ?_
    refine zv_goto (tgt := 21) C dX11_trueAngle_17 (by decide) ?_
    refine zv_iconst (v := zI 2) C dX11_trueAngle_21 rfl ?_
    refine zv_cviD (st := []) C (c1_X11_fails hfl E (thW σ 0) 2) mX11_fails kX11_309 (by decide : kd 327 = 10) rfl rfl rfl ⟨rfl, rfl⟩ (show zfit (zrm 0 0) 3 (zrm 2 46) = true from rfl) (Nat.le_of_ble_eq_true rfl) dX11_trueAngle_22 ⟨Nat.zero_le _, Nat.zero_le _⟩ ?_
    refine zv_if_eqZ (tgt := 30) C (by omega) dX11_trueAngle_25 (by decide) (fun h25 => absurd h25 (by decide)) (fun h25 => ?_)
    refine zv_iconst (v := zI 0) C dX11_trueAngle_28 rfl ?_
    exact zv_iret C hr rfl dX11_trueAngle_29 ⟨rfl, mK_th2 _ _ _⟩
set_option maxRecDepth 20000 in
theorem c_X11_numerator {l : Launch} (hfl : l.stackTraces = false) (E : zE) (σ : zS) (σc : zS) (U : zSU) (S : zST) (i : Nat) (hB : zRb (gI σ 328) U) (hU : zSUp σc 29 U) (hW : zRo (gI σ 332) U.nb S) (hS : zSTp σc 34 S) (hi : i < U.nb) : zRl l E yX11_numerator cX11_numerator 2 (zrm 5 127) [.ref (ob E 327), .int (zI (i : Int))] σ (fun r τ => r = zL (qPtr U S i).1 ∧ mK σ τ 0) := by
  refine Met.ofW (cc := cX11_numerator) (maxL := 2) (ret := (some .long)) (by decide +kernel) rfl ?_
  intro p e s m args below meth c s₁ B hml hv
  obtain ⟨rfl, hd⟩ := hv
  have C := zX_of (own := RX11) hfl B hml rfl hd rfl
  have hr := B.returns
  refine zV_go hd (Nat.le_of_ble_eq_true rfl) (lv := [(0, .ref (ob E 327)), (1, .int (zI (i : Int)))]) rfl ?_
  have hnb : U.nb ≤ 8 := hU.2.2.1
  have hs0 := hU.2.2.2.1
  
  refine zv_aload_n C 0 dX11_numerator_0 rfl rfl ?_
  refine zv_iload_n C 1 dX11_numerator_1 rfl rfl ?_
  refine zv_cviD (st := []) C (c0_X11_noBody hfl E σ σc U ((i : Int)) hB hU (by omega)) mX11_noBody kX11_319 (by decide : kd 327 = 10) rfl rfl rfl ⟨rfl, rfl⟩ (show zfit (zrm 1 25) 2 (zrm 5 127) = true from rfl) (Nat.le_of_ble_eq_true rfl) dX11_numerator_2 ⟨Nat.zero_le _, Nat.zero_le _⟩ ?_
  refine zv_if_eqZ (tgt := 10) C (by omega) dX11_numerator_5 (by decide) (fun h5 => ?_) (fun h5 => absurd h5 (by decide))
  refine zv_aload_n C 0 dX11_numerator_10 rfl rfl ?_
  refine zv_iload_n C 1 dX11_numerator_11 rfl rfl ?_
  refine zv_cvvD (st := []) C (c_X11_ratio hfl E (thW σ 0) σc U S i hB hU hW hS hi) mX11_ratio kX11_278 (by decide : kd 327 = 10) rfl rfl rfl ⟨rfl, rfl⟩ (show zfit (zrm 4 102) 6 (zrm 5 127) = true from rfl) (Nat.le_of_ble_eq_true rfl) dX11_numerator_12 ⟨Nat.zero_le _, Nat.zero_le _⟩ ?_
  refine zv_aload_n C 0 dX11_numerator_15 rfl rfl ?_
  refine zG10_22 C (by decide : kd 327 = _) kX11_249 dX11_numerator_16 ?_
  refine zv_eql (y := (zL ((qPtr U S i).1))) ((mW_r _ _ _).1) ?_
  exact zv_lret C hr dX11_numerator_19 ⟨rfl, by first | exact mK_th _ _ | exact mK_th2 _ _ _ | exact mK_C (mK_W (mK_th _ _) _ _) _ | exact mK_W (mK_th _ _) _ _⟩
set_option maxRecDepth 20000 in
theorem x1_X11_numerator {l : Launch} (hfl : l.stackTraces = false) (E : zE) (σ : zS) (σc : zS) (U : zSU) (y : Int) (hB : zRb (gI σ 328) U) (hU : zSUp σc 29 U) (hy : -2147483648 ≤ y ∧ y < 2147483648) (hno : ¬ (0 ≤ y ∧ y < U.nb)) : zRl l E yX11_numerator cX11_numerator 2 (zrm 2 46) [.ref (ob E 327), .int (zI y)] σ (fun r τ => r = zL 0 ∧ mK σ τ 1) := by
  refine Met.ofW (cc := cX11_numerator) (maxL := 2) (ret := (some .long)) (by decide +kernel) rfl ?_
  intro p e s m args below meth c s₁ B hml hv
  obtain ⟨rfl, hd⟩ := hv
  have C := zX_of (own := RX11) hfl B hml rfl hd rfl
  have hr := B.returns
  refine zV_go hd (Nat.le_of_ble_eq_true rfl) (lv := [(0, .ref (ob E 327)), (1, .int (zI y))]) rfl ?_
  have hnb : U.nb ≤ 8 := hU.2.2.1
  have hs0 := hU.2.2.2.1
  
  refine zv_aload_n C 0 dX11_numerator_0 rfl rfl ?_
  refine zv_iload_n C 1 dX11_numerator_1 rfl rfl ?_
  refine zv_cviD (st := []) C (c1_X11_noBody hfl E σ σc U (y) hB hU (by omega) hno) mX11_noBody kX11_319 (by decide : kd 327 = 10) rfl rfl rfl ⟨rfl, rfl⟩ (show zfit (zrm 1 25) 2 (zrm 2 46) = true from rfl) (Nat.le_of_ble_eq_true rfl) dX11_numerator_2 ⟨Nat.zero_le _, Nat.zero_le _⟩ ?_
  refine zv_if_eqZ (tgt := 10) C (by omega) dX11_numerator_5 (by decide) (fun h5 => absurd h5 (by decide)) (fun h5 => ?_)
  refine zv_lconst (v := zL 0) C dX11_numerator_8 (by decide) ?_
  exact zv_lret C hr dX11_numerator_9 ⟨rfl, by first | exact mK_th _ _ | exact mK_th2 _ _ _ | exact mK_C (mK_W (mK_th _ _) _ _) _ | exact mK_W (mK_th _ _) _ _⟩
set_option maxRecDepth 20000 in
theorem c_X11_denominator {l : Launch} (hfl : l.stackTraces = false) (E : zE) (σ : zS) (σc : zS) (U : zSU) (S : zST) (i : Nat) (hB : zRb (gI σ 328) U) (hU : zSUp σc 29 U) (hW : zRo (gI σ 332) U.nb S) (hS : zSTp σc 34 S) (hi : i < U.nb) : zRl l E yX11_denominator cX11_denominator 2 (zrm 5 127) [.ref (ob E 327), .int (zI (i : Int))] σ (fun r τ => r = zL (qPtr U S i).2 ∧ mK σ τ 0) := by
  refine Met.ofW (cc := cX11_denominator) (maxL := 2) (ret := (some .long)) (by decide +kernel) rfl ?_
  intro p e s m args below meth c s₁ B hml hv
  obtain ⟨rfl, hd⟩ := hv
  have C := zX_of (own := RX11) hfl B hml rfl hd rfl
  have hr := B.returns
  refine zV_go hd (Nat.le_of_ble_eq_true rfl) (lv := [(0, .ref (ob E 327)), (1, .int (zI (i : Int)))]) rfl ?_
  have hnb : U.nb ≤ 8 := hU.2.2.1
  have hs0 := hU.2.2.2.1
  
  refine zv_aload_n C 0 dX11_denominator_0 rfl rfl ?_
  refine zv_iload_n C 1 dX11_denominator_1 rfl rfl ?_
  refine zv_cviD (st := []) C (c0_X11_noBody hfl E σ σc U ((i : Int)) hB hU (by omega)) mX11_noBody kX11_319 (by decide : kd 327 = 10) rfl rfl rfl ⟨rfl, rfl⟩ (show zfit (zrm 1 25) 2 (zrm 5 127) = true from rfl) (Nat.le_of_ble_eq_true rfl) dX11_denominator_2 ⟨Nat.zero_le _, Nat.zero_le _⟩ ?_
  refine zv_if_eqZ (tgt := 10) C (by omega) dX11_denominator_5 (by decide) (fun h5 => ?_) (fun h5 => absurd h5 (by decide))
  refine zv_aload_n C 0 dX11_denominator_10 rfl rfl ?_
  refine zv_iload_n C 1 dX11_denominator_11 rfl rfl ?_
  refine zv_cvvD (st := []) C (c_X11_ratio hfl E (thW σ 0) σc U S i hB hU hW hS hi) mX11_ratio kX11_278 (by decide : kd 327 = 10) rfl rfl rfl ⟨rfl, rfl⟩ (show zfit (zrm 4 102) 6 (zrm 5 127) = true from rfl) (Nat.le_of_ble_eq_true rfl) dX11_denominator_12 ⟨Nat.zero_le _, Nat.zero_le _⟩ ?_
  refine zv_aload_n C 0 dX11_denominator_15 rfl rfl ?_
  refine zG10_23 C (by decide : kd 327 = _) kX11_253 dX11_denominator_16 ?_
  refine zv_eql (y := (zL ((qPtr U S i).2))) ((mW_r _ _ _).2) ?_
  exact zv_lret C hr dX11_denominator_19 ⟨rfl, by first | exact mK_th _ _ | exact mK_th2 _ _ _ | exact mK_C (mK_W (mK_th _ _) _ _) _ | exact mK_W (mK_th _ _) _ _⟩
set_option maxRecDepth 20000 in
theorem x1_X11_denominator {l : Launch} (hfl : l.stackTraces = false) (E : zE) (σ : zS) (σc : zS) (U : zSU) (y : Int) (hB : zRb (gI σ 328) U) (hU : zSUp σc 29 U) (hy : -2147483648 ≤ y ∧ y < 2147483648) (hno : ¬ (0 ≤ y ∧ y < U.nb)) : zRl l E yX11_denominator cX11_denominator 2 (zrm 2 46) [.ref (ob E 327), .int (zI y)] σ (fun r τ => r = zL 0 ∧ mK σ τ 1) := by
  refine Met.ofW (cc := cX11_denominator) (maxL := 2) (ret := (some .long)) (by decide +kernel) rfl ?_
  intro p e s m args below meth c s₁ B hml hv
  obtain ⟨rfl, hd⟩ := hv
  have C := zX_of (own := RX11) hfl B hml rfl hd rfl
  have hr := B.returns
  refine zV_go hd (Nat.le_of_ble_eq_true rfl) (lv := [(0, .ref (ob E 327)), (1, .int (zI y))]) rfl ?_
  have hnb : U.nb ≤ 8 := hU.2.2.1
  have hs0 := hU.2.2.2.1
  
  refine zv_aload_n C 0 dX11_denominator_0 rfl rfl ?_
  refine zv_iload_n C 1 dX11_denominator_1 rfl rfl ?_
  refine zv_cviD (st := []) C (c1_X11_noBody hfl E σ σc U (y) hB hU (by omega) hno) mX11_noBody kX11_319 (by decide : kd 327 = 10) rfl rfl rfl ⟨rfl, rfl⟩ (show zfit (zrm 1 25) 2 (zrm 2 46) = true from rfl) (Nat.le_of_ble_eq_true rfl) dX11_denominator_2 ⟨Nat.zero_le _, Nat.zero_le _⟩ ?_
  refine zv_if_eqZ (tgt := 10) C (by omega) dX11_denominator_5 (by decide) (fun h5 => absurd h5 (by decide)) (fun h5 => ?_)
  refine zv_lconst (v := zL 0) C dX11_denominator_8 (by decide) ?_
  exact zv_lret C hr dX11_denominator_9 ⟨rfl, by first | exact mK_th _ _ | exact mK_th2 _ _ _ | exact mK_C (mK_W (mK_th _ _) _ _) _ | exact mK_W (mK_th _ _) _ _⟩
