set_option maxRecDepth 20000 in
theorem c_X4_clearAll {l : Launch} (hfl : l.stackTraces = false) (E : zE) (σ : zS) (k : Nat) (hk : kd k = 4) : zRv l E yX4_clearAll cX4_clearAll 1 (zrm 0 0) [.ref (ob E k)] σ (fun τ => τ = sI (sI σ k 0 (zI 2000)) k 1 (zI 0)) := by
  refine Met.ofW (cc := cX4_clearAll) (maxL := 1) (ret := none) (by decide +kernel) rfl ?_
  intro p e s m args below meth c s₁ B hml hv
  obtain ⟨rfl, hd⟩ := hv
  have C := zX_of (own := RX4) hfl B hml rfl hd rfl
  have hr := B.returns
  refine zV_go hd (Nat.le_of_ble_eq_true rfl) (lv := [(0, .ref (ob E k))]) rfl ?_
  refine zv_aload_n C 0 dX4_clearAll_0 rfl rfl ?_
  refine zv_sipush (v := zI 2000) C dX4_clearAll_1 (by decide) ?_
  refine zP4_0 C hk kX4_9 dX4_clearAll_4 ?_
  refine zv_aload_n C 0 dX4_clearAll_7 rfl rfl ?_
  refine zv_iconst (v := zI 0) C dX4_clearAll_8 rfl ?_
  refine zP4_1 C hk kX4_15 dX4_clearAll_9 ?_
  exact zv_vret C hr dX4_clearAll_12 rfl
theorem kd4_apart {a b : Nat} (ha : kd a = 4) (hb : kd b = 4) (h : a ≠ b) : a + 5 ≤ b ∨ b + 5 ≤ a := by
  have h0 : ∀ k, k < 341 → kd k = 4 → k = 4 ∨ k = 29 := by decide +kernel
  have h1 := h0 a (kd_lt ha (by decide)) ha
  have h2 := h0 b (kd_lt hb (by decide)) hb
  omega
/-- a Setup, copied -/
def cpU (σ : zS) (k b : Nat) : zS := (cpI (cpI (cpI (cpJ (sI (sI σ k 0 (gI σ b 0)) k 1 (gI σ b 1)) (b + 1) (k + 1) 8) (b + 2) (k + 2) 8) (b + 3) (k + 3) 8) (b + 4) (k + 4) 8)
set_option maxRecDepth 20000 in
theorem c_X4_copyFrom {l : Launch} (hfl : l.stackTraces = false) (E : zE) (σ : zS) (k b : Nat) (hk : kd k = 4) (hb : kd b = 4) (hne : k ≠ b) : zRv l E yX4_copyFrom cX4_copyFrom 2 (zrm 1 60) [.ref (ob E k), .ref (ob E b)] σ (fun τ => τ = cpU σ k b) := by
  refine Met.ofW (cc := cX4_copyFrom) (maxL := 2) (ret := none) (by decide +kernel) rfl ?_
  intro p e s m args below meth c s₁ B hml hv
  obtain ⟨rfl, hd⟩ := hv
  have C := zX_of (own := RX4) hfl B hml rfl hd rfl
  have hr := B.returns
  refine zV_go hd (Nat.le_of_ble_eq_true rfl) (lv := [(0, .ref (ob E k)), (1, .ref (ob E b))]) rfl ?_
  refine zv_aload_n C 0 dX4_copyFrom_0 rfl rfl ?_
  refine zv_aload_n C 1 dX4_copyFrom_1 rfl rfl ?_
  refine zG4_0 C hb kX4_9 dX4_copyFrom_2 ?_
  refine zP4_0 C hk kX4_9 dX4_copyFrom_5 ?_
  refine zv_aload_n C 0 dX4_copyFrom_8 rfl rfl ?_
  refine zv_aload_n C 1 dX4_copyFrom_9 rfl rfl ?_
  refine zG4_1 C hb kX4_15 dX4_copyFrom_10 ?_
  refine zv_eqi (y := (gI σ b 1)) (by rw [gI_sI, if_neg (by omega)]) ?_
  refine zP4_1 C hk kX4_15 dX4_copyFrom_13 ?_
  refine zv_aload_n C 1 dX4_copyFrom_16 rfl rfl ?_
  refine zG4_2 C hb kX4_18 dX4_copyFrom_17 ?_
  refine zv_iconst (v := zI 0) C dX4_copyFrom_20 rfl ?_
  refine zv_aload_n C 0 dX4_copyFrom_21 rfl rfl ?_
  refine zG4_2 C hk kX4_18 dX4_copyFrom_22 ?_
  refine zv_iconst (v := zI 0) C dX4_copyFrom_25 rfl ?_
  refine zv_bipush (v := zI 8) C dX4_copyFrom_26 (by decide) ?_
  refine zv_acpJ (a := b + 1) (b := k + 1) (n := 8) (st := []) C kX4_33 (zsu hb).1.1 (zsu hk).1.1 (by rw [(zsu hb).1.2]; decide) (by rw [(zsu hk).1.2]; decide) ⟨Nat.le_of_ble_eq_true rfl, Nat.le_of_ble_eq_true rfl⟩ dX4_copyFrom_28 ?_
  refine zv_aload_n C 1 dX4_copyFrom_31 rfl rfl ?_
  refine zG4_3 C hb kX4_22 dX4_copyFrom_32 ?_
  refine zv_iconst (v := zI 0) C dX4_copyFrom_35 rfl ?_
  refine zv_aload_n C 0 dX4_copyFrom_36 rfl rfl ?_
  refine zG4_3 C hk kX4_22 dX4_copyFrom_37 ?_
  refine zv_iconst (v := zI 0) C dX4_copyFrom_40 rfl ?_
  refine zv_bipush (v := zI 8) C dX4_copyFrom_41 (by decide) ?_
  refine zv_acpI (a := b + 2) (b := k + 2) (n := 8) (st := []) C kX4_33 (zsu hb).2.1.1 (zsu hk).2.1.1 (by rw [(zsu hb).2.1.2]; decide) (by rw [(zsu hk).2.1.2]; decide) ⟨Nat.le_of_ble_eq_true rfl, Nat.le_of_ble_eq_true rfl⟩ dX4_copyFrom_43 ?_
  refine zv_aload_n C 1 dX4_copyFrom_46 rfl rfl ?_
  refine zG4_4 C hb kX4_26 dX4_copyFrom_47 ?_
  refine zv_iconst (v := zI 0) C dX4_copyFrom_50 rfl ?_
  refine zv_aload_n C 0 dX4_copyFrom_51 rfl rfl ?_
  refine zG4_4 C hk kX4_26 dX4_copyFrom_52 ?_
  refine zv_iconst (v := zI 0) C dX4_copyFrom_55 rfl ?_
  refine zv_bipush (v := zI 8) C dX4_copyFrom_56 (by decide) ?_
  refine zv_acpZ (a := b + 3) (b := k + 3) (n := 8) (st := []) C kX4_33 (zsu hb).2.2.1.1 (zsu hk).2.2.1.1 (by rw [(zsu hb).2.2.1.2]; decide) (by rw [(zsu hk).2.2.1.2]; decide) ⟨Nat.le_of_ble_eq_true rfl, Nat.le_of_ble_eq_true rfl⟩ dX4_copyFrom_58 ?_
  refine zv_aload_n C 1 dX4_copyFrom_61 rfl rfl ?_
  refine zG4_5 C hb kX4_30 dX4_copyFrom_62 ?_
  refine zv_iconst (v := zI 0) C dX4_copyFrom_65 rfl ?_
  refine zv_aload_n C 0 dX4_copyFrom_66 rfl rfl ?_
  refine zG4_5 C hk kX4_30 dX4_copyFrom_67 ?_
  refine zv_iconst (v := zI 0) C dX4_copyFrom_70 rfl ?_
  refine zv_bipush (v := zI 8) C dX4_copyFrom_71 (by decide) ?_
  refine zv_acpI (a := b + 4) (b := k + 4) (n := 8) (st := []) C kX4_33 (zsu hb).2.2.2.1 (zsu hk).2.2.2.1 (by rw [(zsu hb).2.2.2.2]; decide) (by rw [(zsu hk).2.2.2.2]; decide) ⟨Nat.le_of_ble_eq_true rfl, Nat.le_of_ble_eq_true rfl⟩ dX4_copyFrom_73 ?_
  exact zv_vret C hr dX4_copyFrom_76 rfl
set_option maxRecDepth 20000 in
theorem c_X4_takeBody {l : Launch} (hfl : l.stackTraces = false) (E : zE) (σ : zS) (k : Nat) (s0 : Int) (n : Nat) (nm : Nat → Int64) (pe re : Nat → Nat) (ca : Nat → Int) (x : Int64) (pp : Int) (q : Nat) (c0 : Int) (hk : kd k = 4) (hU : zSu σ k s0 n nm pe re ca) (hn8 : n < 8) (hq : q ≤ 1) : zRv l E yX4_takeBody cX4_takeBody 6 (zrm 0 0) [.ref (ob E k), .long x, .int (zI pp), .int (zI (q : Int)), .int (zI c0)] σ (fun τ => τ = sI (sI (sI (sI (sJ σ (k + 1) n x) (k + 2) n (zI pp)) (k + 3) n (zI (q : Int))) (k + 4) n (zI c0)) k 1 (zI ((n + 1 : Nat) : Int))) := by
  refine Met.ofW (cc := cX4_takeBody) (maxL := 6) (ret := none) (by decide +kernel) rfl ?_
  intro p e s m args below meth c s₁ B hml hv
  obtain ⟨rfl, hd⟩ := hv
  have C := zX_of (own := RX4) hfl B hml rfl hd rfl
  have hr := B.returns
  refine zV_go hd (Nat.le_of_ble_eq_true rfl) (lv := [(0, .ref (ob E k)), (1, .long x), (3, .int (zI pp)), (4, .int (zI (q : Int))), (5, .int (zI c0))]) rfl ?_
  refine zv_aload_n C 0 dX4_takeBody_0 rfl rfl ?_
  refine zG4_1 C hk kX4_15 dX4_takeBody_1 ?_
  refine zv_eqi (y := zI (n : Int)) (hU.2.1) ?_
  refine zv_bipush (v := zI 8) C dX4_takeBody_4 (by decide) ?_
  refine zv_icmp_geZ (tgt := 61) C (by omega) (by omega) dX4_takeBody_6 (by decide) (fun h6 => ?_) (fun h6 => ?_)
  · exfalso
    omega
  · skip
    refine zv_aload_n C 0 dX4_takeBody_9 rfl rfl ?_
    refine zG4_2 C hk kX4_18 dX4_takeBody_10 ?_
    refine zv_aload_n C 0 dX4_takeBody_13 rfl rfl ?_
    refine zG4_1 C hk kX4_15 dX4_takeBody_14 ?_
    refine zv_eqi (y := zI (n : Int)) (hU.2.1) ?_
    refine zv_lload_n C 1 dX4_takeBody_17 rfl rfl ?_
    refine zv_last (j := n) C (zsu hk).1.1 (zI_ix (by omega)) (by rw [(zsu hk).1.2]; omega) dX4_takeBody_18 ?_
    refine zv_aload_n C 0 dX4_takeBody_19 rfl rfl ?_
    refine zG4_3 C hk kX4_22 dX4_takeBody_20 ?_
    refine zv_aload_n C 0 dX4_takeBody_23 rfl rfl ?_
    refine zG4_1 C hk kX4_15 dX4_takeBody_24 ?_
    refine zv_eqi (y := (zI (n : Int))) (by simp only [gI_sI, gI_sJ]; first | exact hU.2.1 | (rw [if_neg (by omega)]; exact hU.2.1) | (rw [if_neg (by omega), if_neg (by omega)]; exact hU.2.1) | (rw [if_neg (by omega), if_neg (by omega), if_neg (by omega)]; exact hU.2.1)) ?_
    refine zv_iload_n C 2 dX4_takeBody_27 rfl rfl ?_
    refine zv_iast (j := n) C (zsu hk).2.1.1 (zI_ix (by omega)) (by rw [(zsu hk).2.1.2]; omega) dX4_takeBody_28 ?_
    refine zv_aload_n C 0 dX4_takeBody_29 rfl rfl ?_
    refine zG4_4 C hk kX4_26 dX4_takeBody_30 ?_
    refine zv_aload_n C 0 dX4_takeBody_33 rfl rfl ?_
    refine zG4_1 C hk kX4_15 dX4_takeBody_34 ?_
    refine zv_eqi (y := (zI (n : Int))) (by simp only [gI_sI, gI_sJ]; first | exact hU.2.1 | (rw [if_neg (by omega)]; exact hU.2.1) | (rw [if_neg (by omega), if_neg (by omega)]; exact hU.2.1) | (rw [if_neg (by omega), if_neg (by omega), if_neg (by omega)]; exact hU.2.1)) ?_
    refine zv_iload C 3 dX4_takeBody_37 rfl ?_
    refine zv_zast (j := n) C (zsu hk).2.2.1.1 (zI_ix (by omega)) (by rw [(zsu hk).2.2.1.2]; omega) (by rcases (show q = 0 ∨ q = 1 by omega) with e | e <;> rw [e] <;> rfl) dX4_takeBody_39 ?_
    refine zv_eqS (τ := (sI (sI (sJ σ (k + 1) n x) (k + 2) n (zI pp)) (k + 3) n (zI (q : Int)))) (by rw [show vp_nar .boolean (zI (q : Int)) = zI (q : Int) from by rcases (show q = 0 ∨ q = 1 by omega) with e | e <;> rw [e] <;> rfl]) ?_
    refine zv_aload_n C 0 dX4_takeBody_40 rfl rfl ?_
    refine zG4_5 C hk kX4_30 dX4_takeBody_41 ?_
    refine zv_aload_n C 0 dX4_takeBody_44 rfl rfl ?_
    refine zG4_1 C hk kX4_15 dX4_takeBody_45 ?_
    refine zv_eqi (y := (zI (n : Int))) (by simp only [gI_sI, gI_sJ]; first | exact hU.2.1 | (rw [if_neg (by omega)]; exact hU.2.1) | (rw [if_neg (by omega), if_neg (by omega)]; exact hU.2.1) | (rw [if_neg (by omega), if_neg (by omega), if_neg (by omega)]; exact hU.2.1)) ?_
    refine zv_iload C 4 dX4_takeBody_48 rfl ?_
    refine zv_iast (j := n) C (zsu hk).2.2.2.1 (zI_ix (by omega)) (by rw [(zsu hk).2.2.2.2]; omega) dX4_takeBody_50 ?_
    refine zv_aload_n C 0 dX4_takeBody_51 rfl rfl ?_
    refine zv_dup C dX4_takeBody_52 rfl ?_
    refine zG4_1 C hk kX4_15 dX4_takeBody_53 ?_
    refine zv_eqi (y := (zI (n : Int))) (by simp only [gI_sI, gI_sJ]; first | exact hU.2.1 | (rw [if_neg (by omega)]; exact hU.2.1) | (rw [if_neg (by omega), if_neg (by omega)]; exact hU.2.1) | (rw [if_neg (by omega), if_neg (by omega), if_neg (by omega)]; exact hU.2.1)) ?_
    refine zv_iconst (v := zI 1) C dX4_takeBody_56 rfl ?_
    refine zv_iaddZ C dX4_takeBody_57 ?_
    refine zP4_1 C hk kX4_15 dX4_takeBody_58 ?_
    exact zv_vret C hr dX4_takeBody_61 rfl
set_option maxRecDepth 20000 in
theorem c_X4_placeOf {l : Launch} (hfl : l.stackTraces = false) (E : zE) (σ : zS) (k : Nat) (s0 : Int) (n : Nat) (nm : Nat → Int64) (pe re : Nat → Nat) (ca : Nat → Int) (x : Int64) (hk : kd k = 4) (hU : zSu σ k s0 n nm pe re ca) : zRi l E yX4_placeOf cX4_placeOf 4 .int (zrm 0 0) [.ref (ob E k), .long x] σ (fun r τ => r = zI (pO nm x n) ∧ τ = σ) := by
  refine Met.ofW (cc := cX4_placeOf) (maxL := 4) (ret := (some .int)) (by decide +kernel) rfl ?_
  intro p e s m args below meth c s₁ B hml hv
  obtain ⟨rfl, hd⟩ := hv
  have C := zX_of (own := RX4) hfl B hml rfl hd rfl
  have hr := B.returns
  refine zV_go hd (Nat.le_of_ble_eq_true rfl) (lv := [(0, .ref (ob E k)), (1, .long x)]) rfl ?_
  have hn := hU.2.2.1
  refine zv_iconst (v := zI 0) C dX4_placeOf_0 rfl ?_
  refine zv_istore_n (lv' := [(3, .int (zI 0)), (0, .ref (ob E k)), (1, .long x)]) C dX4_placeOf_1 rfl (by decide) rfl ?_
  have q2_3 : (0 : Int) = (0 : Int) := by first | rfl | omega
  refine zv_sub (lv' := [(0, .ref (ob E k)), (1, .long x), (3, .int (zI (0 : Int)))]) [1, 2, 0] (zcons rfl (zcons rfl (zcons (zqI q2_3) rfl))) ?_
  refine zv_while (α := Nat) (fun v => n - v) (fun v => v ≤ n ∧ pO nm x v = -1) (fun v => σ) (fun v => [(0, .ref (ob E k)), (1, .long x), (3, .int (zI (v : Int)))]) (fun v => []) (fun j hI ih => ?_) (0) (⟨by omega, rfl⟩)
  obtain ⟨hI, hI2⟩ := hI
  refine zv_iload_n C 2 dX4_placeOf_2 rfl rfl ?_
  refine zv_aload_n C 0 dX4_placeOf_3 rfl rfl ?_
  refine zG4_1 C hk kX4_15 dX4_placeOf_4 ?_
  refine zv_eqi (y := zI (n : Int)) (hU.2.1) ?_
  refine zv_icmp_geZ (tgt := 29) C (by omega) (by omega) dX4_placeOf_7 (by decide) (fun h7 => ?_) (fun h7 => ?_)
  · skip
    refine zv_iconst (v := zI (-1)) C dX4_placeOf_29 rfl ?_
    exact zv_iret C hr rfl dX4_placeOf_30 ⟨by rw [show n = j by omega, hI2], rfl⟩
  · skip
    refine zv_aload_n C 0 dX4_placeOf_10 rfl rfl ?_
    refine zG4_2 C hk kX4_18 dX4_placeOf_11 ?_
    refine zv_iload_n C 2 dX4_placeOf_14 rfl rfl ?_
    refine zv_lald (j := j) C (zsu hk).1.1 (zI_ix (by omega)) (by rw [(zsu hk).1.2]; omega) dX4_placeOf_15 ?_
    refine zv_eql (y := (nm j)) ((hU.2.2.2.2 j (by omega)).1) ?_
    refine zv_lload_n C 1 dX4_placeOf_16 rfl rfl ?_
    refine zv_lc_ne (tgt := 23) C dX4_placeOf_17 dX4_placeOf_18 (by decide) (fun h17 => ?_) (fun h17 => ?_)
    · skip
      refine zv_iinc (v := (zI ((j : Int) + 1))) (lv' := [(3, .int (zI ((j : Int) + 1))), (0, .ref (ob E k)), (1, .long x)]) C 2 dX4_placeOf_23 rfl (zI_add _ _) (by decide) rfl ?_
      refine zv_goto (tgt := 2) C dX4_placeOf_26 (by decide) ?_
      have q2_26 : ((j : Int) + 1 : Int) = ((j + 1 : Nat) : Int) := by first | rfl | omega
      refine zv_sub (lv' := [(0, .ref (ob E k)), (1, .long x), (3, .int (zI ((j + 1 : Nat) : Int)))]) [1, 2, 0] (zcons rfl (zcons rfl (zcons (zqI q2_26) rfl))) ?_
      exact ih (j + 1) (⟨by omega, by simp only [pO, hI2]; rw [if_neg (by omega), if_neg h17]⟩) (by omega)
    · skip
      refine zv_iload_n C 2 dX4_placeOf_21 rfl rfl ?_
      exact zv_iret C hr rfl dX4_placeOf_22 ⟨by rw [pO_of hI2 h17 n (by omega)], rfl⟩
set_option maxRecDepth 20000 in
theorem c_X4_rateTop {l : Launch} (hfl : l.stackTraces = false) (E : zE) (σ : zS) (k : Nat) (s0 : Int) (n : Nat) (nm : Nat → Int64) (pe re : Nat → Nat) (ca : Nat → Int) (i : Nat) (hk : kd k = 4) (hU : zSu σ k s0 n nm pe re ca) (hi : i < n) : zRl l E yX4_rateTop cX4_rateTop 2 (zrm 0 0) [.ref (ob E k), .int (zI (i : Int))] σ (fun r τ => r = zL (if re i = 1 then -100 else 100) ∧ τ = σ) := by
  refine Met.ofW (cc := cX4_rateTop) (maxL := 2) (ret := (some .long)) (by decide +kernel) rfl ?_
  intro p e s m args below meth c s₁ B hml hv
  obtain ⟨rfl, hd⟩ := hv
  have C := zX_of (own := RX4) hfl B hml rfl hd rfl
  have hr := B.returns
  refine zV_go hd (Nat.le_of_ble_eq_true rfl) (lv := [(0, .ref (ob E k)), (1, .int (zI (i : Int)))]) rfl ?_
  have hn := hU.2.2.1
  have hre := (hU.2.2.2.2 i hi).2.2.2.2.2.1
  refine zv_aload_n C 0 dX4_rateTop_0 rfl rfl ?_
  refine zG4_4 C hk kX4_26 dX4_rateTop_1 ?_
  refine zv_iload_n C 1 dX4_rateTop_4 rfl rfl ?_
  refine zv_zald (j := i) C (zsu hk).2.2.1.1 (zI_ix (by omega)) (by rw [(zsu hk).2.2.1.2]; omega) (by rw [(hU.2.2.2.2 i hi).2.2.1]; rcases (show re i = 0 ∨ re i = 1 by omega) with e | e <;> rw [e] <;> rfl) dX4_rateTop_5 ?_
  refine zv_eqi (y := (zI (re i : Int))) ((hU.2.2.2.2 i hi).2.2.1) ?_
  refine zv_if_eqZ (tgt := 15) C (by omega) dX4_rateTop_6 (by decide) (fun h6 => ?_) (fun h6 => ?_)
  · skip
    refine zv_ldc2 C kX4_41 dX4_rateTop_15 ?_
    refine zv_eql (y := zL 100) (by decide) ?_
    exact zv_lret C hr dX4_rateTop_18 ⟨by first | rw [if_pos (by omega)] | rw [if_neg (by omega)], rfl⟩
  · skip
    refine zv_ldc2 C kX4_39 dX4_rateTop_9 ?_
    refine zv_eql (y := zL (-100)) (by decide) ?_
    refine zv_goto (tgt := 18) C dX4_rateTop_12 (by decide) ?_
    exact zv_lret C hr dX4_rateTop_18 ⟨by first | rw [if_pos (by omega)] | rw [if_neg (by omega)], rfl⟩
set_option maxRecDepth 20000 in
theorem c_X4_leapYearsTo {l : Launch} (hfl : l.stackTraces = false) (E : zE) (σ : zS) (y : Int) (hy : 0 ≤ y ∧ y ≤ 100000) : zRi l E yX4_leapYearsTo cX4_leapYearsTo 1 .int (zrm 0 0) [.int (zI y)] σ (fun r τ => r = zI (yLp y) ∧ τ = σ) := by
  refine Met.ofW (cc := cX4_leapYearsTo) (maxL := 1) (ret := (some .int)) (by decide +kernel) rfl ?_
  intro p e s m args below meth c s₁ B hml hv
  obtain ⟨rfl, hd⟩ := hv
  have C := zX_of (own := RX4) hfl B hml rfl hd rfl
  have hr := B.returns
  refine zV_go hd (Nat.le_of_ble_eq_true rfl) (lv := [(0, .int (zI y))]) rfl ?_
  refine zv_iload_n C 0 dX4_leapYearsTo_0 rfl rfl ?_
  refine zv_iconst (v := zI 4) C dX4_leapYearsTo_1 rfl ?_
  refine zv_idivP C (by omega) (by omega) dX4_leapYearsTo_2 ?_
  refine zv_iload_n C 0 dX4_leapYearsTo_3 rfl rfl ?_
  refine zv_bipush (v := zI 100) C dX4_leapYearsTo_4 (by decide) ?_
  refine zv_idivP C (by omega) (by omega) dX4_leapYearsTo_6 ?_
  refine zv_isubZ C dX4_leapYearsTo_7 ?_
  refine zv_iload_n C 0 dX4_leapYearsTo_8 rfl rfl ?_
  refine zv_sipush (v := zI 400) C dX4_leapYearsTo_9 (by decide) ?_
  refine zv_idivP C (by omega) (by omega) dX4_leapYearsTo_12 ?_
  refine zv_iaddZ C dX4_leapYearsTo_13 ?_
  exact zv_iret C hr rfl dX4_leapYearsTo_14 ⟨rfl, rfl⟩
set_option maxRecDepth 20000 in
theorem c_X4_endDay {l : Launch} (hfl : l.stackTraces = false) (E : zE) (σ : zS) (k : Nat) (s0 : Int) (n : Nat) (nm : Nat → Int64) (pe re : Nat → Nat) (ca : Nat → Int) (y : Int) (hk : kd k = 4) (hU : zSu σ k s0 n nm pe re ca) (hy : s0 - 1 ≤ y ∧ y ≤ 4000) : zRi l E yX4_endDay cX4_endDay 2 .int (zrm 1 20) [.ref (ob E k), .int (zI y)] σ (fun r τ => r = zI (yEnd s0 y) ∧ τ = σ) := by
  refine Met.ofW (cc := cX4_endDay) (maxL := 2) (ret := (some .int)) (by decide +kernel) rfl ?_
  intro p e s m args below meth c s₁ B hml hv
  obtain ⟨rfl, hd⟩ := hv
  have C := zX_of (own := RX4) hfl B hml rfl hd rfl
  have hr := B.returns
  refine zV_go hd (Nat.le_of_ble_eq_true rfl) (lv := [(0, .ref (ob E k)), (1, .int (zI y))]) rfl ?_
  have hs := hU.2.2.2.1
  refine zv_sipush (v := zI 365) C dX4_endDay_0 (by decide) ?_
  refine zv_iload_n C 1 dX4_endDay_3 rfl rfl ?_
  refine zv_aload_n C 0 dX4_endDay_4 rfl rfl ?_
  refine zG4_0 C hk kX4_9 dX4_endDay_5 ?_
  refine zv_eqi (y := zI s0) (hU.1) ?_
  refine zv_isubZ C dX4_endDay_8 ?_
  refine zv_iconst (v := zI 1) C dX4_endDay_9 rfl ?_
  refine zv_iaddZ C dX4_endDay_10 ?_
  refine zv_imulZ C dX4_endDay_11 ?_
  refine zv_iload_n C 1 dX4_endDay_12 rfl rfl ?_
  refine zv_csiD (st := [.int (zI (365 * ((y - s0) + 1)))]) C (c_X4_leapYearsTo hfl E σ (y) (by omega)) mX4_leapYearsTo kX4_43 rfl ⟨rfl, rfl⟩ (show zfit (zrm 0 0) 1 (zrm 1 20) = true from rfl) (Nat.le_of_ble_eq_true rfl) dX4_endDay_13 ⟨Nat.zero_le _, Nat.zero_le _⟩ ?_
  refine zv_iaddZ C dX4_endDay_16 ?_
  refine zv_aload_n C 0 dX4_endDay_17 rfl rfl ?_
  refine zG4_0 C hk kX4_9 dX4_endDay_18 ?_
  refine zv_eqi (y := zI s0) (hU.1) ?_
  refine zv_iconst (v := zI 1) C dX4_endDay_21 rfl ?_
  refine zv_isubZ C dX4_endDay_22 ?_
  refine zv_csiD (st := [.int (zI ((365 * ((y - s0) + 1)) + (yLp (y))))]) C (c_X4_leapYearsTo hfl E σ (s0 - 1) (by omega)) mX4_leapYearsTo kX4_43 rfl ⟨rfl, rfl⟩ (show zfit (zrm 0 0) 1 (zrm 1 20) = true from rfl) (Nat.le_of_ble_eq_true rfl) dX4_endDay_23 ⟨Nat.zero_le _, Nat.zero_le _⟩ ?_
  refine zv_isubZ C dX4_endDay_26 ?_
  exact zv_iret C hr rfl dX4_endDay_27 ⟨rfl, rfl⟩
set_option maxRecDepth 20000 in
theorem c_X4_yearWith {l : Launch} (hfl : l.stackTraces = false) (E : zE) (σ : zS) (k : Nat) (s0 : Int) (n : Nat) (nm : Nat → Int64) (pe re : Nat → Nat) (ca : Nat → Int) (d : Int) (hk : kd k = 4) (hU : zSu σ k s0 n nm pe re ca) (hdd : 0 ≤ d ∧ d ≤ 400000) : zRi l E yX4_yearWith cX4_yearWith 4 .int (zrm 2 41) [.ref (ob E k), .int (zI d)] σ (fun r τ => ∃ Y : Int, r = zI Y ∧ yIs s0 d Y ∧ Y ≤ s0 + 1096 ∧ τ = σ) := by
  refine Met.ofW (cc := cX4_yearWith) (maxL := 4) (ret := (some .int)) (by decide +kernel) rfl ?_
  intro p e s m args below meth c s₁ B hml hv
  obtain ⟨rfl, hd⟩ := hv
  have C := zX_of (own := RX4) hfl B hml rfl hd rfl
  have hr := B.returns
  refine zV_go hd (Nat.le_of_ble_eq_true rfl) (lv := [(0, .ref (ob E k)), (1, .int (zI d))]) rfl ?_
  have hs := hU.2.2.2.1
  refine zv_aload_n C 0 dX4_yearWith_0 rfl rfl ?_
  refine zG4_0 C hk kX4_9 dX4_yearWith_1 ?_
  refine zv_eqi (y := zI s0) (hU.1) ?_
  refine zv_iload_n C 1 dX4_yearWith_4 rfl rfl ?_
  refine zv_sipush (v := zI 366) C dX4_yearWith_5 (by decide) ?_
  refine zv_idivP C (by omega) (by omega) dX4_yearWith_8 ?_
  refine zv_iaddZ C dX4_yearWith_9 ?_
  refine zv_istore_n (lv' := [(2, .int (zI (s0 + (d / 366)))), (0, .ref (ob E k)), (1, .int (zI d))]) C dX4_yearWith_10 rfl (by decide) rfl ?_
  refine zv_iconst (v := zI 0) C dX4_yearWith_11 rfl ?_
  refine zv_istore_n (lv' := [(3, .int (zI 0)), (2, .int (zI (s0 + (d / 366)))), (0, .ref (ob E k)), (1, .int (zI d))]) C dX4_yearWith_12 rfl (by decide) rfl ?_
  have q13_11 : (0 : Int) = (0 : Int) := by first | rfl | omega
  have q13_12 : (s0 + (d / 366) : Int) = s0 + d / 366 + (0 : Int) := by first | rfl | omega
  refine zv_sub (lv' := [(0, .ref (ob E k)), (1, .int (zI d)), (2, .int (zI (s0 + d / 366 + (0 : Int)))), (3, .int (zI (0 : Int)))]) [2, 3, 1, 0] (zcons rfl (zcons rfl (zcons (zqI q13_12) (zcons (zqI q13_11) rfl)))) ?_
  refine zv_while (α := Nat) (fun v => 10 - v) (fun v => v ≤ 3 ∧ ∀ y, s0 + d / 366 ≤ y → y < s0 + d / 366 + v → yEnd s0 y ≤ d) (fun v => σ) (fun v => [(0, .ref (ob E k)), (1, .int (zI d)), (2, .int (zI (s0 + d / 366 + (v : Int)))), (3, .int (zI (v : Int)))]) (fun v => []) (fun j hI ih => ?_) (0) (⟨by omega, fun y h1 h2 => by omega⟩)
  obtain ⟨hI, hI2⟩ := hI
  have hye := yEnd_in hs (y := s0 + d / 366 + j) (by omega)
  refine zv_iload_n C 3 dX4_yearWith_13 rfl rfl ?_
  refine zv_sipush (v := zI 1000) C dX4_yearWith_14 (by decide) ?_
  refine zv_icmp_geZ (tgt := 38) C (by omega) (by omega) dX4_yearWith_17 (by decide) (fun h17 => ?_) (fun h17 => ?_)
  · exfalso
    omega
  · skip
    refine zv_aload_n C 0 dX4_yearWith_20 rfl rfl ?_
    refine zv_iload_n C 2 dX4_yearWith_21 rfl rfl ?_
    refine zv_cviD (st := []) C (c_X4_endDay hfl E σ k s0 n nm pe re ca (s0 + d / 366 + (j : Int)) hk hU (by omega)) mX4_endDay kX4_47 hk rfl rfl rfl ⟨rfl, rfl⟩ (show zfit (zrm 1 20) 2 (zrm 2 41) = true from rfl) (Nat.le_of_ble_eq_true rfl) dX4_yearWith_22 ⟨Nat.zero_le _, Nat.zero_le _⟩ ?_
    refine zv_iload_n C 1 dX4_yearWith_25 rfl rfl ?_
    refine zv_icmp_gtZ (tgt := 38) C (by omega) (by omega) dX4_yearWith_26 (by decide) (fun h26 => ?_) (fun h26 => ?_)
    · skip
      refine zv_iload_n C 2 dX4_yearWith_38 rfl rfl ?_
      exact zv_iret C hr rfl dX4_yearWith_39 ⟨_, rfl, ⟨by omega, by omega, hI2⟩, by omega, rfl⟩
    · skip
      refine zv_iinc (v := (zI (s0 + d / 366 + (j : Int) + 1))) (lv' := [(2, .int (zI (s0 + d / 366 + (j : Int) + 1))), (0, .ref (ob E k)), (1, .int (zI d)), (3, .int (zI (j : Int)))]) C 2 dX4_yearWith_29 rfl (zI_add _ _) (by decide) rfl ?_
      refine zv_iinc (v := (zI ((j : Int) + 1))) (lv' := [(3, .int (zI ((j : Int) + 1))), (2, .int (zI (s0 + d / 366 + (j : Int) + 1))), (0, .ref (ob E k)), (1, .int (zI d))]) C 3 dX4_yearWith_32 rfl (zI_add _ _) (by decide) rfl ?_
      refine zv_goto (tgt := 13) C dX4_yearWith_35 (by decide) ?_
      have q13_35 : ((j : Int) + 1 : Int) = ((j + 1 : Nat) : Int) := by first | rfl | omega
      have q13_36 : (s0 + d / 366 + (j : Int) + 1 : Int) = s0 + d / 366 + ((j + 1 : Nat) : Int) := by first | rfl | omega
      refine zv_sub (lv' := [(0, .ref (ob E k)), (1, .int (zI d)), (2, .int (zI (s0 + d / 366 + ((j + 1 : Nat) : Int)))), (3, .int (zI ((j + 1 : Nat) : Int)))]) [2, 3, 1, 0] (zcons rfl (zcons rfl (zcons (zqI q13_36) (zcons (zqI q13_35) rfl)))) ?_
      exact ih (j + 1) (⟨(by rcases Nat.lt_or_ge j 3 with g | g; omega; have := yIs_end hs hdd (j := j) (by omega); omega), fun y h1 h2 => (by rcases Int.lt_or_le y (s0 + d / 366 + j) with g | g; exact hI2 y h1 g; rw [show y = s0 + d / 366 + j by omega]; omega)⟩) (by omega)
