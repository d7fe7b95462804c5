set_option maxRecDepth 20000 in
theorem c_X10_errorCode {l : Launch} (hfl : l.stackTraces = false) (E : zE) (σ : zS)   : zRi l E yX10_errorCode cX10_errorCode 1 .int (zrm 0 0) [.ref (ob E 0)] σ (fun r τ => r = gI σ 1 3 ∧ τ = σ) := by
  refine Met.ofW (cc := cX10_errorCode) (maxL := 1) (ret := (some .int)) (by decide +kernel) rfl ?_
  intro p e s m args below meth c s₁ B hml hv
  obtain ⟨rfl, hd⟩ := hv
  have C := zX_of (own := RX10) hfl B hml rfl hd rfl
  have hr := B.returns
  refine zV_go hd (Nat.le_of_ble_eq_true rfl) (lv := [(0, .ref (ob E 0))]) rfl ?_
  refine zv_aload_n C 0 dX10_errorCode_0 rfl rfl ?_
  refine zG9_0 C (by decide : kd 0 = _) kX10_10 dX10_errorCode_1 ?_
  refine zG5_3 C (by decide : kd 1 = _) kX10_111 dX10_errorCode_4 ?_
  exact zv_iret C hr rfl dX10_errorCode_7 ⟨rfl, rfl⟩
set_option maxRecDepth 20000 in
theorem c_X10_errorOffset {l : Launch} (hfl : l.stackTraces = false) (E : zE) (σ : zS)   : zRi l E yX10_errorOffset cX10_errorOffset 1 .int (zrm 0 0) [.ref (ob E 0)] σ (fun r τ => r = gI σ 1 4 ∧ τ = σ) := by
  refine Met.ofW (cc := cX10_errorOffset) (maxL := 1) (ret := (some .int)) (by decide +kernel) rfl ?_
  intro p e s m args below meth c s₁ B hml hv
  obtain ⟨rfl, hd⟩ := hv
  have C := zX_of (own := RX10) hfl B hml rfl hd rfl
  have hr := B.returns
  refine zV_go hd (Nat.le_of_ble_eq_true rfl) (lv := [(0, .ref (ob E 0))]) rfl ?_
  refine zv_aload_n C 0 dX10_errorOffset_0 rfl rfl ?_
  refine zG9_0 C (by decide : kd 0 = _) kX10_10 dX10_errorOffset_1 ?_
  refine zG5_4 C (by decide : kd 1 = _) kX10_114 dX10_errorOffset_4 ?_
  exact zv_iret C hr rfl dX10_errorOffset_7 ⟨rfl, rfl⟩
set_option maxRecDepth 20000 in
theorem c_X10_truncateInput {l : Launch} (hfl : l.stackTraces = false) (E : zE) (σ : zS) (n : Nat) (y : Int) (hn : gI σ 2 1 = zI (n : Int)) (hn9 : n ≤ 900) (hyi : -2147483648 ≤ y ∧ y < 2147483648) : zRi l E yX10_truncateInput cX10_truncateInput 2 .boolean (zrm 0 0) [.ref (ob E 0), .int (zI y)] σ (fun r τ => r = zB (0 ≤ y ∧ y ≤ n) ∧ τ = if 0 ≤ y ∧ y ≤ n then sI σ 2 1 (zI y) else σ) := by
  refine Met.ofW (cc := cX10_truncateInput) (maxL := 2) (ret := (some .boolean)) (by decide +kernel) rfl ?_
  intro p e s m args below meth c s₁ B hml hv
  obtain ⟨rfl, hd⟩ := hv
  have C := zX_of (own := RX10) hfl B hml rfl hd rfl
  have hr := B.returns
  refine zV_go hd (Nat.le_of_ble_eq_true rfl) (lv := [(0, .ref (ob E 0)), (1, .int (zI y))]) rfl ?_
  refine zv_iload_n C 1 dX10_truncateInput_0 rfl rfl ?_
  refine zv_if_ltZ (tgt := 18) C (by omega) dX10_truncateInput_1 (by decide) (fun h1 => ?_) (fun h1 => ?_)
  · skip
    refine zv_iconst (v := zI 0) C dX10_truncateInput_18 rfl ?_
    exact zv_iret C hr rfl dX10_truncateInput_19 ⟨(zB_f (by omega)).symm, by rw [if_neg (by omega)]⟩
  · skip
    refine zv_iload_n C 1 dX10_truncateInput_4 rfl rfl ?_
    refine zv_aload_n C 0 dX10_truncateInput_5 rfl rfl ?_
    refine zG9_0 C (by decide : kd 0 = _) kX10_10 dX10_truncateInput_6 ?_
    refine zG5_0 C (by decide : kd 1 = _) kX10_78 dX10_truncateInput_9 ?_
    refine zG7_1 C (by decide : kd 2 = _) kX10_82 dX10_truncateInput_12 ?_
    refine zv_eqi (y := (zI (n : Int))) (hn) ?_
    refine zv_icmp_leZ (tgt := 20) C (by omega) (by omega) dX10_truncateInput_15 (by decide) (fun h15 => ?_) (fun h15 => ?_)
    · skip
      refine zv_aload_n C 0 dX10_truncateInput_20 rfl rfl ?_
      refine zG9_0 C (by decide : kd 0 = _) kX10_10 dX10_truncateInput_21 ?_
      refine zG5_0 C (by decide : kd 1 = _) kX10_78 dX10_truncateInput_24 ?_
      refine zv_iload_n C 1 dX10_truncateInput_27 rfl rfl ?_
      refine zP7_1 C (by decide : kd 2 = _) kX10_82 dX10_truncateInput_28 ?_
      refine zv_iconst (v := zI 1) C dX10_truncateInput_31 rfl ?_
      exact zv_iret C hr rfl dX10_truncateInput_32 ⟨(zB_t (by omega)).symm, by rw [if_pos (by omega)]⟩
    · skip
      refine zv_iconst (v := zI 0) C dX10_truncateInput_18 rfl ?_
      exact zv_iret C hr rfl dX10_truncateInput_19 ⟨(zB_f (by omega)).symm, by rw [if_neg (by omega)]⟩
set_option maxRecDepth 20000 in
theorem c_X10_outputByte {l : Launch} (hfl : l.stackTraces = false) (E : zE) (σ : zS) (n : Nat) (y : Int) (hn : gI σ 316 1 = zI (n : Int)) (hn9 : n ≤ 1024) (hyi : -2147483648 ≤ y ∧ y < 2147483648) : zRi l E yX10_outputByte cX10_outputByte 2 .int (zrm 0 0) [.ref (ob E 0), .int (zI y)] σ (fun r τ => r = (if 0 ≤ y ∧ y < n then gI σ 317 y.toNat else zI (-1)) ∧ τ = σ) := by
  refine Met.ofW (cc := cX10_outputByte) (maxL := 2) (ret := (some .int)) (by decide +kernel) rfl ?_
  intro p e s m args below meth c s₁ B hml hv
  obtain ⟨rfl, hd⟩ := hv
  have C := zX_of (own := RX10) hfl B hml rfl hd rfl
  have hr := B.returns
  refine zV_go hd (Nat.le_of_ble_eq_true rfl) (lv := [(0, .ref (ob E 0)), (1, .int (zI y))]) rfl ?_
  refine zv_iload_n C 1 dX10_outputByte_0 rfl rfl ?_
  refine zv_if_ltZ (tgt := 15) C (by omega) dX10_outputByte_1 (by decide) (fun h1 => ?_) (fun h1 => ?_)
  · skip
    refine zv_iconst (v := zI (-1)) C dX10_outputByte_15 rfl ?_
    exact zv_iret C hr rfl dX10_outputByte_16 ⟨by rw [if_neg (by omega)], rfl⟩
  · skip
    refine zv_iload_n C 1 dX10_outputByte_4 rfl rfl ?_
    refine zv_aload_n C 0 dX10_outputByte_5 rfl rfl ?_
    refine zG9_4 C (by decide : kd 0 = _) kX10_40 dX10_outputByte_6 ?_
    refine zG2_1 C (by decide : kd 316 = _) kX10_380 dX10_outputByte_9 ?_
    refine zv_eqi (y := (zI (n : Int))) (hn) ?_
    refine zv_icmp_ltZ (tgt := 17) C (by omega) (by omega) dX10_outputByte_12 (by decide) (fun h12 => ?_) (fun h12 => ?_)
    · skip
      refine zv_aload_n C 0 dX10_outputByte_17 rfl rfl ?_
      refine zG9_4 C (by decide : kd 0 = _) kX10_40 dX10_outputByte_18 ?_
      refine zG2_0 C (by decide : kd 316 = _) kX10_398 dX10_outputByte_21 ?_
      refine zv_iload_n C 1 dX10_outputByte_24 rfl rfl ?_
      refine zv_bald (j := y.toNat) C (by decide : kd 317 = _) (zI_ix (by omega)) (Nat.lt_of_lt_of_eq (show y.toNat < 1024 by omega) (by decide)) dX10_outputByte_25 ?_
      exact zv_iret C hr rfl dX10_outputByte_26 ⟨by rw [if_pos (by omega)], rfl⟩
    · skip
      refine zv_iconst (v := zI (-1)) C dX10_outputByte_15 rfl ?_
      exact zv_iret C hr rfl dX10_outputByte_16 ⟨by rw [if_neg (by omega)], rfl⟩
set_option maxRecDepth 20000 in
theorem c_X10_appendInput {l : Launch} (hfl : l.stackTraces = false) (E : zE) (σ : zS) (n : Nat) (x1 x2 x3 x4 x5 : Int32) (hn : gI σ 2 1 = zI (n : Int)) (hn9 : n ≤ 900) : zRi l E yX10_appendInput cX10_appendInput 7 .int (zrm 1 22) [.ref (ob E 0), .int x1, .int x2, .int x3, .int x4, .int x5] σ (fun r τ => r = (if n + 20 ≤ 900 then zI ((n + 20 : Nat) : Int) else zI (-1)) ∧ τ = if n + 20 ≤ 900 then (aB (aB (aB (aB (aB σ (n + 0) x1 4) (n + 4) x2 4) (n + 8) x3 4) (n + 12) x4 4) (n + 16) x5 4) else σ) := by
  refine Met.ofW (cc := cX10_appendInput) (maxL := 7) (ret := (some .int)) (by decide +kernel) rfl ?_
  intro p e s m args below meth c s₁ B hml hv
  obtain ⟨rfl, hd⟩ := hv
  have C := zX_of (own := RX10) hfl B hml rfl hd rfl
  have hr := B.returns
  refine zV_go hd (Nat.le_of_ble_eq_true rfl) (lv := [(0, .ref (ob E 0)), (1, .int x1), (2, .int x2), (3, .int x3), (4, .int x4), (5, .int x5)]) rfl ?_
  have hn0 : gI σ 2 1 = zI ((n + 0 : Nat) : Int) := hn
  have hn1 : gI (aB σ (n + 0) x1 4) 2 1 = zI ((n + 4 : Nat) : Int) := aB_n (n := n + 0) hn0 4
  have hn2 : gI (aB (aB σ (n + 0) x1 4) (n + 4) x2 4) 2 1 = zI ((n + 8 : Nat) : Int) := aB_n (n := n + 4) hn1 4
  have hn3 : gI (aB (aB (aB σ (n + 0) x1 4) (n + 4) x2 4) (n + 8) x3 4) 2 1 = zI ((n + 12 : Nat) : Int) := aB_n (n := n + 8) hn2 4
  have hn4 : gI (aB (aB (aB (aB σ (n + 0) x1 4) (n + 4) x2 4) (n + 8) x3 4) (n + 12) x4 4) 2 1 = zI ((n + 16 : Nat) : Int) := aB_n (n := n + 12) hn3 4
  have hn5 : gI (aB (aB (aB (aB (aB σ (n + 0) x1 4) (n + 4) x2 4) (n + 8) x3 4) (n + 12) x4 4) (n + 16) x5 4) 2 1 = zI ((n + 20 : Nat) : Int) := aB_n (n := n + 16) hn4 4
  refine zv_aload_n C 0 dX10_appendInput_0 rfl rfl ?_
  refine zG9_0 C (by decide : kd 0 = _) kX10_10 dX10_appendInput_1 ?_
  refine zG5_0 C (by decide : kd 1 = _) kX10_78 dX10_appendInput_4 ?_
  refine zv_astore (lv' := [(6, .ref (ob E 2)), (0, .ref (ob E 0)), (1, .int x1), (2, .int x2), (3, .int x3), (4, .int x4), (5, .int x5)]) C dX10_appendInput_7  (by decide) rfl ?_
  refine zv_aload C 0 dX10_appendInput_9 rfl ?_
  refine zG7_1 C (by decide : kd 2 = _) kX10_82 dX10_appendInput_11 ?_
  refine zv_eqi (y := zI (n : Int)) (hn) ?_
  refine zv_bipush (v := zI 20) C dX10_appendInput_14 (by decide) ?_
  refine zv_iaddZ C dX10_appendInput_16 ?_
  refine zv_sipush (v := zI 900) C dX10_appendInput_17 (by decide) ?_
  refine zv_icmp_leZ (tgt := 25) C (by omega) (by omega) dX10_appendInput_20 (by decide) (fun h20 => ?_) (fun h20 => ?_)
  · skip
    refine zv_aload C 0 dX10_appendInput_25 rfl ?_
    refine zv_iload_n C 2 dX10_appendInput_27 rfl rfl ?_
    refine zv_cvvD (st := []) C (c_X7_appendBytes hfl E σ (n + 0) x1 hn0 (by omega)) mX7_appendBytes kX10_88 (by decide : kd 2 = 7) rfl rfl rfl ⟨rfl, rfl⟩ (show zfit (zrm 0 0) 3 (zrm 1 22) = true from rfl) (Nat.le_of_ble_eq_true rfl) dX10_appendInput_28 ⟨Nat.zero_le _, Nat.zero_le _⟩ ?_
    refine zv_aload C 0 dX10_appendInput_31 rfl ?_
    refine zv_iload_n C 3 dX10_appendInput_33 rfl rfl ?_
    refine zv_cvvD (st := []) C (c_X7_appendBytes hfl E (aB σ (n + 0) x1 4) (n + 4) x2 hn1 (by omega)) mX7_appendBytes kX10_88 (by decide : kd 2 = 7) rfl rfl rfl ⟨rfl, rfl⟩ (show zfit (zrm 0 0) 3 (zrm 1 22) = true from rfl) (Nat.le_of_ble_eq_true rfl) dX10_appendInput_34 ⟨Nat.zero_le _, Nat.zero_le _⟩ ?_
    refine zv_aload C 0 dX10_appendInput_37 rfl ?_
    refine zv_iload_n C 4 dX10_appendInput_39 rfl rfl ?_
    refine zv_cvvD (st := []) C (c_X7_appendBytes hfl E (aB (aB σ (n + 0) x1 4) (n + 4) x2 4) (n + 8) x3 hn2 (by omega)) mX7_appendBytes kX10_88 (by decide : kd 2 = 7) rfl rfl rfl ⟨rfl, rfl⟩ (show zfit (zrm 0 0) 3 (zrm 1 22) = true from rfl) (Nat.le_of_ble_eq_true rfl) dX10_appendInput_40 ⟨Nat.zero_le _, Nat.zero_le _⟩ ?_
    refine zv_aload C 0 dX10_appendInput_43 rfl ?_
    refine zv_iload C 5 dX10_appendInput_45 rfl ?_
    refine zv_cvvD (st := []) C (c_X7_appendBytes hfl E (aB (aB (aB σ (n + 0) x1 4) (n + 4) x2 4) (n + 8) x3 4) (n + 12) x4 hn3 (by omega)) mX7_appendBytes kX10_88 (by decide : kd 2 = 7) rfl rfl rfl ⟨rfl, rfl⟩ (show zfit (zrm 0 0) 3 (zrm 1 22) = true from rfl) (Nat.le_of_ble_eq_true rfl) dX10_appendInput_47 ⟨Nat.zero_le _, Nat.zero_le _⟩ ?_
    refine zv_aload C 0 dX10_appendInput_50 rfl ?_
    refine zv_iload C 6 dX10_appendInput_52 rfl ?_
    refine zv_cvvD (st := []) C (c_X7_appendBytes hfl E (aB (aB (aB (aB σ (n + 0) x1 4) (n + 4) x2 4) (n + 8) x3 4) (n + 12) x4 4) (n + 16) x5 hn4 (by omega)) mX7_appendBytes kX10_88 (by decide : kd 2 = 7) rfl rfl rfl ⟨rfl, rfl⟩ (show zfit (zrm 0 0) 3 (zrm 1 22) = true from rfl) (Nat.le_of_ble_eq_true rfl) dX10_appendInput_54 ⟨Nat.zero_le _, Nat.zero_le _⟩ ?_
    refine zv_aload C 0 dX10_appendInput_57 rfl ?_
    refine zG7_1 C (by decide : kd 2 = _) kX10_82 dX10_appendInput_59 ?_
    refine zv_eqi (y := (zI ((n + 20 : Nat) : Int))) (hn5) ?_
    exact zv_iret C hr rfl dX10_appendInput_62 ⟨by rw [if_pos (by omega)], by rw [if_pos (by omega)]⟩
  · skip
    refine zv_iconst (v := zI (-1)) C dX10_appendInput_23 rfl ?_
    exact zv_iret C hr rfl dX10_appendInput_24 ⟨by rw [if_neg (by omega)], by rw [if_neg (by omega)]⟩
