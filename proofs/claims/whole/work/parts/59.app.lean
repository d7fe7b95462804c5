/-- four bytes behind the text -/
def bB (x : Int32) (j : Nat) : Int32 := vp_nar .byte ((x >>> ((zI (24 - 8 * (j : Int))) &&& 31)).toInt8.toInt32)
def aB (σ : zS) (n : Nat) (x : Int32) : Nat → zS
  | 0 => σ
  | j + 1 => sI (sI (aB σ n x j) 3 (n + j) (bB x j)) 2 1 (zI ((n + j + 1 : Nat) : Int))
theorem aB_n {σ : zS} {n : Nat} {x : Int32} (h : gI σ 2 1 = zI (n : Int)) (j : Nat) : gI (aB σ n x j) 2 1 = zI ((n + j : Nat) : Int) := by
  cases j with
  | zero => exact h
  | succ j => simp only [aB]; rw [gI_sI, if_pos ⟨rfl, rfl⟩]; rfl
set_option maxRecDepth 20000 in
theorem c_X7_appendBytes {l : Launch} (hfl : l.stackTraces = false) (E : zE) (σ : zS) (n : Nat) (x : Int32) (hn : gI σ 2 1 = zI (n : Int)) (hn4 : n + 4 ≤ 900) : zRv l E yX7_appendBytes cX7_appendBytes 3 (zrm 0 0) [.ref (ob E 2), .int x] σ (fun τ => τ = aB σ n x 4) := by
  refine Met.ofW (cc := cX7_appendBytes) (maxL := 3) (ret := none) (by decide +kernel) rfl ?_
  intro p e s m args below meth c s₁ B hml hv
  obtain ⟨rfl, hd⟩ := hv
  have C := zX_of (own := RX7) hfl B hml rfl hd rfl
  have hr := B.returns
  refine zV_go hd (Nat.le_of_ble_eq_true rfl) (lv := [(0, .ref (ob E 2)), (1, .int x)]) rfl ?_
  refine zv_bipush (v := zI 24) C dX7_appendBytes_0 (by decide) ?_
  refine zv_istore_n (lv' := [(2, .int (zI 24)), (0, .ref (ob E 2)), (1, .int x)]) C dX7_appendBytes_2 rfl (by decide) rfl ?_
  have q3_2 : (24 : Int) = 24 - 8 * (0 : Int) := by first | rfl | omega
  refine zv_sub (lv' := [(0, .ref (ob E 2)), (1, .int x), (2, .int (zI (24 - 8 * (0 : Int))))]) [1, 2, 0] (zcons rfl (zcons rfl (zcons (zqI q3_2) rfl))) ?_
  refine zv_eqS (τ := (aB σ n x 0)) (rfl) ?_
  refine zv_while (α := Nat) (fun v => 4 - v) (fun v => v ≤ 4) (fun v => (aB σ n x v)) (fun v => [(0, .ref (ob E 2)), (1, .int x), (2, .int (zI (24 - 8 * (v : Int))))]) (fun v => []) (fun j hI ih => ?_) (0) (by omega)
  refine zv_iload_n C 2 dX7_appendBytes_3 rfl rfl ?_
  refine zv_if_ltZ (tgt := 46) C (by omega) dX7_appendBytes_4 (by decide) (fun h4 => ?_) (fun h4 => ?_)
  · skip
    exact zv_vret C hr dX7_appendBytes_46 (by rw [show j = 4 by omega])
  · skip
    refine zv_aload_n C 0 dX7_appendBytes_7 rfl rfl ?_
    refine zG7_1 C (by decide : kd 2 = _) kX7_15 dX7_appendBytes_8 ?_
    refine zv_eqi (y := zI ((n + j : Nat) : Int)) (aB_n hn j) ?_
    refine zv_sipush (v := zI 900) C dX7_appendBytes_11 (by decide) ?_
    refine zv_icmp_geZ (tgt := 40) C (by omega) (by omega) dX7_appendBytes_14 (by decide) (fun h14 => ?_) (fun h14 => ?_)
    · exfalso
      omega
    · skip
      refine zv_aload_n C 0 dX7_appendBytes_17 rfl rfl ?_
      refine zG7_0 C (by decide : kd 2 = _) kX7_9 dX7_appendBytes_18 ?_
      refine zv_aload_n C 0 dX7_appendBytes_21 rfl rfl ?_
      refine zG7_1 C (by decide : kd 2 = _) kX7_15 dX7_appendBytes_22 ?_
      refine zv_eqi (y := zI ((n + j : Nat) : Int)) (aB_n hn j) ?_
      refine zv_iload_n C 1 dX7_appendBytes_25 rfl rfl ?_
      refine zv_iload_n C 2 dX7_appendBytes_26 rfl rfl ?_
      refine zv_ishr C dX7_appendBytes_27 ?_
      refine zv_i2b C dX7_appendBytes_28 ?_
      refine zv_bast (j := n + j) C (by decide : kd 3 = _) (zI_ix rfl) (Nat.lt_of_lt_of_eq (show n + j < 900 by omega) (by decide)) dX7_appendBytes_29 ?_
      refine zv_aload_n C 0 dX7_appendBytes_30 rfl rfl ?_
      refine zv_dup C dX7_appendBytes_31 rfl ?_
      refine zG7_1 C (by decide : kd 2 = _) kX7_15 dX7_appendBytes_32 ?_
      refine zv_eqi (y := (zI ((n + j : Nat) : Int))) (by rw [gI_sI, if_neg (by omega)]; exact aB_n hn j) ?_
      refine zv_iconst (v := zI 1) C dX7_appendBytes_35 rfl ?_
      refine zv_iaddZ C dX7_appendBytes_36 ?_
      refine zv_eqi (y := (zI ((n + j + 1 : Nat) : Int))) (congrArg zI (by omega)) ?_
      refine zP7_1 C (by decide : kd 2 = _) kX7_15 dX7_appendBytes_37 ?_
      refine zv_iinc (v := (zI (24 - 8 * (j : Int) + (-8)))) (lv' := [(2, .int (zI (24 - 8 * (j : Int) + (-8)))), (0, .ref (ob E 2)), (1, .int x)]) C 2 dX7_appendBytes_40 rfl (zI_add _ _) (by decide) rfl ?_
      refine zv_goto (tgt := 3) C dX7_appendBytes_43 (by decide) ?_
      have q3_39 : (24 - 8 * (j : Int) + (-8) : Int) = 24 - 8 * ((j + 1 : Nat) : Int) := by omega
      refine zv_sub (lv' := [(0, .ref (ob E 2)), (1, .int x), (2, .int (zI (24 - 8 * ((j + 1 : Nat) : Int))))]) [1, 2, 0] (zcons rfl (zcons rfl (zcons (zqI q3_39) rfl))) ?_
      refine zv_eqS (τ := (aB σ n x (j + 1))) (rfl) ?_
      exact ih (j + 1) (by omega) (by omega)
