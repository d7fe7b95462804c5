set_option maxRecDepth 20000 in
theorem c_X8_cell {l : Launch} (hfl : l.stackTraces = false) (E : zE) (σ : zS) (k i w : Nat) (hk : kd k = 8) (hi : i < 4) (hw : w < 3) : zRi l E yX8_cell cX8_cell 4 .int (zrm 0 0) [.ref (ob E k), .int (zI ↑i), .int (zI ↑w)] σ (fun r τ => r = gI σ (k + 1) (3 * i + w) ∧ τ = σ) := by
  refine Met.ofW (cc := cX8_cell) (maxL := 4) (ret := (some .int)) (by decide) rfl ?_
  intro p e s m args below meth c s₁ B hml hv
  obtain ⟨rfl, hd⟩ := hv
  have C := zX_of (own := RX8) hfl B hml rfl hd rfl
  have hr := B.returns
  refine zV_go hd (Nat.le_of_ble_eq_true rfl) (lv := [(0, .ref (ob E k)), (1, .int (zI ↑i)), (2, .int (zI ↑w))]) rfl ?_
  refine zv_iload_n C 1 dX8_cell_0 rfl rfl ?_
  refine zv_iconst (v := zI 3) C dX8_cell_1 rfl ?_
  refine zv_imulZ C dX8_cell_2 ?_
  refine zv_iload_n C 2 dX8_cell_3 rfl rfl ?_
  refine zv_iaddZ C dX8_cell_4 ?_
  refine zv_istore_n (lv' := [(3, .int (zI ((↑i * 3) + ↑w))), (0, .ref (ob E k)), (1, .int (zI ↑i)), (2, .int (zI ↑w))]) C dX8_cell_5 rfl (by decide) rfl ?_
  refine zv_iload_n C 0 dX8_cell_6 rfl rfl ?_
  refine zv_if_ltZ (tgt := 28) C (by omega) dX8_cell_7 (by decide) (fun h7 => ?_) (fun h7 => ?_)
  · exfalso
    omega
  · skip
    refine zv_iload_n C 0 dX8_cell_10 rfl rfl ?_
    refine zv_aload_n C 1 dX8_cell_11 rfl rfl ?_
    refine zG8_0 C hk kX8_11 dX8_cell_12 ?_
    refine zv_alen C (by rw [(ztr hk).1]; decide) dX8_cell_15 ?_
    refine zv_eqi (y := zI 12) (by rw [(ztr hk).2]; exact (zI_nat 12).symm) ?_
    refine zv_icmp_geZ (tgt := 28) C (by omega) (by omega) dX8_cell_16 (by decide) (fun h16 => ?_) (fun h16 => ?_)
    · exfalso
      omega
    · skip
      refine zv_aload_n C 1 dX8_cell_19 rfl rfl ?_
      refine zG8_0 C hk kX8_11 dX8_cell_20 ?_
      refine zv_iload_n C 0 dX8_cell_23 rfl rfl ?_
      refine zv_iald (j := 3 * i + w) C (ztr hk).1 (zI_ix (by omega)) (by rw [(ztr hk).2]; omega) dX8_cell_24 ?_
      refine zv_goto (tgt := 29) C dX8_cell_25 (by decide) ?_
      exact zv_iret C hr rfl dX8_cell_29 ⟨rfl, rfl⟩
