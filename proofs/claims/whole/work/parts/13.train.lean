set_option maxRecDepth 20000 in
theorem c_X8_cell {l : Launch} (hfl : l.stackTraces = false) (E : zE) (σ : zS) (k i w : Nat) (hk : kd k = 8) (hi : i < 4) (hw : w < 3) : zRi l E yX8_cell cX8_cell 4 .int (zrm 0 0) [.ref (ob E k), .int (zI (i : Int)), .int (zI (w : Int))] σ (fun r τ => r = gI σ (k + 1) (3 * i + w) ∧ τ = σ) := by
  refine Met.ofW (cc := cX8_cell) (maxL := 4) (ret := (some .int)) (by decide +kernel) rfl ?_
  intro p e s m args below meth c s₁ B hml hv
  obtain ⟨rfl, hd⟩ := hv
  have C := zX_of (own := RX8) hfl B hml rfl hd rfl
  have hr := B.returns
  refine zV_go hd (Nat.le_of_ble_eq_true rfl) (lv := [(0, .ref (ob E k)), (1, .int (zI (i : Int))), (2, .int (zI (w : Int)))]) rfl ?_
  refine zv_iload_n C 1 dX8_cell_0 rfl rfl ?_
  refine zv_iconst (v := zI 3) C dX8_cell_1 rfl ?_
  refine zv_imulZ C dX8_cell_2 ?_
  refine zv_iload_n C 2 dX8_cell_3 rfl rfl ?_
  refine zv_iaddZ C dX8_cell_4 ?_
  refine zv_istore_n (lv' := [(3, .int (zI (((i : Int) * 3) + (w : Int)))), (0, .ref (ob E k)), (1, .int (zI (i : Int))), (2, .int (zI (w : Int)))]) C dX8_cell_5 rfl (by decide) rfl ?_
  refine zv_iload_n C 0 dX8_cell_6 rfl rfl ?_
  refine zv_if_ltZ (tgt := 28) C (by omega) dX8_cell_7 (by decide) (fun h7 => ?_) (fun h7 => ?_)
  · exfalso
    omega
  · skip
    refine zv_iload_n C 0 dX8_cell_10 rfl rfl ?_
    refine zv_aload_n C 1 dX8_cell_11 rfl rfl ?_
    refine zG8_0 C hk kX8_11 dX8_cell_12 ?_
    refine zv_alen C (by rw [(ztr hk).1]; decide) dX8_cell_15 ?_
    refine zv_eqi (y := zI 12) (by rw [(ztr hk).2]; exact (zI_nat 12).symm) ?_
    refine zv_icmp_geZ (tgt := 28) C (by omega) (by omega) dX8_cell_16 (by decide) (fun h16 => ?_) (fun h16 => ?_)
    · exfalso
      omega
    · skip
      refine zv_aload_n C 1 dX8_cell_19 rfl rfl ?_
      refine zG8_0 C hk kX8_11 dX8_cell_20 ?_
      refine zv_iload_n C 0 dX8_cell_23 rfl rfl ?_
      refine zv_iald (j := 3 * i + w) C (ztr hk).1 (zI_ix (by omega)) (by rw [(ztr hk).2]; omega) dX8_cell_24 ?_
      refine zv_goto (tgt := 29) C dX8_cell_25 (by decide) ?_
      exact zv_iret C hr rfl dX8_cell_29 ⟨rfl, rfl⟩
theorem c_cell {l : Launch} (hfl : l.stackTraces = false) (E : zE) (σ : zS) (k n : Nat) (tc : Nat → Nat → Nat) (i w : Nat) (hk : kd k = 8) (hT : zTr σ k n tc) (hi : i < n) (hw : w < 3) : zRi l E yX8_cell cX8_cell 4 .int (zrm 0 0) [.ref (ob E k), .int (zI (i : Int)), .int (zI (w : Int))] σ (fun r τ => r = zI (tc i w) ∧ τ = σ) := by
  have h := c_X8_cell hfl E σ k i w hk (Nat.lt_of_lt_of_le hi hT.2.1) hw
  rw [hT.2.2.1 i w hi hw] at h
  exact h
set_option maxRecDepth 20000 in
theorem c_X8_putCell {l : Launch} (hfl : l.stackTraces = false) (E : zE) (σ : zS) (k i w : Nat) (v : Int32) (hk : kd k = 8) (hi : i < 4) (hw : w < 3) : zRv l E yX8_putCell cX8_putCell 5 (zrm 0 0) [.ref (ob E k), .int (zI (i : Int)), .int (zI (w : Int)), .int v] σ (fun τ => τ = sI σ (k + 1) (3 * i + w) v) := by
  refine Met.ofW (cc := cX8_putCell) (maxL := 5) (ret := none) (by decide +kernel) rfl ?_
  intro p e s m args below meth c s₁ B hml hv
  obtain ⟨rfl, hd⟩ := hv
  have C := zX_of (own := RX8) hfl B hml rfl hd rfl
  have hr := B.returns
  refine zV_go hd (Nat.le_of_ble_eq_true rfl) (lv := [(0, .ref (ob E k)), (1, .int (zI (i : Int))), (2, .int (zI (w : Int))), (3, .int v)]) rfl ?_
  refine zv_iload_n C 1 dX8_putCell_0 rfl rfl ?_
  refine zv_iconst (v := zI 3) C dX8_putCell_1 rfl ?_
  refine zv_imulZ C dX8_putCell_2 ?_
  refine zv_iload_n C 2 dX8_putCell_3 rfl rfl ?_
  refine zv_iaddZ C dX8_putCell_4 ?_
  refine zv_istore (lv' := [(4, .int (zI (((i : Int) * 3) + (w : Int)))), (0, .ref (ob E k)), (1, .int (zI (i : Int))), (2, .int (zI (w : Int))), (3, .int v)]) C dX8_putCell_5  (by decide) rfl ?_
  refine zv_iload C 0 dX8_putCell_7 rfl ?_
  refine zv_if_ltZ (tgt := 30) C (by omega) dX8_putCell_9 (by decide) (fun h9 => ?_) (fun h9 => ?_)
  · exfalso
    omega
  · skip
    refine zv_iload C 0 dX8_putCell_12 rfl ?_
    refine zv_aload_n C 1 dX8_putCell_14 rfl rfl ?_
    refine zG8_0 C hk kX8_11 dX8_putCell_15 ?_
    refine zv_alen C (by rw [(ztr hk).1]; decide) dX8_putCell_18 ?_
    refine zv_eqi (y := zI 12) (by rw [(ztr hk).2]; exact (zI_nat 12).symm) ?_
    refine zv_icmp_geZ (tgt := 30) C (by omega) (by omega) dX8_putCell_19 (by decide) (fun h19 => ?_) (fun h19 => ?_)
    · exfalso
      omega
    · skip
      refine zv_aload_n C 1 dX8_putCell_22 rfl rfl ?_
      refine zG8_0 C hk kX8_11 dX8_putCell_23 ?_
      refine zv_iload C 0 dX8_putCell_26 rfl ?_
      refine zv_iload_n C 4 dX8_putCell_28 rfl rfl ?_
      refine zv_iast (j := 3 * i + w) C (ztr hk).1 (zI_ix (by omega)) (by rw [(ztr hk).2]; omega) dX8_putCell_29 ?_
      exact zv_vret C hr dX8_putCell_30 rfl
set_option maxRecDepth 20000 in
theorem c_X8_isGeared {l : Launch} (hfl : l.stackTraces = false) (E : zE) (σ : zS) (k n : Nat) (tc : Nat → Nat → Nat) (i : Nat) (hk : kd k = 8) (hT : zTr σ k n tc) (hi : i < n) : zRi l E yX8_isGeared cX8_isGeared 2 .boolean (zrm 1 23) [.ref (ob E k), .int (zI (i : Int))] σ (fun r τ => r = zB (tc i 0 ≠ 2) ∧ τ = σ) := by
  refine Met.ofW (cc := cX8_isGeared) (maxL := 2) (ret := (some .boolean)) (by decide +kernel) rfl ?_
  intro p e s m args below meth c s₁ B hml hv
  obtain ⟨rfl, hd⟩ := hv
  have C := zX_of (own := RX8) hfl B hml rfl hd rfl
  have hr := B.returns
  refine zV_go hd (Nat.le_of_ble_eq_true rfl) (lv := [(0, .ref (ob E k)), (1, .int (zI (i : Int)))]) rfl ?_
  refine zv_aload_n C 0 dX8_isGeared_0 rfl rfl ?_
  refine zv_iload_n C 1 dX8_isGeared_1 rfl rfl ?_
  refine zv_iconst (v := zI 0) C dX8_isGeared_2 rfl ?_
  refine zv_cviD (st := []) C (c_cell hfl E σ k n tc i 0 hk hT (by omega) (by decide)) mX8_cell kX8_25 hk rfl rfl rfl ⟨rfl, rfl⟩ (show zfit (zrm 0 0) 4 (zrm 1 23) = true from rfl) (Nat.le_of_ble_eq_true rfl) dX8_isGeared_3 ⟨Nat.zero_le _, Nat.zero_le _⟩ ?_
  refine zv_iconst (v := zI 2) C dX8_isGeared_6 rfl ?_
  refine zv_icmp_eqZ (tgt := 14) C (by have := hT.2.2.2 i 0 (by omega) (by decide); omega) (by omega) dX8_isGeared_7 (by decide) (fun h7 => ?_) (fun h7 => ?_)
  · skip
    refine zv_iconst (v := zI 0) C dX8_isGeared_14 rfl ?_
    exact zv_iret C hr rfl dX8_isGeared_15 ⟨by first | exact (zB_t (by omega)).symm | exact (zB_f (by omega)).symm, rfl⟩
  · skip
    refine zv_iconst (v := zI 1) C dX8_isGeared_10 rfl ?_
    refine zv_goto (tgt := 15) C dX8_isGeared_11 (by decide) ?_
    exact zv_iret C hr rfl dX8_isGeared_15 ⟨by first | exact (zB_t (by omega)).symm | exact (zB_f (by omega)).symm, rfl⟩
set_option maxRecDepth 20000 in
theorem c_X8_gearedParts {l : Launch} (hfl : l.stackTraces = false) (E : zE) (σ : zS) (k n : Nat) (tc : Nat → Nat → Nat) (hk : kd k = 8) (hT : zTr σ k n tc) : zRi l E yX8_gearedParts cX8_gearedParts 3 .int (zrm 0 0) [.ref (ob E k)] σ (fun r τ => r = zI (tGe tc n) ∧ τ = σ) := by
  refine Met.ofW (cc := cX8_gearedParts) (maxL := 3) (ret := (some .int)) (by decide +kernel) rfl ?_
  intro p e s m args below meth c s₁ B hml hv
  obtain ⟨rfl, hd⟩ := hv
  have C := zX_of (own := RX8) hfl B hml rfl hd rfl
  have hr := B.returns
  refine zV_go hd (Nat.le_of_ble_eq_true rfl) (lv := [(0, .ref (ob E k))]) rfl ?_
  have hn := hT.2.1
  refine zv_iconst (v := zI 0) C dX8_gearedParts_0 rfl ?_
  refine zv_istore_n (lv' := [(1, .int (zI 0)), (0, .ref (ob E k))]) C dX8_gearedParts_1 rfl (by decide) rfl ?_
  refine zv_iconst (v := zI 0) C dX8_gearedParts_2 rfl ?_
  refine zv_istore_n (lv' := [(2, .int (zI 0)), (1, .int (zI 0)), (0, .ref (ob E k))]) C dX8_gearedParts_3 rfl (by decide) rfl ?_
  have q4_5 : (0 : Int) = (0 : Int) := by first | rfl | omega
  have q4_6 : (0 : Int) = (tGe tc 0 : Int) := by first | rfl | omega
  refine zv_sub (lv' := [(0, .ref (ob E k)), (1, .int (zI (tGe tc 0 : Int))), (2, .int (zI (0 : Int)))]) [2, 1, 0] (zcons rfl (zcons (zqI q4_6) (zcons (zqI q4_5) rfl))) ?_
  refine zv_while (α := Nat) (fun v => n - v) (fun v => v ≤ n) (fun v => σ) (fun v => [(0, .ref (ob E k)), (1, .int (zI (tGe tc v : Int))), (2, .int (zI (v : Int)))]) (fun v => []) (fun j hI ih => ?_) (0) (by omega)
  refine zv_iload_n C 2 dX8_gearedParts_4 rfl rfl ?_
  refine zv_aload_n C 0 dX8_gearedParts_5 rfl rfl ?_
  refine zG8_1 C hk kX8_15 dX8_gearedParts_6 ?_
  refine zv_eqi (y := zI (n : Int)) (hT.1) ?_
  refine zv_icmp_geZ (tgt := 35) C (by omega) (by omega) dX8_gearedParts_9 (by decide) (fun h9 => ?_) (fun h9 => ?_)
  · skip
    refine zv_iload_n C 1 dX8_gearedParts_35 rfl rfl ?_
    exact zv_iret C hr rfl dX8_gearedParts_36 ⟨by rw [show j = n by omega], rfl⟩
  · skip
    refine zv_aload_n C 0 dX8_gearedParts_12 rfl rfl ?_
    refine zG8_0 C hk kX8_11 dX8_gearedParts_13 ?_
    refine zv_iload_n C 2 dX8_gearedParts_16 rfl rfl ?_
    refine zv_iconst (v := zI 3) C dX8_gearedParts_17 rfl ?_
    refine zv_imulZ C dX8_gearedParts_18 ?_
    refine zv_iconst (v := zI 0) C dX8_gearedParts_19 rfl ?_
    refine zv_iaddZ C dX8_gearedParts_20 ?_
    refine zv_iald (j := 3 * j + 0) C (ztr hk).1 (zI_ix (by omega)) (by rw [(ztr hk).2]; omega) dX8_gearedParts_21 ?_
    refine zv_eqi (y := (zI (tc j 0 : Int))) (hT.2.2.1 j 0 (by omega) (by decide)) ?_
    refine zv_iconst (v := zI 2) C dX8_gearedParts_22 rfl ?_
    refine zv_icmp_eqZ (tgt := 29) C (by have := hT.2.2.2 j 0 (by omega) (by decide); omega) (by omega) dX8_gearedParts_23 (by decide) (fun h23 => ?_) (fun h23 => ?_)
    · skip
      refine zv_iinc (v := (zI ((j : Int) + 1))) (lv' := [(2, .int (zI ((j : Int) + 1))), (0, .ref (ob E k)), (1, .int (zI (tGe tc j : Int)))]) C 2 dX8_gearedParts_29 rfl (zI_add _ _) (by decide) rfl ?_
      refine zv_goto (tgt := 4) C dX8_gearedParts_32 (by decide) ?_
      have q4_32 : ((j : Int) + 1 : Int) = ((j + 1 : Nat) : Int) := by first | rfl | omega
      have q4_33 : ((tGe tc j : Int) : Int) = (tGe tc (j + 1) : Int) := by simp only [tGe]; split <;> omega
      refine zv_sub (lv' := [(0, .ref (ob E k)), (1, .int (zI (tGe tc (j + 1) : Int))), (2, .int (zI ((j + 1 : Nat) : Int)))]) [1, 2, 0] (zcons rfl (zcons (zqI q4_33) (zcons (zqI q4_32) rfl))) ?_
      exact ih (j + 1) (by omega) (by omega)
    · skip
      refine zv_iinc (v := (zI ((tGe tc j : Int) + 1))) (lv' := [(1, .int (zI ((tGe tc j : Int) + 1))), (0, .ref (ob E k)), (2, .int (zI (j : Int)))]) C 1 dX8_gearedParts_26 rfl (zI_add _ _) (by decide) rfl ?_
      refine zv_iinc (v := (zI ((j : Int) + 1))) (lv' := [(2, .int (zI ((j : Int) + 1))), (1, .int (zI ((tGe tc j : Int) + 1))), (0, .ref (ob E k))]) C 2 dX8_gearedParts_29 rfl (zI_add _ _) (by decide) rfl ?_
      refine zv_goto (tgt := 4) C dX8_gearedParts_32 (by decide) ?_
      have q4_40 : ((j : Int) + 1 : Int) = ((j + 1 : Nat) : Int) := by first | rfl | omega
      have q4_41 : ((tGe tc j : Int) + 1 : Int) = (tGe tc (j + 1) : Int) := by simp only [tGe]; split <;> omega
      refine zv_sub (lv' := [(0, .ref (ob E k)), (1, .int (zI (tGe tc (j + 1) : Int))), (2, .int (zI ((j + 1 : Nat) : Int)))]) [2, 1, 0] (zcons rfl (zcons (zqI q4_41) (zcons (zqI q4_40) rfl))) ?_
      exact ih (j + 1) (by omega) (by omega)
set_option maxRecDepth 20000 in
theorem c_X8_hasRoomFor {l : Launch} (hfl : l.stackTraces = false) (E : zE) (σ : zS) (k n : Nat) (tc : Nat → Nat → Nat) (q : Nat) (hk : kd k = 8) (hT : zTr σ k n tc) (hq : q ≤ 2) : zRi l E yX8_hasRoomFor cX8_hasRoomFor 2 .boolean (zrm 1 22) [.ref (ob E k), .int (zI (q : Int))] σ (fun r τ => r = zB (n < 4 ∧ (q = 2 ∨ tGe tc n < 2)) ∧ τ = σ) := by
  refine Met.ofW (cc := cX8_hasRoomFor) (maxL := 2) (ret := (some .boolean)) (by decide +kernel) rfl ?_
  intro p e s m args below meth c s₁ B hml hv
  obtain ⟨rfl, hd⟩ := hv
  have C := zX_of (own := RX8) hfl B hml rfl hd rfl
  have hr := B.returns
  refine zV_go hd (Nat.le_of_ble_eq_true rfl) (lv := [(0, .ref (ob E k)), (1, .int (zI (q : Int)))]) rfl ?_
  have hn := hT.2.1
  have hg := tGe_le tc n
  refine zv_aload_n C 0 dX8_hasRoomFor_0 rfl rfl ?_
  refine zG8_1 C hk kX8_15 dX8_hasRoomFor_1 ?_
  refine zv_eqi (y := zI (n : Int)) (hT.1) ?_
  refine zv_iconst (v := zI 4) C dX8_hasRoomFor_4 rfl ?_
  refine zv_icmp_geZ (tgt := 25) C (by omega) (by omega) dX8_hasRoomFor_5 (by decide) (fun h5 => ?_) (fun h5 => ?_)
  · skip
    refine zv_iconst (v := zI 0) C dX8_hasRoomFor_25 rfl ?_
    exact zv_iret C hr rfl dX8_hasRoomFor_26 ⟨by first | exact (zB_t (by omega)).symm | exact (zB_f (by omega)).symm, rfl⟩
  · skip
    refine zv_iload_n C 1 dX8_hasRoomFor_8 rfl rfl ?_
    refine zv_iconst (v := zI 2) C dX8_hasRoomFor_9 rfl ?_
    refine zv_icmp_eqZ (tgt := 21) C (by omega) (by omega) dX8_hasRoomFor_10 (by decide) (fun h10 => ?_) (fun h10 => ?_)
    · skip
      refine zv_iconst (v := zI 1) C dX8_hasRoomFor_21 rfl ?_
      refine zv_goto (tgt := 26) C dX8_hasRoomFor_22 (by decide) ?_
      exact zv_iret C hr rfl dX8_hasRoomFor_26 ⟨by first | exact (zB_t (by omega)).symm | exact (zB_f (by omega)).symm, rfl⟩
    · skip
      refine zv_aload_n C 0 dX8_hasRoomFor_13 rfl rfl ?_
      refine zv_cviD (st := []) C (c_X8_gearedParts hfl E σ k n tc hk hT) mX8_gearedParts kX8_29 hk rfl rfl rfl ⟨rfl, rfl⟩ (show zfit (zrm 0 0) 3 (zrm 1 22) = true from rfl) (Nat.le_of_ble_eq_true rfl) dX8_hasRoomFor_14 ⟨Nat.zero_le _, Nat.zero_le _⟩ ?_
      refine zv_iconst (v := zI 2) C dX8_hasRoomFor_17 rfl ?_
      refine zv_icmp_geZ (tgt := 25) C (by omega) (by omega) dX8_hasRoomFor_18 (by decide) (fun h18 => ?_) (fun h18 => ?_)
      · skip
        refine zv_iconst (v := zI 0) C dX8_hasRoomFor_25 rfl ?_
        exact zv_iret C hr rfl dX8_hasRoomFor_26 ⟨by first | exact (zB_t (by omega)).symm | exact (zB_f (by omega)).symm, rfl⟩
      · skip
        refine zv_iconst (v := zI 1) C dX8_hasRoomFor_21 rfl ?_
        refine zv_goto (tgt := 26) C dX8_hasRoomFor_22 (by decide) ?_
        exact zv_iret C hr rfl dX8_hasRoomFor_26 ⟨by first | exact (zB_t (by omega)).symm | exact (zB_f (by omega)).symm, rfl⟩
set_option maxRecDepth 20000 in
theorem c_X8_append {l : Launch} (hfl : l.stackTraces = false) (E : zE) (σ : zS) (k n : Nat) (tc : Nat → Nat → Nat) (a b d : Nat) (hk : kd k = 8) (hT : zTr σ k n tc) (hn4 : n < 4) : zRv l E yX8_append cX8_append 4 (zrm 1 24) [.ref (ob E k), .int (zI (a : Int)), .int (zI (b : Int)), .int (zI (d : Int))] σ (fun τ => τ = sI (sI (sI (sI σ (k + 1) (3 * n + 0) (zI (a : Int))) (k + 1) (3 * n + 1) (zI (b : Int))) (k + 1) (3 * n + 2) (zI (d : Int))) k 1 (zI ((n + 1 : Nat) : Int))) := by
  refine Met.ofW (cc := cX8_append) (maxL := 4) (ret := none) (by decide +kernel) rfl ?_
  intro p e s m args below meth c s₁ B hml hv
  obtain ⟨rfl, hd⟩ := hv
  have C := zX_of (own := RX8) hfl B hml rfl hd rfl
  have hr := B.returns
  refine zV_go hd (Nat.le_of_ble_eq_true rfl) (lv := [(0, .ref (ob E k)), (1, .int (zI (a : Int))), (2, .int (zI (b : Int))), (3, .int (zI (d : Int)))]) rfl ?_
  have hn := hT.2.1
  refine zv_aload_n C 0 dX8_append_0 rfl rfl ?_
  refine zG8_1 C hk kX8_15 dX8_append_1 ?_
  refine zv_eqi (y := zI (n : Int)) (hT.1) ?_
  refine zv_iconst (v := zI 4) C dX8_append_4 rfl ?_
  refine zv_icmp_geZ (tgt := 48) C (by omega) (by omega) dX8_append_5 (by decide) (fun h5 => ?_) (fun h5 => ?_)
  · exfalso
    omega
  · skip
    refine zv_aload_n C 0 dX8_append_8 rfl rfl ?_
    refine zv_aload_n C 0 dX8_append_9 rfl rfl ?_
    refine zG8_1 C hk kX8_15 dX8_append_10 ?_
    refine zv_eqi (y := zI (n : Int)) (hT.1) ?_
    refine zv_iconst (v := zI 0) C dX8_append_13 rfl ?_
    refine zv_iload_n C 1 dX8_append_14 rfl rfl ?_
    refine zv_cvvD (st := []) C (c_X8_putCell hfl E σ k n 0 (zI (a : Int)) hk (by omega) (by decide)) mX8_putCell kX8_33 hk rfl rfl rfl ⟨rfl, rfl⟩ (show zfit (zrm 0 0) 5 (zrm 1 24) = true from rfl) (Nat.le_of_ble_eq_true rfl) dX8_append_15 ⟨Nat.zero_le _, Nat.zero_le _⟩ ?_
    refine zv_aload_n C 0 dX8_append_18 rfl rfl ?_
    refine zv_aload_n C 0 dX8_append_19 rfl rfl ?_
    refine zG8_1 C hk kX8_15 dX8_append_20 ?_
    refine zv_eqi (y := zI (n : Int)) (by simp [gI_sI]; exact hT.1) ?_
    refine zv_iconst (v := zI 1) C dX8_append_23 rfl ?_
    refine zv_iload_n C 2 dX8_append_24 rfl rfl ?_
    refine zv_cvvD (st := []) C (c_X8_putCell hfl E (sI σ (k + 1) (3 * n + 0) (zI (a : Int))) k n 1 (zI (b : Int)) hk (by omega) (by decide)) mX8_putCell kX8_33 hk rfl rfl rfl ⟨rfl, rfl⟩ (show zfit (zrm 0 0) 5 (zrm 1 24) = true from rfl) (Nat.le_of_ble_eq_true rfl) dX8_append_25 ⟨Nat.zero_le _, Nat.zero_le _⟩ ?_
    refine zv_aload_n C 0 dX8_append_28 rfl rfl ?_
    refine zv_aload_n C 0 dX8_append_29 rfl rfl ?_
    refine zG8_1 C hk kX8_15 dX8_append_30 ?_
    refine zv_eqi (y := zI (n : Int)) (by simp [gI_sI]; exact hT.1) ?_
    refine zv_iconst (v := zI 2) C dX8_append_33 rfl ?_
    refine zv_iload_n C 3 dX8_append_34 rfl rfl ?_
    refine zv_cvvD (st := []) C (c_X8_putCell hfl E (sI (sI σ (k + 1) (3 * n + 0) (zI (a : Int))) (k + 1) (3 * n + 1) (zI (b : Int))) k n 2 (zI (d : Int)) hk (by omega) (by decide)) mX8_putCell kX8_33 hk rfl rfl rfl ⟨rfl, rfl⟩ (show zfit (zrm 0 0) 5 (zrm 1 24) = true from rfl) (Nat.le_of_ble_eq_true rfl) dX8_append_35 ⟨Nat.zero_le _, Nat.zero_le _⟩ ?_
    refine zv_aload_n C 0 dX8_append_38 rfl rfl ?_
    refine zv_dup C dX8_append_39 rfl ?_
    refine zG8_1 C hk kX8_15 dX8_append_40 ?_
    refine zv_eqi (y := zI (n : Int)) (by simp [gI_sI]; exact hT.1) ?_
    refine zv_iconst (v := zI 1) C dX8_append_43 rfl ?_
    refine zv_iaddZ C dX8_append_44 ?_
    refine zP8_1 C hk kX8_15 dX8_append_45 ?_
    exact zv_vret C hr dX8_append_48 rfl
set_option maxRecDepth 20000 in
theorem c_X8_meshes {l : Launch} (hfl : l.stackTraces = false) (E : zE) (σ : zS) (k n : Nat) (tc : Nat → Nat → Nat) (hk : kd k = 8) (hT : zTr σ k n tc) : zRi l E yX8_meshes cX8_meshes 1 .int (zrm 1 22) [.ref (ob E k)] σ (fun r τ => r = zI (2 * (n : Int) - (tGe tc n : Int)) ∧ τ = σ) := by
  refine Met.ofW (cc := cX8_meshes) (maxL := 1) (ret := (some .int)) (by decide +kernel) rfl ?_
  intro p e s m args below meth c s₁ B hml hv
  obtain ⟨rfl, hd⟩ := hv
  have C := zX_of (own := RX8) hfl B hml rfl hd rfl
  have hr := B.returns
  refine zV_go hd (Nat.le_of_ble_eq_true rfl) (lv := [(0, .ref (ob E k))]) rfl ?_
  refine zv_iconst (v := zI 2) C dX8_meshes_0 rfl ?_
  refine zv_aload_n C 0 dX8_meshes_1 rfl rfl ?_
  refine zG8_1 C hk kX8_15 dX8_meshes_2 ?_
  refine zv_eqi (y := zI (n : Int)) (hT.1) ?_
  refine zv_imulZ C dX8_meshes_5 ?_
  refine zv_aload_n C 0 dX8_meshes_6 rfl rfl ?_
  refine zv_cviD (st := [.int (zI (2 * (n : Int)))]) C (c_X8_gearedParts hfl E σ k n tc hk hT) mX8_gearedParts kX8_29 hk rfl rfl rfl ⟨rfl, rfl⟩ (show zfit (zrm 0 0) 3 (zrm 1 22) = true from rfl) (Nat.le_of_ble_eq_true rfl) dX8_meshes_7 ⟨Nat.zero_le _, Nat.zero_le _⟩ ?_
  refine zv_isubZ C dX8_meshes_10 ?_
  exact zv_iret C hr rfl dX8_meshes_11 ⟨rfl, rfl⟩
set_option maxRecDepth 20000 in
theorem c_X8_teethTogether {l : Launch} (hfl : l.stackTraces = false) (E : zE) (σ : zS) (k n : Nat) (tc : Nat → Nat → Nat) (hk : kd k = 8) (hT : zTr σ k n tc) : zRi l E yX8_teethTogether cX8_teethTogether 3 .int (zrm 1 23) [.ref (ob E k)] σ (fun r τ => r = zI (tTe tc n : Int) ∧ τ = σ) := by
  refine Met.ofW (cc := cX8_teethTogether) (maxL := 3) (ret := (some .int)) (by decide +kernel) rfl ?_
  intro p e s m args below meth c s₁ B hml hv
  obtain ⟨rfl, hd⟩ := hv
  have C := zX_of (own := RX8) hfl B hml rfl hd rfl
  have hr := B.returns
  refine zV_go hd (Nat.le_of_ble_eq_true rfl) (lv := [(0, .ref (ob E k))]) rfl ?_
  have hn := hT.2.1
  refine zv_iconst (v := zI 0) C dX8_teethTogether_0 rfl ?_
  refine zv_istore_n (lv' := [(1, .int (zI 0)), (0, .ref (ob E k))]) C dX8_teethTogether_1 rfl (by decide) rfl ?_
  refine zv_iconst (v := zI 0) C dX8_teethTogether_2 rfl ?_
  refine zv_istore_n (lv' := [(2, .int (zI 0)), (1, .int (zI 0)), (0, .ref (ob E k))]) C dX8_teethTogether_3 rfl (by decide) rfl ?_
  have q4_5 : (0 : Int) = (0 : Int) := by first | rfl | omega
  have q4_6 : (0 : Int) = (tTe tc 0 : Int) := by first | rfl | omega
  refine zv_sub (lv' := [(0, .ref (ob E k)), (1, .int (zI (tTe tc 0 : Int))), (2, .int (zI (0 : Int)))]) [2, 1, 0] (zcons rfl (zcons (zqI q4_6) (zcons (zqI q4_5) rfl))) ?_
  refine zv_while (α := Nat) (fun v => n - v) (fun v => v ≤ n) (fun v => σ) (fun v => [(0, .ref (ob E k)), (1, .int (zI (tTe tc v : Int))), (2, .int (zI (v : Int)))]) (fun v => []) (fun j hI ih => ?_) (0) (by omega)
  refine zv_iload_n C 2 dX8_teethTogether_4 rfl rfl ?_
  refine zv_aload_n C 0 dX8_teethTogether_5 rfl rfl ?_
  refine zG8_1 C hk kX8_15 dX8_teethTogether_6 ?_
  refine zv_eqi (y := zI (n : Int)) (hT.1) ?_
  refine zv_icmp_geZ (tgt := 34) C (by omega) (by omega) dX8_teethTogether_9 (by decide) (fun h9 => ?_) (fun h9 => ?_)
  · skip
    refine zv_iload_n C 1 dX8_teethTogether_34 rfl rfl ?_
    exact zv_iret C hr rfl dX8_teethTogether_35 ⟨by rw [show j = n by omega], rfl⟩
  · skip
    refine zv_iload_n C 1 dX8_teethTogether_12 rfl rfl ?_
    refine zv_aload_n C 0 dX8_teethTogether_13 rfl rfl ?_
    refine zv_iload_n C 2 dX8_teethTogether_14 rfl rfl ?_
    refine zv_iconst (v := zI 1) C dX8_teethTogether_15 rfl ?_
    refine zv_cviD (st := [.int (zI (tTe tc j : Int))]) C (c_cell hfl E σ k n tc j 1 hk hT (by omega) (by decide)) mX8_cell kX8_25 hk rfl rfl rfl ⟨rfl, rfl⟩ (show zfit (zrm 0 0) 4 (zrm 1 23) = true from rfl) (Nat.le_of_ble_eq_true rfl) dX8_teethTogether_16 ⟨Nat.zero_le _, Nat.zero_le _⟩ ?_
    refine zv_aload_n C 0 dX8_teethTogether_19 rfl rfl ?_
    refine zv_iload_n C 2 dX8_teethTogether_20 rfl rfl ?_
    refine zv_iconst (v := zI 2) C dX8_teethTogether_21 rfl ?_
    refine zv_cviD (st := [.int (zI (tc j 1 : Int)), .int (zI (tTe tc j : Int))]) C (c_cell hfl E σ k n tc j 2 hk hT (by omega) (by decide)) mX8_cell kX8_25 hk rfl rfl rfl ⟨rfl, rfl⟩ (show zfit (zrm 0 0) 4 (zrm 1 23) = true from rfl) (Nat.le_of_ble_eq_true rfl) dX8_teethTogether_22 ⟨Nat.zero_le _, Nat.zero_le _⟩ ?_
    refine zv_iaddZ C dX8_teethTogether_25 ?_
    refine zv_iaddZ C dX8_teethTogether_26 ?_
    refine zv_istore_n (lv' := [(1, .int (zI ((tTe tc j : Int) + ((tc j 1 : Int) + (tc j 2 : Int))))), (0, .ref (ob E k)), (2, .int (zI (j : Int)))]) C dX8_teethTogether_27 rfl (by decide) rfl ?_
    refine zv_iinc (v := (zI ((j : Int) + 1))) (lv' := [(2, .int (zI ((j : Int) + 1))), (1, .int (zI ((tTe tc j : Int) + ((tc j 1 : Int) + (tc j 2 : Int))))), (0, .ref (ob E k))]) C 2 dX8_teethTogether_28 rfl (zI_add _ _) (by decide) rfl ?_
    refine zv_goto (tgt := 4) C dX8_teethTogether_31 (by decide) ?_
    have q4_32 : ((j : Int) + 1 : Int) = ((j + 1 : Nat) : Int) := by first | rfl | omega
    have q4_33 : ((tTe tc j : Int) + ((tc j 1 : Int) + (tc j 2 : Int)) : Int) = (tTe tc (j + 1) : Int) := by simp only [tTe]; omega
    refine zv_sub (lv' := [(0, .ref (ob E k)), (1, .int (zI (tTe tc (j + 1) : Int))), (2, .int (zI ((j + 1 : Nat) : Int)))]) [2, 1, 0] (zcons rfl (zcons (zqI q4_33) (zcons (zqI q4_32) rfl))) ?_
    exact ih (j + 1) (by omega) (by omega)
set_option maxRecDepth 20000 in
theorem c_X8_wheelsWith {l : Launch} (hfl : l.stackTraces = false) (E : zE) (σ : zS) (k n : Nat) (tc : Nat → Nat → Nat) (t : Int) (hk : kd k = 8) (hT : zTr σ k n tc) (ht : -2147483648 ≤ t ∧ t < 2147483648) : zRi l E yX8_wheelsWith cX8_wheelsWith 4 .int (zrm 2 44) [.ref (ob E k), .int (zI t)] σ (fun r τ => r = zI (tWh tc t n : Int) ∧ τ = σ) := by
  refine Met.ofW (cc := cX8_wheelsWith) (maxL := 4) (ret := (some .int)) (by decide +kernel) rfl ?_
  intro p e s m args below meth c s₁ B hml hv
  obtain ⟨rfl, hd⟩ := hv
  have C := zX_of (own := RX8) hfl B hml rfl hd rfl
  have hr := B.returns
  refine zV_go hd (Nat.le_of_ble_eq_true rfl) (lv := [(0, .ref (ob E k)), (1, .int (zI t))]) rfl ?_
  have hn := hT.2.1
  refine zv_iconst (v := zI 0) C dX8_wheelsWith_0 rfl ?_
  refine zv_istore_n (lv' := [(2, .int (zI 0)), (0, .ref (ob E k)), (1, .int (zI t))]) C dX8_wheelsWith_1 rfl (by decide) rfl ?_
  refine zv_iconst (v := zI 0) C dX8_wheelsWith_2 rfl ?_
  refine zv_istore_n (lv' := [(3, .int (zI 0)), (2, .int (zI 0)), (0, .ref (ob E k)), (1, .int (zI t))]) C dX8_wheelsWith_3 rfl (by decide) rfl ?_
  have q4_5 : (0 : Int) = (0 : Int) := by first | rfl | omega
  have q4_6 : (0 : Int) = (tWh tc t 0 : Int) := by first | rfl | omega
  refine zv_sub (lv' := [(0, .ref (ob E k)), (1, .int (zI t)), (2, .int (zI (tWh tc t 0 : Int))), (3, .int (zI (0 : Int)))]) [2, 3, 1, 0] (zcons rfl (zcons rfl (zcons (zqI q4_6) (zcons (zqI q4_5) rfl)))) ?_
  refine zv_while (α := Nat) (fun v => n - v) (fun v => v ≤ n) (fun v => σ) (fun v => [(0, .ref (ob E k)), (1, .int (zI t)), (2, .int (zI (tWh tc t v : Int))), (3, .int (zI (v : Int)))]) (fun v => []) (fun j hI ih => ?_) (0) (by omega)
  refine zv_iload_n C 3 dX8_wheelsWith_4 rfl rfl ?_
  refine zv_aload_n C 0 dX8_wheelsWith_5 rfl rfl ?_
  refine zG8_1 C hk kX8_15 dX8_wheelsWith_6 ?_
  refine zv_eqi (y := zI (n : Int)) (hT.1) ?_
  refine zv_icmp_geZ (tgt := 52) C (by omega) (by omega) dX8_wheelsWith_9 (by decide) (fun h9 => ?_) (fun h9 => ?_)
  · skip
    refine zv_iload_n C 2 dX8_wheelsWith_52 rfl rfl ?_
    exact zv_iret C hr rfl dX8_wheelsWith_53 ⟨by rw [show j = n by omega], rfl⟩
  · skip
    refine zv_aload_n C 0 dX8_wheelsWith_12 rfl rfl ?_
    refine zv_iload_n C 3 dX8_wheelsWith_13 rfl rfl ?_
    refine zv_iconst (v := zI 1) C dX8_wheelsWith_14 rfl ?_
    refine zv_cviD (st := []) C (c_cell hfl E σ k n tc j 1 hk hT (by omega) (by decide)) mX8_cell kX8_25 hk rfl rfl rfl ⟨rfl, rfl⟩ (show zfit (zrm 0 0) 4 (zrm 2 44) = true from rfl) (Nat.le_of_ble_eq_true rfl) dX8_wheelsWith_15 ⟨Nat.zero_le _, Nat.zero_le _⟩ ?_
    refine zv_iload_n C 1 dX8_wheelsWith_18 rfl rfl ?_
    refine zv_icmp_neZ (tgt := 25) C (by have := hT.2.2.2 j 1 (by omega) (by decide); omega) (by omega) dX8_wheelsWith_19 (by decide) (fun h19 => ?_) (fun h19 => ?_)
    · skip
      refine zv_aload_n C 0 dX8_wheelsWith_25 rfl rfl ?_
      refine zv_iload_n C 3 dX8_wheelsWith_26 rfl rfl ?_
      refine zv_cviD (st := []) C (c_X8_isGeared hfl E σ k n tc j hk hT (by omega)) mX8_isGeared kX8_37 hk rfl rfl rfl ⟨rfl, rfl⟩ (show zfit (zrm 1 23) 2 (zrm 2 44) = true from rfl) (Nat.le_of_ble_eq_true rfl) dX8_wheelsWith_27 ⟨Nat.zero_le _, Nat.zero_le _⟩ ?_
      refine zv_if_eqB (tgt := 46) C dX8_wheelsWith_30 (by decide) (fun h30 => ?_) (fun h30 => ?_)
      · skip
        refine zv_iinc (v := (zI ((j : Int) + 1))) (lv' := [(3, .int (zI ((j : Int) + 1))), (0, .ref (ob E k)), (1, .int (zI t)), (2, .int (zI (tWh tc t j : Int)))]) C 3 dX8_wheelsWith_46 rfl (zI_add _ _) (by decide) rfl ?_
        refine zv_goto (tgt := 4) C dX8_wheelsWith_49 (by decide) ?_
        have q4_32 : ((j : Int) + 1 : Int) = ((j + 1 : Nat) : Int) := by first | rfl | omega
        have q4_33 : ((tWh tc t j : Int) : Int) = (tWh tc t (j + 1) : Int) := by simp only [tWh]; split <;> split <;> omega
        refine zv_sub (lv' := [(0, .ref (ob E k)), (1, .int (zI t)), (2, .int (zI (tWh tc t (j + 1) : Int))), (3, .int (zI ((j + 1 : Nat) : Int)))]) [1, 2, 3, 0] (zcons rfl (zcons rfl (zcons (zqI q4_33) (zcons (zqI q4_32) rfl)))) ?_
        exact ih (j + 1) (by omega) (by omega)
      · skip
        refine zv_aload_n C 0 dX8_wheelsWith_33 rfl rfl ?_
        refine zv_iload_n C 3 dX8_wheelsWith_34 rfl rfl ?_
        refine zv_iconst (v := zI 2) C dX8_wheelsWith_35 rfl ?_
        refine zv_cviD (st := []) C (c_cell hfl E σ k n tc j 2 hk hT (by omega) (by decide)) mX8_cell kX8_25 hk rfl rfl rfl ⟨rfl, rfl⟩ (show zfit (zrm 0 0) 4 (zrm 2 44) = true from rfl) (Nat.le_of_ble_eq_true rfl) dX8_wheelsWith_36 ⟨Nat.zero_le _, Nat.zero_le _⟩ ?_
        refine zv_iload_n C 1 dX8_wheelsWith_39 rfl rfl ?_
        refine zv_icmp_neZ (tgt := 46) C (by have := hT.2.2.2 j 2 (by omega) (by decide); omega) (by omega) dX8_wheelsWith_40 (by decide) (fun h40 => ?_) (fun h40 => ?_)
        · skip
          refine zv_iinc (v := (zI ((j : Int) + 1))) (lv' := [(3, .int (zI ((j : Int) + 1))), (0, .ref (ob E k)), (1, .int (zI t)), (2, .int (zI (tWh tc t j : Int)))]) C 3 dX8_wheelsWith_46 rfl (zI_add _ _) (by decide) rfl ?_
          refine zv_goto (tgt := 4) C dX8_wheelsWith_49 (by decide) ?_
          have q4_46 : ((j : Int) + 1 : Int) = ((j + 1 : Nat) : Int) := by first | rfl | omega
          have q4_47 : ((tWh tc t j : Int) : Int) = (tWh tc t (j + 1) : Int) := by simp only [tWh]; split <;> split <;> omega
          refine zv_sub (lv' := [(0, .ref (ob E k)), (1, .int (zI t)), (2, .int (zI (tWh tc t (j + 1) : Int))), (3, .int (zI ((j + 1 : Nat) : Int)))]) [1, 2, 3, 0] (zcons rfl (zcons rfl (zcons (zqI q4_47) (zcons (zqI q4_46) rfl)))) ?_
          exact ih (j + 1) (by omega) (by omega)
        · skip
          refine zv_iinc (v := (zI ((tWh tc t j : Int) + 1))) (lv' := [(2, .int (zI ((tWh tc t j : Int) + 1))), (0, .ref (ob E k)), (1, .int (zI t)), (3, .int (zI (j : Int)))]) C 2 dX8_wheelsWith_43 rfl (zI_add _ _) (by decide) rfl ?_
          refine zv_iinc (v := (zI ((j : Int) + 1))) (lv' := [(3, .int (zI ((j : Int) + 1))), (2, .int (zI ((tWh tc t j : Int) + 1))), (0, .ref (ob E k)), (1, .int (zI t))]) C 3 dX8_wheelsWith_46 rfl (zI_add _ _) (by decide) rfl ?_
          refine zv_goto (tgt := 4) C dX8_wheelsWith_49 (by decide) ?_
          have q4_54 : ((j : Int) + 1 : Int) = ((j + 1 : Nat) : Int) := by first | rfl | omega
          have q4_55 : ((tWh tc t j : Int) + 1 : Int) = (tWh tc t (j + 1) : Int) := by simp only [tWh]; split <;> split <;> omega
          refine zv_sub (lv' := [(0, .ref (ob E k)), (1, .int (zI t)), (2, .int (zI (tWh tc t (j + 1) : Int))), (3, .int (zI ((j + 1 : Nat) : Int)))]) [2, 3, 1, 0] (zcons rfl (zcons rfl (zcons (zqI q4_55) (zcons (zqI q4_54) rfl)))) ?_
          exact ih (j + 1) (by omega) (by omega)
    · skip
      refine zv_iinc (v := (zI ((tWh tc t j : Int) + 1))) (lv' := [(2, .int (zI ((tWh tc t j : Int) + 1))), (0, .ref (ob E k)), (1, .int (zI t)), (3, .int (zI (j : Int)))]) C 2 dX8_wheelsWith_22 rfl (zI_add _ _) (by decide) rfl ?_
      refine zv_aload_n C 1 dX8_wheelsWith_25 rfl rfl ?_
      refine zv_iload_n C 3 dX8_wheelsWith_26 rfl rfl ?_
      refine zv_cviD (st := []) C (c_X8_isGeared hfl E σ k n tc j hk hT (by omega)) mX8_isGeared kX8_37 hk rfl rfl rfl ⟨rfl, rfl⟩ (show zfit (zrm 1 23) 2 (zrm 2 44) = true from rfl) (Nat.le_of_ble_eq_true rfl) dX8_wheelsWith_27 ⟨Nat.zero_le _, Nat.zero_le _⟩ ?_
      refine zv_if_eqB (tgt := 46) C dX8_wheelsWith_30 (by decide) (fun h30 => ?_) (fun h30 => ?_)
      · skip
        refine zv_iinc (v := (zI ((j : Int) + 1))) (lv' := [(3, .int (zI ((j : Int) + 1))), (2, .int (zI ((tWh tc t j : Int) + 1))), (0, .ref (ob E k)), (1, .int (zI t))]) C 3 dX8_wheelsWith_46 rfl (zI_add _ _) (by decide) rfl ?_
        refine zv_goto (tgt := 4) C dX8_wheelsWith_49 (by decide) ?_
        have q4_67 : ((j : Int) + 1 : Int) = ((j + 1 : Nat) : Int) := by first | rfl | omega
        have q4_68 : ((tWh tc t j : Int) + 1 : Int) = (tWh tc t (j + 1) : Int) := by simp only [tWh]; split <;> split <;> omega
        refine zv_sub (lv' := [(0, .ref (ob E k)), (1, .int (zI t)), (2, .int (zI (tWh tc t (j + 1) : Int))), (3, .int (zI ((j + 1 : Nat) : Int)))]) [2, 3, 1, 0] (zcons rfl (zcons rfl (zcons (zqI q4_68) (zcons (zqI q4_67) rfl)))) ?_
        exact ih (j + 1) (by omega) (by omega)
      · skip
        refine zv_aload_n C 1 dX8_wheelsWith_33 rfl rfl ?_
        refine zv_iload_n C 3 dX8_wheelsWith_34 rfl rfl ?_
        refine zv_iconst (v := zI 2) C dX8_wheelsWith_35 rfl ?_
        refine zv_cviD (st := []) C (c_cell hfl E σ k n tc j 2 hk hT (by omega) (by decide)) mX8_cell kX8_25 hk rfl rfl rfl ⟨rfl, rfl⟩ (show zfit (zrm 0 0) 4 (zrm 2 44) = true from rfl) (Nat.le_of_ble_eq_true rfl) dX8_wheelsWith_36 ⟨Nat.zero_le _, Nat.zero_le _⟩ ?_
        refine zv_iload_n C 2 dX8_wheelsWith_39 rfl rfl ?_
        refine zv_icmp_neZ (tgt := 46) C (by have := hT.2.2.2 j 2 (by omega) (by decide); omega) (by omega) dX8_wheelsWith_40 (by decide) (fun h40 => ?_) (fun h40 => ?_)
        · skip
          refine zv_iinc (v := (zI ((j : Int) + 1))) (lv' := [(3, .int (zI ((j : Int) + 1))), (2, .int (zI ((tWh tc t j : Int) + 1))), (0, .ref (ob E k)), (1, .int (zI t))]) C 3 dX8_wheelsWith_46 rfl (zI_add _ _) (by decide) rfl ?_
          refine zv_goto (tgt := 4) C dX8_wheelsWith_49 (by decide) ?_
          have q4_81 : ((j : Int) + 1 : Int) = ((j + 1 : Nat) : Int) := by first | rfl | omega
          have q4_82 : ((tWh tc t j : Int) + 1 : Int) = (tWh tc t (j + 1) : Int) := by simp only [tWh]; split <;> split <;> omega
          refine zv_sub (lv' := [(0, .ref (ob E k)), (1, .int (zI t)), (2, .int (zI (tWh tc t (j + 1) : Int))), (3, .int (zI ((j + 1 : Nat) : Int)))]) [2, 3, 1, 0] (zcons rfl (zcons rfl (zcons (zqI q4_82) (zcons (zqI q4_81) rfl)))) ?_
          exact ih (j + 1) (by omega) (by omega)
        · skip
          refine zv_iinc (v := (zI ((tWh tc t j : Int) + 1 + 1))) (lv' := [(2, .int (zI ((tWh tc t j : Int) + 1 + 1))), (0, .ref (ob E k)), (1, .int (zI t)), (3, .int (zI (j : Int)))]) C 0 dX8_wheelsWith_43 rfl (zI_add _ _) (by decide) rfl ?_
          refine zv_iinc (v := (zI ((j : Int) + 1))) (lv' := [(3, .int (zI ((j : Int) + 1))), (2, .int (zI ((tWh tc t j : Int) + 1 + 1))), (0, .ref (ob E k)), (1, .int (zI t))]) C 3 dX8_wheelsWith_46 rfl (zI_add _ _) (by decide) rfl ?_
          refine zv_goto (tgt := 4) C dX8_wheelsWith_49 (by decide) ?_
          have q4_89 : ((j : Int) + 1 : Int) = ((j + 1 : Nat) : Int) := by first | rfl | omega
          have q4_90 : ((tWh tc t j : Int) + 1 + 1 : Int) = (tWh tc t (j + 1) : Int) := by simp only [tWh]; split <;> split <;> omega
          refine zv_sub (lv' := [(0, .ref (ob E k)), (1, .int (zI t)), (2, .int (zI (tWh tc t (j + 1) : Int))), (3, .int (zI ((j + 1 : Nat) : Int)))]) [2, 3, 1, 0] (zcons rfl (zcons rfl (zcons (zqI q4_90) (zcons (zqI q4_89) rfl)))) ?_
          exact ih (j + 1) (by omega) (by omega)
set_option maxRecDepth 20000 in
theorem c_X8_ratioTop {l : Launch} (hfl : l.stackTraces = false) (E : zE) (σ : zS) (k n : Nat) (tc : Nat → Nat → Nat) (hk : kd k = 8) (hT : zTr σ k n tc) : zRl l E yX8_ratioTop cX8_ratioTop 5 (zrm 1 23) [.ref (ob E k)] σ (fun r τ => r = zL (if n = 0 then 0 else tTop tc n) ∧ τ = σ) := by
  refine Met.ofW (cc := cX8_ratioTop) (maxL := 5) (ret := (some .long)) (by decide +kernel) rfl ?_
  intro p e s m args below meth c s₁ B hml hv
  obtain ⟨rfl, hd⟩ := hv
  have C := zX_of (own := RX8) hfl B hml rfl hd rfl
  have hr := B.returns
  refine zV_go hd (Nat.le_of_ble_eq_true rfl) (lv := [(0, .ref (ob E k))]) rfl ?_
  have hn := hT.2.1
  refine zv_aload_n C 0 dX8_ratioTop_0 rfl rfl ?_
  refine zG8_1 C hk kX8_15 dX8_ratioTop_1 ?_
  refine zv_eqi (y := zI (n : Int)) (hT.1) ?_
  refine zv_if_neZ (tgt := 9) C (by omega) dX8_ratioTop_4 (by decide) (fun h4 => ?_) (fun h4 => ?_)
  · skip
    refine zv_lconst (v := zL 1) C dX8_ratioTop_9 (by decide) ?_
    refine zv_lstore_n (lv' := [(1, .long (zL 1)), (0, .ref (ob E k))]) C dX8_ratioTop_10 rfl (by decide) rfl ?_
    refine zv_iconst (v := zI 0) C dX8_ratioTop_11 rfl ?_
    refine zv_istore_n (lv' := [(3, .int (zI 0)), (1, .long (zL 1)), (0, .ref (ob E k))]) C dX8_ratioTop_12 rfl (by decide) rfl ?_
    have q13_10 : (0 : Int) = (0 : Int) := by first | rfl | omega
    have q13_11 : (1 : Int) = tTop tc 0 := by first | rfl | omega
    refine zv_sub (lv' := [(0, .ref (ob E k)), (1, .long (zL (tTop tc 0))), (3, .int (zI (0 : Int)))]) [2, 1, 0] (zcons rfl (zcons (zqL q13_11) (zcons (zqI q13_10) rfl))) ?_
    refine zv_while (α := Nat) (fun v => n - v) (fun v => v ≤ n) (fun v => σ) (fun v => [(0, .ref (ob E k)), (1, .long (zL (tTop tc v))), (3, .int (zI (v : Int)))]) (fun v => []) (fun j hI ih => ?_) (0) (by omega)
    refine zv_iload_n C 2 dX8_ratioTop_13 rfl rfl ?_
    refine zv_aload_n C 0 dX8_ratioTop_14 rfl rfl ?_
    refine zG8_1 C hk kX8_15 dX8_ratioTop_15 ?_
    refine zv_eqi (y := zI (n : Int)) (hT.1) ?_
    refine zv_icmp_geZ (tgt := 71) C (by omega) (by omega) dX8_ratioTop_18 (by decide) (fun h18 => ?_) (fun h18 => ?_)
    · skip
      refine zv_lload_n C 1 dX8_ratioTop_71 rfl rfl ?_
      exact zv_lret C hr dX8_ratioTop_72 ⟨by rw [show j = n by omega, if_neg (by omega)], rfl⟩
    · skip
      refine zv_aload_n C 0 dX8_ratioTop_21 rfl rfl ?_
      refine zv_iload_n C 2 dX8_ratioTop_22 rfl rfl ?_
      refine zv_iconst (v := zI 0) C dX8_ratioTop_23 rfl ?_
      refine zv_cviD (st := []) C (c_cell hfl E σ k n tc j 0 hk hT (by omega) (by decide)) mX8_cell kX8_25 hk rfl rfl rfl ⟨rfl, rfl⟩ (show zfit (zrm 0 0) 4 (zrm 1 23) = true from rfl) (Nat.le_of_ble_eq_true rfl) dX8_ratioTop_24 ⟨Nat.zero_le _, Nat.zero_le _⟩ ?_
      refine zv_istore (lv' := [(4, .int (zI (tc j 0 : Int))), (0, .ref (ob E k)), (1, .long (zL (tTop tc j))), (3, .int (zI (j : Int)))]) C dX8_ratioTop_27  (by decide) rfl ?_
      refine zv_lload_n C 2 dX8_ratioTop_29 rfl rfl ?_
      refine zv_iload C 0 dX8_ratioTop_30 rfl ?_
      refine zv_iconst (v := zI 1) C dX8_ratioTop_32 rfl ?_
      refine zv_icmp_neZ (tgt := 40) C (by have := hT.2.2.2 j 0 (by omega) (by decide); omega) (by omega) dX8_ratioTop_33 (by decide) (fun h33 => ?_) (fun h33 => ?_)
      · skip
        refine zv_ldc2 C kX8_41 dX8_ratioTop_40 ?_
        refine zv_eql (y := zL (-1)) (by decide) ?_
        refine zv_lmulZ C dX8_ratioTop_43 ?_
        refine zv_lstore_n (lv' := [(1, .long (zL ((tTop tc j) * (-1)))), (4, .int (zI (tc j 0 : Int))), (0, .ref (ob E k)), (3, .int (zI (j : Int)))]) C dX8_ratioTop_44 rfl (by decide) rfl ?_
        refine zv_lload_n C 0 dX8_ratioTop_45 rfl rfl ?_
        refine zv_iload C 1 dX8_ratioTop_46 rfl ?_
        refine zv_iconst (v := zI 2) C dX8_ratioTop_48 rfl ?_
        refine zv_icmp_neZ (tgt := 56) C (by have := hT.2.2.2 j 0 (by omega) (by decide); omega) (by omega) dX8_ratioTop_49 (by decide) (fun h49 => ?_) (fun h49 => ?_)
        · skip
          refine zv_aload_n C 2 dX8_ratioTop_56 rfl rfl ?_
          refine zv_iload_n C 3 dX8_ratioTop_57 rfl rfl ?_
          refine zv_iconst (v := zI 1) C dX8_ratioTop_58 rfl ?_
          refine zv_cviD (st := [.long (zL ((tTop tc j) * (-1)))]) C (c_cell hfl E σ k n tc j 1 hk hT (by omega) (by decide)) mX8_cell kX8_25 hk rfl rfl rfl ⟨rfl, rfl⟩ (show zfit (zrm 0 0) 4 (zrm 1 23) = true from rfl) (Nat.le_of_ble_eq_true rfl) dX8_ratioTop_59 ⟨Nat.zero_le _, Nat.zero_le _⟩ ?_
          refine zv_i2lZ C (by have := hT.2.2.2 j 1 (by omega) (by decide); omega) dX8_ratioTop_62 ?_
          refine zv_lmulZ C dX8_ratioTop_63 ?_
          refine zv_lstore_n (lv' := [(1, .long (zL (((tTop tc j) * (-1)) * (tc j 1 : Int)))), (4, .int (zI (tc j 0 : Int))), (0, .ref (ob E k)), (3, .int (zI (j : Int)))]) C dX8_ratioTop_64 rfl (by decide) rfl ?_
          refine zv_iinc (v := (zI ((j : Int) + 1))) (lv' := [(3, .int (zI ((j : Int) + 1))), (1, .long (zL (((tTop tc j) * (-1)) * (tc j 1 : Int)))), (4, .int (zI (tc j 0 : Int))), (0, .ref (ob E k))]) C 3 dX8_ratioTop_65 rfl (zI_add _ _) (by decide) rfl ?_
          refine zv_goto (tgt := 13) C dX8_ratioTop_68 (by decide) ?_
          have q13_51 : ((j : Int) + 1 : Int) = ((j + 1 : Nat) : Int) := by first | rfl | omega
          have q13_52 : (((tTop tc j) * (-1)) * (tc j 1 : Int) : Int) = tTop tc (j + 1) := by simp only [tTop]; split <;> first | rfl | omega | (split <;> first | rfl | omega)
          refine zv_sub (lv' := [(0, .ref (ob E k)), (1, .long (zL (tTop tc (j + 1)))), (3, .int (zI ((j + 1 : Nat) : Int)))]) [3, 1, 0] (zcons rfl (zcons (zqL q13_52) (zcons (zqI q13_51) rfl))) ?_
          exact ih (j + 1) (by omega) (by omega)
        · skip
          refine zv_lconst (v := zL 1) C dX8_ratioTop_52 (by decide) ?_
          refine zv_goto (tgt := 63) C dX8_ratioTop_53 (by decide) ?_
          refine zv_lmulZ C dX8_ratioTop_63 ?_
          refine zv_lstore_n (lv' := [(1, .long (zL (((tTop tc j) * (-1)) * 1))), (4, .int (zI (tc j 0 : Int))), (0, .ref (ob E k)), (3, .int (zI (j : Int)))]) C dX8_ratioTop_64 rfl (by decide) rfl ?_
          refine zv_iinc (v := (zI ((j : Int) + 1))) (lv' := [(3, .int (zI ((j : Int) + 1))), (1, .long (zL (((tTop tc j) * (-1)) * 1))), (4, .int (zI (tc j 0 : Int))), (0, .ref (ob E k))]) C 3 dX8_ratioTop_65 rfl (zI_add _ _) (by decide) rfl ?_
          refine zv_goto (tgt := 13) C dX8_ratioTop_68 (by decide) ?_
          have q13_62 : ((j : Int) + 1 : Int) = ((j + 1 : Nat) : Int) := by first | rfl | omega
          have q13_63 : (((tTop tc j) * (-1)) * 1 : Int) = tTop tc (j + 1) := by simp only [tTop]; split <;> first | rfl | omega | (split <;> first | rfl | omega)
          refine zv_sub (lv' := [(0, .ref (ob E k)), (1, .long (zL (tTop tc (j + 1)))), (3, .int (zI ((j + 1 : Nat) : Int)))]) [3, 1, 0] (zcons rfl (zcons (zqL q13_63) (zcons (zqI q13_62) rfl))) ?_
          exact ih (j + 1) (by omega) (by omega)
      · skip
        refine zv_lconst (v := zL 1) C dX8_ratioTop_36 (by decide) ?_
        refine zv_goto (tgt := 43) C dX8_ratioTop_37 (by decide) ?_
        refine zv_lmulZ C dX8_ratioTop_43 ?_
        refine zv_lstore_n (lv' := [(1, .long (zL ((tTop tc j) * 1))), (4, .int (zI (tc j 0 : Int))), (0, .ref (ob E k)), (3, .int (zI (j : Int)))]) C dX8_ratioTop_44 rfl (by decide) rfl ?_
        refine zv_lload_n C 0 dX8_ratioTop_45 rfl rfl ?_
        refine zv_iload C 1 dX8_ratioTop_46 rfl ?_
        refine zv_iconst (v := zI 2) C dX8_ratioTop_48 rfl ?_
        refine zv_icmp_neZ (tgt := 56) C (by have := hT.2.2.2 j 0 (by omega) (by decide); omega) (by omega) dX8_ratioTop_49 (by decide) (fun h49 => ?_) (fun h49 => ?_)
        · skip
          refine zv_aload_n C 2 dX8_ratioTop_56 rfl rfl ?_
          refine zv_iload_n C 3 dX8_ratioTop_57 rfl rfl ?_
          refine zv_iconst (v := zI 1) C dX8_ratioTop_58 rfl ?_
          refine zv_cviD (st := [.long (zL ((tTop tc j) * 1))]) C (c_cell hfl E σ k n tc j 1 hk hT (by omega) (by decide)) mX8_cell kX8_25 hk rfl rfl rfl ⟨rfl, rfl⟩ (show zfit (zrm 0 0) 4 (zrm 1 23) = true from rfl) (Nat.le_of_ble_eq_true rfl) dX8_ratioTop_59 ⟨Nat.zero_le _, Nat.zero_le _⟩ ?_
          refine zv_i2lZ C (by have := hT.2.2.2 j 1 (by omega) (by decide); omega) dX8_ratioTop_62 ?_
          refine zv_lmulZ C dX8_ratioTop_63 ?_
          refine zv_lstore_n (lv' := [(1, .long (zL (((tTop tc j) * 1) * (tc j 1 : Int)))), (4, .int (zI (tc j 0 : Int))), (0, .ref (ob E k)), (3, .int (zI (j : Int)))]) C dX8_ratioTop_64 rfl (by decide) rfl ?_
          refine zv_iinc (v := (zI ((j : Int) + 1))) (lv' := [(3, .int (zI ((j : Int) + 1))), (1, .long (zL (((tTop tc j) * 1) * (tc j 1 : Int)))), (4, .int (zI (tc j 0 : Int))), (0, .ref (ob E k))]) C 3 dX8_ratioTop_65 rfl (zI_add _ _) (by decide) rfl ?_
          refine zv_goto (tgt := 13) C dX8_ratioTop_68 (by decide) ?_
          have q13_85 : ((j : Int) + 1 : Int) = ((j + 1 : Nat) : Int) := by first | rfl | omega
          have q13_86 : (((tTop tc j) * 1) * (tc j 1 : Int) : Int) = tTop tc (j + 1) := by simp only [tTop]; split <;> first | rfl | omega | (split <;> first | rfl | omega)
          refine zv_sub (lv' := [(0, .ref (ob E k)), (1, .long (zL (tTop tc (j + 1)))), (3, .int (zI ((j + 1 : Nat) : Int)))]) [3, 1, 0] (zcons rfl (zcons (zqL q13_86) (zcons (zqI q13_85) rfl))) ?_
          exact ih (j + 1) (by omega) (by omega)
        · skip
          refine zv_lconst (v := zL 1) C dX8_ratioTop_52 (by decide) ?_
          refine zv_goto (tgt := 63) C dX8_ratioTop_53 (by decide) ?_
          refine zv_lmulZ C dX8_ratioTop_63 ?_
          refine zv_lstore_n (lv' := [(1, .long (zL (((tTop tc j) * 1) * 1))), (4, .int (zI (tc j 0 : Int))), (0, .ref (ob E k)), (3, .int (zI (j : Int)))]) C dX8_ratioTop_64 rfl (by decide) rfl ?_
          refine zv_iinc (v := (zI ((j : Int) + 1))) (lv' := [(3, .int (zI ((j : Int) + 1))), (1, .long (zL (((tTop tc j) * 1) * 1))), (4, .int (zI (tc j 0 : Int))), (0, .ref (ob E k))]) C 3 dX8_ratioTop_65 rfl (zI_add _ _) (by decide) rfl ?_
          refine zv_goto (tgt := 13) C dX8_ratioTop_68 (by decide) ?_
          have q13_96 : ((j : Int) + 1 : Int) = ((j + 1 : Nat) : Int) := by first | rfl | omega
          have q13_97 : (((tTop tc j) * 1) * 1 : Int) = tTop tc (j + 1) := by simp only [tTop]; split <;> first | rfl | omega | (split <;> first | rfl | omega)
          refine zv_sub (lv' := [(0, .ref (ob E k)), (1, .long (zL (tTop tc (j + 1)))), (3, .int (zI ((j + 1 : Nat) : Int)))]) [3, 1, 0] (zcons rfl (zcons (zqL q13_97) (zcons (zqI q13_96) rfl))) ?_
          exact ih (j + 1) (by omega) (by omega)
  · skip
    refine zv_lconst (v := zL 0) C dX8_ratioTop_7 (by decide) ?_
    exact zv_lret C hr dX8_ratioTop_8 ⟨by rw [if_pos (by omega)], rfl⟩
set_option maxRecDepth 20000 in
theorem c_X8_ratioBottom {l : Launch} (hfl : l.stackTraces = false) (E : zE) (σ : zS) (k n : Nat) (tc : Nat → Nat → Nat) (hk : kd k = 8) (hT : zTr σ k n tc) : zRl l E yX8_ratioBottom cX8_ratioBottom 4 (zrm 2 44) [.ref (ob E k)] σ (fun r τ => r = zL (tBot tc n) ∧ τ = σ) := by
  refine Met.ofW (cc := cX8_ratioBottom) (maxL := 4) (ret := (some .long)) (by decide +kernel) rfl ?_
  intro p e s m args below meth c s₁ B hml hv
  obtain ⟨rfl, hd⟩ := hv
  have C := zX_of (own := RX8) hfl B hml rfl hd rfl
  have hr := B.returns
  refine zV_go hd (Nat.le_of_ble_eq_true rfl) (lv := [(0, .ref (ob E k))]) rfl ?_
  have hn := hT.2.1
  refine zv_lconst (v := zL 1) C dX8_ratioBottom_0 (by decide) ?_
  refine zv_lstore_n (lv' := [(1, .long (zL 1)), (0, .ref (ob E k))]) C dX8_ratioBottom_1 rfl (by decide) rfl ?_
  refine zv_iconst (v := zI 0) C dX8_ratioBottom_2 rfl ?_
  refine zv_istore_n (lv' := [(3, .int (zI 0)), (1, .long (zL 1)), (0, .ref (ob E k))]) C dX8_ratioBottom_3 rfl (by decide) rfl ?_
  have q4_5 : (0 : Int) = (0 : Int) := by first | rfl | omega
  have q4_6 : (1 : Int) = tBot tc 0 := by first | rfl | omega
  refine zv_sub (lv' := [(0, .ref (ob E k)), (1, .long (zL (tBot tc 0))), (3, .int (zI (0 : Int)))]) [2, 1, 0] (zcons rfl (zcons (zqL q4_6) (zcons (zqI q4_5) rfl))) ?_
  refine zv_while (α := Nat) (fun v => n - v) (fun v => v ≤ n) (fun v => σ) (fun v => [(0, .ref (ob E k)), (1, .long (zL (tBot tc v))), (3, .int (zI (v : Int)))]) (fun v => []) (fun j hI ih => ?_) (0) (by omega)
  refine zv_iload_n C 2 dX8_ratioBottom_4 rfl rfl ?_
  refine zv_aload_n C 0 dX8_ratioBottom_5 rfl rfl ?_
  refine zG8_1 C hk kX8_15 dX8_ratioBottom_6 ?_
  refine zv_eqi (y := zI (n : Int)) (hT.1) ?_
  refine zv_icmp_geZ (tgt := 40) C (by omega) (by omega) dX8_ratioBottom_9 (by decide) (fun h9 => ?_) (fun h9 => ?_)
  · skip
    refine zv_lload_n C 1 dX8_ratioBottom_40 rfl rfl ?_
    exact zv_lret C hr dX8_ratioBottom_41 ⟨by rw [show j = n by omega], rfl⟩
  · skip
    refine zv_lload_n C 1 dX8_ratioBottom_12 rfl rfl ?_
    refine zv_aload_n C 0 dX8_ratioBottom_13 rfl rfl ?_
    refine zv_iload_n C 2 dX8_ratioBottom_14 rfl rfl ?_
    refine zv_cviD (st := [.long (zL (tBot tc j))]) C (c_X8_isGeared hfl E σ k n tc j hk hT (by omega)) mX8_isGeared kX8_37 hk rfl rfl rfl ⟨rfl, rfl⟩ (show zfit (zrm 1 23) 2 (zrm 2 44) = true from rfl) (Nat.le_of_ble_eq_true rfl) dX8_ratioBottom_15 ⟨Nat.zero_le _, Nat.zero_le _⟩ ?_
    refine zv_if_eqB (tgt := 31) C dX8_ratioBottom_18 (by decide) (fun h18 => ?_) (fun h18 => ?_)
    · skip
      refine zv_lconst (v := zL 1) C dX8_ratioBottom_31 (by decide) ?_
      refine zv_lmulZ C dX8_ratioBottom_32 ?_
      refine zv_lstore_n (lv' := [(1, .long (zL ((tBot tc j) * 1))), (0, .ref (ob E k)), (3, .int (zI (j : Int)))]) C dX8_ratioBottom_33 rfl (by decide) rfl ?_
      refine zv_iinc (v := (zI ((j : Int) + 1))) (lv' := [(3, .int (zI ((j : Int) + 1))), (1, .long (zL ((tBot tc j) * 1))), (0, .ref (ob E k))]) C 2 dX8_ratioBottom_34 rfl (zI_add _ _) (by decide) rfl ?_
      refine zv_goto (tgt := 4) C dX8_ratioBottom_37 (by decide) ?_
      have q4_29 : ((j : Int) + 1 : Int) = ((j + 1 : Nat) : Int) := by first | rfl | omega
      have q4_30 : ((tBot tc j) * 1 : Int) = tBot tc (j + 1) := by simp only [tBot]; split <;> first | rfl | omega | (split <;> first | rfl | omega)
      refine zv_sub (lv' := [(0, .ref (ob E k)), (1, .long (zL (tBot tc (j + 1)))), (3, .int (zI ((j + 1 : Nat) : Int)))]) [2, 1, 0] (zcons rfl (zcons (zqL q4_30) (zcons (zqI q4_29) rfl))) ?_
      exact ih (j + 1) (by omega) (by omega)
    · skip
      refine zv_aload_n C 0 dX8_ratioBottom_21 rfl rfl ?_
      refine zv_iload_n C 2 dX8_ratioBottom_22 rfl rfl ?_
      refine zv_iconst (v := zI 2) C dX8_ratioBottom_23 rfl ?_
      refine zv_cviD (st := [.long (zL (tBot tc j))]) C (c_cell hfl E σ k n tc j 2 hk hT (by omega) (by decide)) mX8_cell kX8_25 hk rfl rfl rfl ⟨rfl, rfl⟩ (show zfit (zrm 0 0) 4 (zrm 2 44) = true from rfl) (Nat.le_of_ble_eq_true rfl) dX8_ratioBottom_24 ⟨Nat.zero_le _, Nat.zero_le _⟩ ?_
      refine zv_i2lZ C (by have := hT.2.2.2 j 2 (by omega) (by decide); omega) dX8_ratioBottom_27 ?_
      refine zv_goto (tgt := 32) C dX8_ratioBottom_28 (by decide) ?_
      refine zv_lmulZ C dX8_ratioBottom_32 ?_
      refine zv_lstore_n (lv' := [(1, .long (zL ((tBot tc j) * (tc j 2 : Int)))), (0, .ref (ob E k)), (3, .int (zI (j : Int)))]) C dX8_ratioBottom_33 rfl (by decide) rfl ?_
      refine zv_iinc (v := (zI ((j : Int) + 1))) (lv' := [(3, .int (zI ((j : Int) + 1))), (1, .long (zL ((tBot tc j) * (tc j 2 : Int)))), (0, .ref (ob E k))]) C 2 dX8_ratioBottom_34 rfl (zI_add _ _) (by decide) rfl ?_
      refine zv_goto (tgt := 4) C dX8_ratioBottom_37 (by decide) ?_
      have q4_44 : ((j : Int) + 1 : Int) = ((j + 1 : Nat) : Int) := by first | rfl | omega
      have q4_45 : ((tBot tc j) * (tc j 2 : Int) : Int) = tBot tc (j + 1) := by simp only [tBot]; split <;> first | rfl | omega | (split <;> first | rfl | omega)
      refine zv_sub (lv' := [(0, .ref (ob E k)), (1, .long (zL (tBot tc (j + 1)))), (3, .int (zI ((j + 1 : Nat) : Int)))]) [2, 1, 0] (zcons rfl (zcons (zqL q4_45) (zcons (zqI q4_44) rfl))) ?_
      exact ih (j + 1) (by omega) (by omega)
