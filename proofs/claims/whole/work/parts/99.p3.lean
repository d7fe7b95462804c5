/-! the constructors -/
theorem zoi : Cond.instanceMethod Lib.objectInit ∈ zT := (zT_mem 132 (by decide +kernel) (by decide))
theorem zoc : Cond.code Lib.objectInit ⟨#[0xb1]⟩ 1 none ∈ zT := (zT_mem 133 (by decide +kernel) (by decide))
theorem dfX0 : ∀ j, j < 7 → defaultValue (tyX0 j) = vp_V [.null, .long 0, .long 0, .int 0, .long 0, .long 0, .int 0] j := fun j hj => by
  iterate 7 (rcases j with _ | j; · rfl)
  omega
theorem dfX1 : ∀ j, j < 5 → defaultValue (tyX1 j) = vp_V [.null, .int 0, .int 0, .null, .int 0] j := fun j hj => by
  iterate 5 (rcases j with _ | j; · rfl)
  omega
theorem dfX2 : ∀ j, j < 2 → defaultValue (tyX2 j) = vp_V [.null, .int 0] j := fun j hj => by
  iterate 2 (rcases j with _ | j; · rfl)
  omega
theorem dfX3 : ∀ j, j < 2 → defaultValue (tyX3 j) = vp_V [.long 0, .long 0] j := fun j hj => by
  iterate 2 (rcases j with _ | j; · rfl)
  omega
theorem dfX4 : ∀ j, j < 6 → defaultValue (tyX4 j) = vp_V [.int 0, .int 0, .null, .null, .null, .null] j := fun j hj => by
  iterate 6 (rcases j with _ | j; · rfl)
  omega
theorem dfX5 : ∀ j, j < 8 → defaultValue (tyX5 j) = vp_V [.null, .null, .null, .int 0, .int 0, .int 0, .int 0, .int 0] j := fun j hj => by
  iterate 8 (rcases j with _ | j; · rfl)
  omega
theorem dfX6 : ∀ j, j < 6 → defaultValue (tyX6 j) = vp_V [.null, .int 0, .int 0, .int 0, .null, .null] j := fun j hj => by
  iterate 6 (rcases j with _ | j; · rfl)
  omega
theorem dfX7 : ∀ j, j < 7 → defaultValue (tyX7 j) = vp_V [.null, .int 0, .int 0, .int 0, .int 0, .int 0, .long 0] j := fun j hj => by
  iterate 7 (rcases j with _ | j; · rfl)
  omega
theorem dfX8 : ∀ j, j < 2 → defaultValue (tyX8 j) = vp_V [.null, .int 0] j := fun j hj => by
  iterate 2 (rcases j with _ | j; · rfl)
  omega
theorem dfX10 : ∀ j, j < 12 → defaultValue (tyX10 j) = vp_V [.null, .null, .null, .null, .null, .null, .null, .null, .null, .null, .null, .null] j := fun j hj => by
  iterate 12 (rcases j with _ | j; · rfl)
  omega
theorem dfX11 : ∀ j, j < 30 → defaultValue (tyX11 j) = vp_V [.null, .null, .null, .null, .null, .null, .null, .null, .int 0, .int 0, .int 0, .null, .int 0, .int 0, .int 0, .int 0, .int 0, .int 0, .int 0, .int 0, .int 0, .int 0, .long 0, .long 0, .int 0, .null, .long 0, .long 0, .null, .int 0] j := fun j hj => by
  iterate 30 (rcases j with _ | j; · rfl)
  omega
theorem mcX0 : Cond.code yX0_init cX0_init 1 none ∈ zT := (zT_mem 343 (by decide +kernel) (by decide))
theorem miX0 : Cond.initialized yX0_init.cls ∈ zT := (zT_mem 107 (by decide +kernel) (by decide))
theorem mmX0 : Cond.instanceMethod yX0_init ∈ zT := (zT_mem 342 (by decide +kernel) (by decide))
theorem mtX0 : Cond.instantiable RX0 7 ∈ zT := (zT_mem 340 (by decide +kernel) (by decide))
theorem mcX1 : Cond.code yX1_init cX1_init 2 none ∈ zT := (zT_mem 301 (by decide +kernel) (by decide))
theorem miX1 : Cond.initialized yX1_init.cls ∈ zT := (zT_mem 105 (by decide +kernel) (by decide))
theorem mmX1 : Cond.instanceMethod yX1_init ∈ zT := (zT_mem 300 (by decide +kernel) (by decide))
theorem mtX1 : Cond.instantiable RX1 5 ∈ zT := (zT_mem 298 (by decide +kernel) (by decide))
theorem mcX2 : Cond.code yX2_init cX2_init 1 none ∈ zT := (zT_mem 328 (by decide +kernel) (by decide))
theorem miX2 : Cond.initialized yX2_init.cls ∈ zT := (zT_mem 106 (by decide +kernel) (by decide))
theorem mmX2 : Cond.instanceMethod yX2_init ∈ zT := (zT_mem 327 (by decide +kernel) (by decide))
theorem mtX2 : Cond.instantiable RX2 2 ∈ zT := (zT_mem 325 (by decide +kernel) (by decide))
theorem mcX3 : Cond.code yX3_init cX3_init 1 none ∈ zT := (zT_mem 372 (by decide +kernel) (by decide))
theorem miX3 : Cond.initialized yX3_init.cls ∈ zT := (zT_mem 108 (by decide +kernel) (by decide))
theorem mmX3 : Cond.instanceMethod yX3_init ∈ zT := (zT_mem 371 (by decide +kernel) (by decide))
theorem mtX3 : Cond.instantiable RX3 2 ∈ zT := (zT_mem 369 (by decide +kernel) (by decide))
theorem mcX4 : Cond.code yX4_init cX4_init 1 none ∈ zT := (zT_mem 178 (by decide +kernel) (by decide))
theorem miX4 : Cond.initialized yX4_init.cls ∈ zT := (zT_mem 102 (by decide +kernel) (by decide))
theorem mmX4 : Cond.instanceMethod yX4_init ∈ zT := (zT_mem 177 (by decide +kernel) (by decide))
theorem mtX4 : Cond.instantiable RX4 6 ∈ zT := (zT_mem 175 (by decide +kernel) (by decide))
theorem mcX5 : Cond.code yX5_init cX5_init 1 none ∈ zT := (zT_mem 138 (by decide +kernel) (by decide))
theorem miX5 : Cond.initialized yX5_init.cls ∈ zT := (zT_mem 100 (by decide +kernel) (by decide))
theorem mmX5 : Cond.instanceMethod yX5_init ∈ zT := (zT_mem 137 (by decide +kernel) (by decide))
theorem mtX5 : Cond.instantiable RX5 8 ∈ zT := (zT_mem 135 (by decide +kernel) (by decide))
theorem mcX6 : Cond.code yX6_init cX6_init 2 none ∈ zT := (zT_mem 215 (by decide +kernel) (by decide))
theorem miX6 : Cond.initialized yX6_init.cls ∈ zT := (zT_mem 103 (by decide +kernel) (by decide))
theorem mmX6 : Cond.instanceMethod yX6_init ∈ zT := (zT_mem 214 (by decide +kernel) (by decide))
theorem mtX6 : Cond.instantiable RX6 6 ∈ zT := (zT_mem 212 (by decide +kernel) (by decide))
theorem mcX7 : Cond.code yX7_init cX7_init 1 none ∈ zT := (zT_mem 144 (by decide +kernel) (by decide))
theorem miX7 : Cond.initialized yX7_init.cls ∈ zT := (zT_mem 101 (by decide +kernel) (by decide))
theorem mmX7 : Cond.instanceMethod yX7_init ∈ zT := (zT_mem 143 (by decide +kernel) (by decide))
theorem mtX7 : Cond.instantiable RX7 7 ∈ zT := (zT_mem 141 (by decide +kernel) (by decide))
theorem mcX8 : Cond.code yX8_init cX8_init 1 none ∈ zT := (zT_mem 222 (by decide +kernel) (by decide))
theorem miX8 : Cond.initialized yX8_init.cls ∈ zT := (zT_mem 104 (by decide +kernel) (by decide))
theorem mmX8 : Cond.instanceMethod yX8_init ∈ zT := (zT_mem 221 (by decide +kernel) (by decide))
theorem mtX8 : Cond.instantiable RX8 2 ∈ zT := (zT_mem 219 (by decide +kernel) (by decide))
theorem mcX10 : Cond.code yX10_init cX10_init 1 none ∈ zT := (zT_mem 130 (by decide +kernel) (by decide))
theorem miX10 : Cond.initialized yX10_init.cls ∈ zT := (zT_mem 99 (by decide +kernel) (by decide))
theorem mmX10 : Cond.instanceMethod yX10_init ∈ zT := (zT_mem 129 (by decide +kernel) (by decide))
theorem mtX10 : Cond.instantiable RX10 12 ∈ zT := (zT_mem 127 (by decide +kernel) (by decide))
set_option maxRecDepth 20000 in
theorem c_X3_init {l : Launch} (E : zE) (k0 : Nat) (hk : kd k0 = 3) : zRc l E zG0 k0 yX3_init cX3_init 1 (zrc 2 0 0 40) (.inr (3, [.long 0, .long 0])) 1 0 0 := by
  refine zp_go (own := RX3) (by decide +kernel) rfl rfl (by decide) (fun p e s m args below meth c C hr hnm => ?_)
  refine zq_start (a := 0) (xa := .inr (99, [])) ?_
  refine zp_aload_n C 0 dX3_init_0 rfl rfl ?_
  refine zp_obj C (zT_mem 373 (by decide +kernel) (by decide)) zoi zoc dX3_init_1 ⟨(Nat.le_of_ble_eq_true rfl), (Nat.le_of_ble_eq_true rfl)⟩ ?_
  refine zp_aload_n C 0 dX3_init_4 rfl rfl ?_
  refine zp_lconst (v := 0) C dX3_init_5 (by decide) ?_
  refine zq_put (ci := 3) (j := 0) (ty := tyX3 0) (fs := [.long 0, .long 0]) C (by decide) rfl rfl iX3 tyX3_ok nmX3 (by decide) rfl rfl (tyX3_ok _ (by decide)) (by first | rfl | decide) rfl (Nat.le_of_ble_eq_true rfl) kX3_9 dX3_init_6 (c1 := .inr (3, [.long 0, .long 0])) rfl ?_
  refine zp_aload_n C 0 dX3_init_9 rfl rfl ?_
  refine zp_lconst (v := 1) C dX3_init_10 (by decide) ?_
  refine zq_put (ci := 3) (j := 1) (ty := tyX3 1) (fs := [.long 0, .long 0]) C (by decide) rfl rfl iX3 tyX3_ok nmX3 (by decide) rfl rfl (tyX3_ok _ (by decide)) (by first | rfl | decide) rfl (Nat.le_of_ble_eq_true rfl) kX3_15 dX3_init_11 (c1 := .inr (3, [.long 0, .long 1])) rfl ?_
  exact zq_ret C hr dX3_init_14 (zc0_3 (k := k0 + 0) hk).symm (Or.inl rfl)
set_option maxRecDepth 20000 in
theorem c_X8_init {l : Launch} (E : zE) (k0 : Nat) (hk : kd k0 = 8) : zRc l E zG0 k0 yX8_init cX8_init 1 (zrc 2 1 12 40) (.inr (8, [.null, .int 0])) 2 1 12 := by
  refine zp_go (own := RX8) (by decide +kernel) rfl rfl (by decide) (fun p e s m args below meth c C hr hnm => ?_)
  refine zq_start (a := 0) (xa := .inr (99, [])) ?_
  refine zp_aload_n C 0 dX8_init_0 rfl rfl ?_
  refine zp_obj C (zT_mem 223 (by decide +kernel) (by decide)) zoi zoc dX8_init_1 ⟨(Nat.le_of_ble_eq_true rfl), (Nat.le_of_ble_eq_true rfl)⟩ ?_
  refine zp_aload_n C 0 dX8_init_4 rfl rfl ?_
  refine zp_bipush (v := 12) C dX8_init_5 (by decide) ?_
  refine zq_newa (atype := .int) (ti := 1) (N' := 12) (x := (12, .inl (fun _ => 0))) C rfl (zT_mem 209 (by decide +kernel) (by decide)) (fun _ => rfl) (by decide) (by decide) (by decide) (Nat.le_of_ble_eq_true rfl) (Nat.le_of_ble_eq_true rfl) dX8_init_7 ⟨by decide, by decide⟩ (zc0_12 (k8_of hk).1 (k8_of hk).2) ?_
  refine zq_putF (ci := 8) (j := 0) (ty := tyX8 0) (fs := [.null, .int 0]) C (by decide) rfl rfl iX8 tyX8_ok nmX8 (by decide) rfl rfl hnm (tyX8_ok _ (by decide)) (by first | rfl | decide) rfl (Nat.le_of_ble_eq_true rfl) kX8_11 dX8_init_9 (c1 := .inr (8, [.ref (ob E (k0 + 1)), .int 0])) rfl ?_
  refine zp_aload_n C 0 dX8_init_12 rfl rfl ?_
  refine zp_iconst (v := 0) C dX8_init_13 (by decide) ?_
  refine zq_put (ci := 8) (j := 1) (ty := tyX8 1) (fs := [.ref (ob E (k0 + 1)), .int 0]) C (by decide) rfl rfl iX8 tyX8_ok nmX8 (by decide) rfl rfl (tyX8_ok _ (by decide)) (by first | rfl | decide) rfl (Nat.le_of_ble_eq_true rfl) kX8_15 dX8_init_14 (c1 := .inr (8, [.ref (ob E (k0 + 1)), .int 0])) rfl ?_
  exact zq_ret C hr dX8_init_17 (zc0_8 (k := k0 + 0) hk).symm (Or.inl rfl)
set_option maxRecDepth 20000 in
theorem c_X0_init {l : Launch} (E : zE) (k0 : Nat) (hk : kd k0 = 0) : zRc l E zG0 k0 yX0_init cX0_init 1 (zrc 2 1 4 40) (.inr (0, [.null, .long 0, .long 0, .int 0, .long 0, .long 0, .int 0])) 2 1 4 := by
  refine zp_go (own := RX0) (by decide +kernel) rfl rfl (by decide) (fun p e s m args below meth c C hr hnm => ?_)
  refine zq_start (a := 0) (xa := .inr (99, [])) ?_
  refine zp_aload_n C 0 dX0_init_0 rfl rfl ?_
  refine zp_obj C (zT_mem 344 (by decide +kernel) (by decide)) zoi zoc dX0_init_1 ⟨(Nat.le_of_ble_eq_true rfl), (Nat.le_of_ble_eq_true rfl)⟩ ?_
  refine zp_aload_n C 0 dX0_init_4 rfl rfl ?_
  refine zp_iconst (v := 4) C dX0_init_5 (by decide) ?_
  refine zq_newa (atype := .int) (ti := 1) (N' := 4) (x := (4, .inl (fun _ => 0))) C rfl (zT_mem 209 (by decide +kernel) (by decide)) (fun _ => rfl) (by decide) (by decide) (by decide) (Nat.le_of_ble_eq_true rfl) (Nat.le_of_ble_eq_true rfl) dX0_init_6 ⟨by decide, by decide⟩ (zc0_12 (k0_of hk).1 (k0_of hk).2) ?_
  refine zq_putF (ci := 0) (j := 0) (ty := tyX0 0) (fs := [.null, .long 0, .long 0, .int 0, .long 0, .long 0, .int 0]) C (by decide) rfl rfl iX0 tyX0_ok nmX0 (by decide) rfl rfl hnm (tyX0_ok _ (by decide)) (by first | rfl | decide) rfl (Nat.le_of_ble_eq_true rfl) kX0_7 dX0_init_8 (c1 := .inr (0, [.ref (ob E (k0 + 1)), .long 0, .long 0, .int 0, .long 0, .long 0, .int 0])) rfl ?_
  refine zp_aload_n C 0 dX0_init_11 rfl rfl ?_
  refine zp_lconst (v := 0) C dX0_init_12 (by decide) ?_
  refine zq_put (ci := 0) (j := 1) (ty := tyX0 1) (fs := [.ref (ob E (k0 + 1)), .long 0, .long 0, .int 0, .long 0, .long 0, .int 0]) C (by decide) rfl rfl iX0 tyX0_ok nmX0 (by decide) rfl rfl (tyX0_ok _ (by decide)) (by first | rfl | decide) rfl (Nat.le_of_ble_eq_true rfl) kX0_13 dX0_init_13 (c1 := .inr (0, [.ref (ob E (k0 + 1)), .long 0, .long 0, .int 0, .long 0, .long 0, .int 0])) rfl ?_
  refine zp_aload_n C 0 dX0_init_16 rfl rfl ?_
  refine zp_lconst (v := 1) C dX0_init_17 (by decide) ?_
  refine zq_put (ci := 0) (j := 2) (ty := tyX0 2) (fs := [.ref (ob E (k0 + 1)), .long 0, .long 0, .int 0, .long 0, .long 0, .int 0]) C (by decide) rfl rfl iX0 tyX0_ok nmX0 (by decide) rfl rfl (tyX0_ok _ (by decide)) (by first | rfl | decide) rfl (Nat.le_of_ble_eq_true rfl) kX0_17 dX0_init_18 (c1 := .inr (0, [.ref (ob E (k0 + 1)), .long 0, .long 1, .int 0, .long 0, .long 0, .int 0])) rfl ?_
  refine zp_aload_n C 0 dX0_init_21 rfl rfl ?_
  refine zp_iconst (v := 0) C dX0_init_22 (by decide) ?_
  refine zq_put (ci := 0) (j := 3) (ty := tyX0 3) (fs := [.ref (ob E (k0 + 1)), .long 0, .long 1, .int 0, .long 0, .long 0, .int 0]) C (by decide) rfl rfl iX0 tyX0_ok nmX0 (by decide) rfl rfl (tyX0_ok _ (by decide)) (by first | rfl | decide) rfl (Nat.le_of_ble_eq_true rfl) kX0_20 dX0_init_23 (c1 := .inr (0, [.ref (ob E (k0 + 1)), .long 0, .long 1, .int 0, .long 0, .long 0, .int 0])) rfl ?_
  refine zp_aload_n C 0 dX0_init_26 rfl rfl ?_
  refine zp_lconst (v := 0) C dX0_init_27 (by decide) ?_
  refine zq_put (ci := 0) (j := 4) (ty := tyX0 4) (fs := [.ref (ob E (k0 + 1)), .long 0, .long 1, .int 0, .long 0, .long 0, .int 0]) C (by decide) rfl rfl iX0 tyX0_ok nmX0 (by decide) rfl rfl (tyX0_ok _ (by decide)) (by first | rfl | decide) rfl (Nat.le_of_ble_eq_true rfl) kX0_24 dX0_init_28 (c1 := .inr (0, [.ref (ob E (k0 + 1)), .long 0, .long 1, .int 0, .long 0, .long 0, .int 0])) rfl ?_
  refine zp_aload_n C 0 dX0_init_31 rfl rfl ?_
  refine zp_lconst (v := 1) C dX0_init_32 (by decide) ?_
  refine zq_put (ci := 0) (j := 5) (ty := tyX0 5) (fs := [.ref (ob E (k0 + 1)), .long 0, .long 1, .int 0, .long 0, .long 0, .int 0]) C (by decide) rfl rfl iX0 tyX0_ok nmX0 (by decide) rfl rfl (tyX0_ok _ (by decide)) (by first | rfl | decide) rfl (Nat.le_of_ble_eq_true rfl) kX0_27 dX0_init_33 (c1 := .inr (0, [.ref (ob E (k0 + 1)), .long 0, .long 1, .int 0, .long 0, .long 1, .int 0])) rfl ?_
  refine zp_aload_n C 0 dX0_init_36 rfl rfl ?_
  refine zp_iconst (v := 0) C dX0_init_37 (by decide) ?_
  refine zq_put (ci := 0) (j := 6) (ty := tyX0 6) (fs := [.ref (ob E (k0 + 1)), .long 0, .long 1, .int 0, .long 0, .long 1, .int 0]) C (by decide) rfl rfl iX0 tyX0_ok nmX0 (by decide) rfl rfl (tyX0_ok _ (by decide)) (by first | rfl | decide) rfl (Nat.le_of_ble_eq_true rfl) kX0_30 dX0_init_38 (c1 := .inr (0, [.ref (ob E (k0 + 1)), .long 0, .long 1, .int 0, .long 0, .long 1, .int 0])) rfl ?_
  exact zq_ret C hr dX0_init_41 (zc0_0 (k := k0 + 0) hk).symm (Or.inl rfl)
set_option maxRecDepth 20000 in
theorem c_X2_init {l : Launch} (E : zE) (k0 : Nat) (hk : kd k0 = 2) : zRc l E zG0 k0 yX2_init cX2_init 1 (zrc 2 1 1024 40) (.inr (2, [.null, .int 0])) 2 1 1024 := by
  refine zp_go (own := RX2) (by decide +kernel) rfl rfl (by decide) (fun p e s m args below meth c C hr hnm => ?_)
  refine zq_start (a := 0) (xa := .inr (99, [])) ?_
  refine zp_aload_n C 0 dX2_init_0 rfl rfl ?_
  refine zp_obj C (zT_mem 329 (by decide +kernel) (by decide)) zoi zoc dX2_init_1 ⟨(Nat.le_of_ble_eq_true rfl), (Nat.le_of_ble_eq_true rfl)⟩ ?_
  refine zp_aload_n C 0 dX2_init_4 rfl rfl ?_
  refine zp_sipush (v := 1024) C dX2_init_5 (by decide) ?_
  refine zq_newa (atype := .byte) (ti := 0) (N' := 1024) (x := (1024, .inl (fun _ => 0))) C rfl (zT_mem 173 (by decide +kernel) (by decide)) (fun _ => rfl) (by decide) (by decide) (by decide) (Nat.le_of_ble_eq_true rfl) (Nat.le_of_ble_eq_true rfl) dX2_init_8 ⟨by decide, by decide⟩ (zc0_11 (k2_of hk).1 (k2_of hk).2) ?_
  refine zq_putF (ci := 2) (j := 0) (ty := tyX2 0) (fs := [.null, .int 0]) C (by decide) rfl rfl iX2 tyX2_ok nmX2 (by decide) rfl rfl hnm (tyX2_ok _ (by decide)) (by first | rfl | decide) rfl (Nat.le_of_ble_eq_true rfl) kX2_9 dX2_init_10 (c1 := .inr (2, [.ref (ob E (k0 + 1)), .int 0])) rfl ?_
  refine zp_aload_n C 0 dX2_init_13 rfl rfl ?_
  refine zp_iconst (v := 0) C dX2_init_14 (by decide) ?_
  refine zq_put (ci := 2) (j := 1) (ty := tyX2 1) (fs := [.ref (ob E (k0 + 1)), .int 0]) C (by decide) rfl rfl iX2 tyX2_ok nmX2 (by decide) rfl rfl (tyX2_ok _ (by decide)) (by first | rfl | decide) rfl (Nat.le_of_ble_eq_true rfl) kX2_15 dX2_init_15 (c1 := .inr (2, [.ref (ob E (k0 + 1)), .int 0])) rfl ?_
  exact zq_ret C hr dX2_init_18 (zc0_2 (k := k0 + 0) hk).symm (Or.inl rfl)
set_option maxRecDepth 20000 in
theorem c_X7_init {l : Launch} (E : zE) (k0 : Nat) (hk : kd k0 = 7) : zRc l E zG0 k0 yX7_init cX7_init 1 (zrc 2 1 900 40) (.inr (7, [.null, .int 0, .int 0, .int 0, .int 0, .int 0, .long 0])) 2 1 900 := by
  refine zp_go (own := RX7) (by decide +kernel) rfl rfl (by decide) (fun p e s m args below meth c C hr hnm => ?_)
  refine zq_start (a := 0) (xa := .inr (99, [])) ?_
  refine zp_aload_n C 0 dX7_init_0 rfl rfl ?_
  refine zp_obj C (zT_mem 145 (by decide +kernel) (by decide)) zoi zoc dX7_init_1 ⟨(Nat.le_of_ble_eq_true rfl), (Nat.le_of_ble_eq_true rfl)⟩ ?_
  refine zp_aload_n C 0 dX7_init_4 rfl rfl ?_
  refine zp_sipush (v := 900) C dX7_init_5 (by decide) ?_
  refine zq_newa (atype := .byte) (ti := 0) (N' := 900) (x := (900, .inl (fun _ => 0))) C rfl (zT_mem 173 (by decide +kernel) (by decide)) (fun _ => rfl) (by decide) (by decide) (by decide) (Nat.le_of_ble_eq_true rfl) (Nat.le_of_ble_eq_true rfl) dX7_init_8 ⟨by decide, by decide⟩ (zc0_11 (k7_of hk).1 (k7_of hk).2) ?_
  refine zq_putF (ci := 7) (j := 0) (ty := tyX7 0) (fs := [.null, .int 0, .int 0, .int 0, .int 0, .int 0, .long 0]) C (by decide) rfl rfl iX7 tyX7_ok nmX7 (by decide) rfl rfl hnm (tyX7_ok _ (by decide)) (by first | rfl | decide) rfl (Nat.le_of_ble_eq_true rfl) kX7_9 dX7_init_10 (c1 := .inr (7, [.ref (ob E (k0 + 1)), .int 0, .int 0, .int 0, .int 0, .int 0, .long 0])) rfl ?_
  refine zp_aload_n C 0 dX7_init_13 rfl rfl ?_
  refine zp_iconst (v := 0) C dX7_init_14 (by decide) ?_
  refine zq_put (ci := 7) (j := 1) (ty := tyX7 1) (fs := [.ref (ob E (k0 + 1)), .int 0, .int 0, .int 0, .int 0, .int 0, .long 0]) C (by decide) rfl rfl iX7 tyX7_ok nmX7 (by decide) rfl rfl (tyX7_ok _ (by decide)) (by first | rfl | decide) rfl (Nat.le_of_ble_eq_true rfl) kX7_15 dX7_init_15 (c1 := .inr (7, [.ref (ob E (k0 + 1)), .int 0, .int 0, .int 0, .int 0, .int 0, .long 0])) rfl ?_
  refine zp_aload_n C 0 dX7_init_18 rfl rfl ?_
  refine zp_iconst (v := 0) C dX7_init_19 (by decide) ?_
  refine zq_put (ci := 7) (j := 2) (ty := tyX7 2) (fs := [.ref (ob E (k0 + 1)), .int 0, .int 0, .int 0, .int 0, .int 0, .long 0]) C (by decide) rfl rfl iX7 tyX7_ok nmX7 (by decide) rfl rfl (tyX7_ok _ (by decide)) (by first | rfl | decide) rfl (Nat.le_of_ble_eq_true rfl) kX7_19 dX7_init_20 (c1 := .inr (7, [.ref (ob E (k0 + 1)), .int 0, .int 0, .int 0, .int 0, .int 0, .long 0])) rfl ?_
  refine zp_aload_n C 0 dX7_init_23 rfl rfl ?_
  refine zp_iconst (v := 0) C dX7_init_24 (by decide) ?_
  refine zq_put (ci := 7) (j := 3) (ty := tyX7 3) (fs := [.ref (ob E (k0 + 1)), .int 0, .int 0, .int 0, .int 0, .int 0, .long 0]) C (by decide) rfl rfl iX7 tyX7_ok nmX7 (by decide) rfl rfl (tyX7_ok _ (by decide)) (by first | rfl | decide) rfl (Nat.le_of_ble_eq_true rfl) kX7_22 dX7_init_25 (c1 := .inr (7, [.ref (ob E (k0 + 1)), .int 0, .int 0, .int 0, .int 0, .int 0, .long 0])) rfl ?_
  refine zp_aload_n C 0 dX7_init_28 rfl rfl ?_
  refine zp_iconst (v := 0) C dX7_init_29 (by decide) ?_
  refine zq_put (ci := 7) (j := 4) (ty := tyX7 4) (fs := [.ref (ob E (k0 + 1)), .int 0, .int 0, .int 0, .int 0, .int 0, .long 0]) C (by decide) rfl rfl iX7 tyX7_ok nmX7 (by decide) rfl rfl (tyX7_ok _ (by decide)) (by first | rfl | decide) rfl (Nat.le_of_ble_eq_true rfl) kX7_25 dX7_init_30 (c1 := .inr (7, [.ref (ob E (k0 + 1)), .int 0, .int 0, .int 0, .int 0, .int 0, .long 0])) rfl ?_
  refine zp_aload_n C 0 dX7_init_33 rfl rfl ?_
  refine zp_iconst (v := 0) C dX7_init_34 (by decide) ?_
  refine zq_put (ci := 7) (j := 5) (ty := tyX7 5) (fs := [.ref (ob E (k0 + 1)), .int 0, .int 0, .int 0, .int 0, .int 0, .long 0]) C (by decide) rfl rfl iX7 tyX7_ok nmX7 (by decide) rfl rfl (tyX7_ok _ (by decide)) (by first | rfl | decide) rfl (Nat.le_of_ble_eq_true rfl) kX7_28 dX7_init_35 (c1 := .inr (7, [.ref (ob E (k0 + 1)), .int 0, .int 0, .int 0, .int 0, .int 0, .long 0])) rfl ?_
  refine zp_aload_n C 0 dX7_init_38 rfl rfl ?_
  refine zp_lconst (v := 0) C dX7_init_39 (by decide) ?_
  refine zq_put (ci := 7) (j := 6) (ty := tyX7 6) (fs := [.ref (ob E (k0 + 1)), .int 0, .int 0, .int 0, .int 0, .int 0, .long 0]) C (by decide) rfl rfl iX7 tyX7_ok nmX7 (by decide) rfl rfl (tyX7_ok _ (by decide)) (by first | rfl | decide) rfl (Nat.le_of_ble_eq_true rfl) kX7_31 dX7_init_40 (c1 := .inr (7, [.ref (ob E (k0 + 1)), .int 0, .int 0, .int 0, .int 0, .int 0, .long 0])) rfl ?_
  exact zq_ret C hr dX7_init_43 (zc0_7 (k := k0 + 0) hk).symm (Or.inl rfl)
set_option maxRecDepth 20000 in
theorem c_X4_init {l : Launch} (E : zE) (k0 : Nat) (hk : kd k0 = 4) : zRc l E zG0 k0 yX4_init cX4_init 1 (zrc 2 4 32 40) (.inr (4, [.int 0, .int 0, .null, .null, .null, .null])) 5 4 32 := by
  refine zp_go (own := RX4) (by decide +kernel) rfl rfl (by decide) (fun p e s m args below meth c C hr hnm => ?_)
  refine zq_start (a := 0) (xa := .inr (99, [])) ?_
  refine zp_aload_n C 0 dX4_init_0 rfl rfl ?_
  refine zp_obj C (zT_mem 179 (by decide +kernel) (by decide)) zoi zoc dX4_init_1 ⟨(Nat.le_of_ble_eq_true rfl), (Nat.le_of_ble_eq_true rfl)⟩ ?_
  refine zp_aload_n C 0 dX4_init_4 rfl rfl ?_
  refine zp_sipush (v := 2000) C dX4_init_5 (by decide) ?_
  refine zq_put (ci := 4) (j := 0) (ty := tyX4 0) (fs := [.int 0, .int 0, .null, .null, .null, .null]) C (by decide) rfl rfl iX4 tyX4_ok nmX4 (by decide) rfl rfl (tyX4_ok _ (by decide)) (by first | rfl | decide) rfl (Nat.le_of_ble_eq_true rfl) kX4_9 dX4_init_8 (c1 := .inr (4, [.int 2000, .int 0, .null, .null, .null, .null])) rfl ?_
  refine zp_aload_n C 0 dX4_init_11 rfl rfl ?_
  refine zp_iconst (v := 0) C dX4_init_12 (by decide) ?_
  refine zq_put (ci := 4) (j := 1) (ty := tyX4 1) (fs := [.int 2000, .int 0, .null, .null, .null, .null]) C (by decide) rfl rfl iX4 tyX4_ok nmX4 (by decide) rfl rfl (tyX4_ok _ (by decide)) (by first | rfl | decide) rfl (Nat.le_of_ble_eq_true rfl) kX4_15 dX4_init_13 (c1 := .inr (4, [.int 2000, .int 0, .null, .null, .null, .null])) rfl ?_
  refine zp_aload_n C 0 dX4_init_16 rfl rfl ?_
  refine zp_bipush (v := 8) C dX4_init_17 (by decide) ?_
  refine zq_newa (atype := .long) (ti := 2) (N' := 8) (x := (8, .inr (.inl (fun _ => 0)))) C rfl (zT_mem 208 (by decide +kernel) (by decide)) (fun _ => rfl) (by decide) (by decide) (by decide) (Nat.le_of_ble_eq_true rfl) (Nat.le_of_ble_eq_true rfl) dX4_init_19 ⟨by decide, by decide⟩ (zc0_13 (zsu hk).1.1 (zsu hk).1.2) ?_
  refine zq_putF (ci := 4) (j := 2) (ty := tyX4 2) (fs := [.int 2000, .int 0, .null, .null, .null, .null]) C (by decide) rfl rfl iX4 tyX4_ok nmX4 (by decide) rfl rfl hnm (tyX4_ok _ (by decide)) (by first | rfl | decide) rfl (Nat.le_of_ble_eq_true rfl) kX4_18 dX4_init_21 (c1 := .inr (4, [.int 2000, .int 0, .ref (ob E (k0 + 1)), .null, .null, .null])) rfl ?_
  refine zp_aload_n C 0 dX4_init_24 rfl rfl ?_
  refine zp_bipush (v := 8) C dX4_init_25 (by decide) ?_
  refine zq_newa (atype := .int) (ti := 1) (N' := 8) (x := (8, .inl (fun _ => 0))) C rfl (zT_mem 209 (by decide +kernel) (by decide)) (fun _ => rfl) (by decide) (by decide) (by decide) (Nat.le_of_ble_eq_true rfl) (Nat.le_of_ble_eq_true rfl) dX4_init_27 ⟨by decide, by decide⟩ (zc0_12 (zsu hk).2.1.1 (zsu hk).2.1.2) ?_
  refine zq_putF (ci := 4) (j := 3) (ty := tyX4 3) (fs := [.int 2000, .int 0, .ref (ob E (k0 + 1)), .null, .null, .null]) C (by decide) rfl rfl iX4 tyX4_ok nmX4 (by decide) rfl rfl hnm (tyX4_ok _ (by decide)) (by first | rfl | decide) rfl (Nat.le_of_ble_eq_true rfl) kX4_22 dX4_init_29 (c1 := .inr (4, [.int 2000, .int 0, .ref (ob E (k0 + 1)), .ref (ob E (k0 + 2)), .null, .null])) rfl ?_
  refine zp_aload_n C 0 dX4_init_32 rfl rfl ?_
  refine zp_bipush (v := 8) C dX4_init_33 (by decide) ?_
  refine zq_newa (atype := .boolean) (ti := 3) (N' := 8) (x := (8, .inl (fun _ => 0))) C rfl (zT_mem 210 (by decide +kernel) (by decide)) (fun _ => rfl) (by decide) (by decide) (by decide) (Nat.le_of_ble_eq_true rfl) (Nat.le_of_ble_eq_true rfl) dX4_init_35 ⟨by decide, by decide⟩ (zc0_14 (zsu hk).2.2.1.1 (zsu hk).2.2.1.2) ?_
  refine zq_putF (ci := 4) (j := 4) (ty := tyX4 4) (fs := [.int 2000, .int 0, .ref (ob E (k0 + 1)), .ref (ob E (k0 + 2)), .null, .null]) C (by decide) rfl rfl iX4 tyX4_ok nmX4 (by decide) rfl rfl hnm (tyX4_ok _ (by decide)) (by first | rfl | decide) rfl (Nat.le_of_ble_eq_true rfl) kX4_26 dX4_init_37 (c1 := .inr (4, [.int 2000, .int 0, .ref (ob E (k0 + 1)), .ref (ob E (k0 + 2)), .ref (ob E (k0 + 3)), .null])) rfl ?_
  refine zp_aload_n C 0 dX4_init_40 rfl rfl ?_
  refine zp_bipush (v := 8) C dX4_init_41 (by decide) ?_
  refine zq_newa (atype := .int) (ti := 1) (N' := 8) (x := (8, .inl (fun _ => 0))) C rfl (zT_mem 209 (by decide +kernel) (by decide)) (fun _ => rfl) (by decide) (by decide) (by decide) (Nat.le_of_ble_eq_true rfl) (Nat.le_of_ble_eq_true rfl) dX4_init_43 ⟨by decide, by decide⟩ (zc0_12 (zsu hk).2.2.2.1 (zsu hk).2.2.2.2) ?_
  refine zq_putF (ci := 4) (j := 5) (ty := tyX4 5) (fs := [.int 2000, .int 0, .ref (ob E (k0 + 1)), .ref (ob E (k0 + 2)), .ref (ob E (k0 + 3)), .null]) C (by decide) rfl rfl iX4 tyX4_ok nmX4 (by decide) rfl rfl hnm (tyX4_ok _ (by decide)) (by first | rfl | decide) rfl (Nat.le_of_ble_eq_true rfl) kX4_30 dX4_init_45 (c1 := .inr (4, [.int 2000, .int 0, .ref (ob E (k0 + 1)), .ref (ob E (k0 + 2)), .ref (ob E (k0 + 3)), .ref (ob E (k0 + 4))])) rfl ?_
  exact zq_ret C hr dX4_init_48 (zc0_4 (k := k0 + 0) hk).symm (Or.inl rfl)
