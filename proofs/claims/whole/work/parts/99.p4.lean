theorem lp_X6 {p : Program} {l : Launch} {e : Env} {R : Room} {s : State} {m : MethodId} {args : Array Value} {below : List Frame} {meth : Method} {c : Code} {E : zE} {k0 : Nat} (hk : kd k0 = 6) (C : zYx p l s m args meth c cX6_init RX6 2 E k0) (hr : meth.sig.returnType = none) (hR : R = (zrc 4 19 144 110)) : ∀ d j, j + d = 8 → zVp p l e R s m args below meth c 2 E k0 (MQ below (va_Qv (fun _ : Unit => True) (fun _ U => zP E k0 (fun j => zc E zG0 (k0 + j)) 20 U.heap) (zAk E k0)) args s 19 144 (zAk E k0)) (3 + 2 * j) (32 + 14 * j) (cN E k0 (.inr (6, [.ref (ob E (k0 + 1)), .int 0, .int 60, .int 0, .ref (ob E (k0 + 2)), .ref (ob E (k0 + 3))])) 3 (.inl (cAt E 5, 8, .inr (.inr (.inr (.inr (fun i => if i < j then some (ob E (k0 + (4 + 2 * i))) else none))))))) (4 + 2 * j) 47 [(1, .int (zI (j : Int))), (0, .ref (ob E (k0 + 0)))] [] := by
  subst hR
  intro d
  induction d with
  | zero =>
    intro j hj
    obtain rfl : j = 8 := by omega
    refine zp_iload_n C 0 dX6_init_47 rfl rfl ?_
    refine zp_bipush (v := zI 8) C dX6_init_48 (by decide) ?_
    refine zp_icmp_geZ (tgt := 72) C (by omega) (by omega) dX6_init_50 (by decide) (fun _ => ?_) (fun h => ?_)
    · exact zq_ret C hr dX6_init_72 (zc0_6 (k := k0 + 0) hk).symm (Or.inr fun H hat => by
        rw [zc0_16 (k := k0 + 3) (zst hk).2.2.1.1 (zst hk).2.2.1.2]
        exact va_q (fun i hi => by
          rw [if_pos hi]
          exact congrArg (fun z => some (ob E z)) (by omega)) hat)
    · omega
  | succ d ih =>
    intro j hj
    refine zp_iload_n C 0 dX6_init_47 rfl rfl ?_
    refine zp_bipush (v := zI 8) C dX6_init_48 (by decide) ?_
    refine zp_icmp_geZ (tgt := 72) C (by omega) (by omega) dX6_init_50 (by decide) (fun h => ?_) (fun _ => ?_)
    · omega
    refine zp_aload_n C 1 dX6_init_53 rfl rfl ?_
    refine zp_get (i := 0) (ci := 6) (j := 5) (fs := [.ref (ob E (k0 + 1)), .int 0, .int 60, .int 0, .ref (ob E (k0 + 2)), .ref (ob E (k0 + 3))]) (v := .ref (ob E (k0 + 3))) C (by omega) rfl rfl iX6 (by decide) rfl rfl kX6_30 dX6_init_54 ?_
    refine zp_iload_n C 0 dX6_init_57 rfl rfl ?_
    refine zp_new (ci := 8) (fs := [.null, .int 0]) C iX8 tyX8_ok (zT_mem 217 (by decide +kernel) (by decide)) mtX8 miX8 rfl dfX8 (by show 3 + 2 * j + 1 ≤ 19; omega) (by show 32 + 14 * j + 2 ≤ 144; omega) dX6_init_58 ?_
    refine zp_dup C dX6_init_61 rfl ?_
    have hkj : kd (k0 + (4 + 2 * j)) = 8 := by rw [← Nat.add_assoc]; exact ((zst hk).2.2.2 j (by omega)).1
    refine zq_cI (i := 4 + 2 * j) C (c_X8_init E (k0 + (4 + 2 * j)) hkj) rfl ⟨by omega, by omega⟩ mcX8 miX8 mmX8 (Or.inr (List.mem_filter.mpr ⟨List.contains_iff_mem.mp (by decide +kernel), rfl⟩)) rfl ⟨by decide, by decide, by decide⟩ ⟨rfl, rfl⟩ (show zfit (zrc 2 1 12 40) 1 (zrc 4 19 144 110) = true from rfl) (Nat.le_of_ble_eq_true rfl) dX6_init_62 ⟨by show 3 + 2 * j + 1 + 1 ≤ 19; omega, by show 32 + 14 * j + 2 + 12 ≤ 144; omega⟩ ?_
    refine zp_aast (i := 3) (i2 := 4 + 2 * j) (ti := 5) (ci := 8) (N' := 8) (j := j) (f := fun i => if i < j then some (ob E (k0 + (4 + 2 * i))) else none) C (by omega) rfl rfl (by omega) (by unfold cN; rw [if_neg (by omega), if_neg (by omega)]; exact zc0_8 hkj) rfl (zI_ix rfl) (by omega) (by decide) dX6_init_65 ?_
    refine zp_iinc (v := zI ((j : Int) + 1)) (lv' := [(1, .int (zI ((j : Int) + 1))), (0, .ref (ob E (k0 + 0)))]) C 0 dX6_init_66 rfl (zI_add _ _) (by decide) rfl ?_
    refine zp_goto (tgt := 47) C dX6_init_69 (by decide) ?_
    have e9 := ih (j + 1) (by omega)
    rw [show 3 + 2 * (j + 1) = 3 + 2 * j + 1 + 1 by omega, show 32 + 14 * (j + 1) = 32 + 14 * j + 2 + 12 by omega, show 4 + 2 * (j + 1) = 4 + 2 * j + 2 by omega, show (((j + 1 : Nat)) : Int) = (j : Int) + 1 from rfl] at e9
    refine zp_cong (fun k _ => ?_) e9
    have ef : va_up (fun i => if i < j then some (ob E (k0 + (4 + 2 * i))) else none) j (some (ob E (k0 + (4 + 2 * j)))) = fun i => if i < j + 1 then some (ob E (k0 + (4 + 2 * i))) else none := funext fun i => by
      unfold va_up
      dsimp only
      by_cases g1 : i = j
      · subst g1
        rw [if_pos rfl, if_pos (by omega)]
      · rw [if_neg g1]
        by_cases g2 : i < j
        · rw [if_pos g2, if_pos (by omega)]
        · rw [if_neg g2, if_neg (by omega)]
    unfold zU cN
    by_cases g1 : k = 3
    · rw [if_pos g1, if_neg (by omega), if_pos g1, ef]
    · rw [if_neg g1, if_neg g1, if_neg g1]
set_option maxRecDepth 20000 in
theorem c_X6_init {l : Launch} (E : zE) (k0 : Nat) (hk : kd k0 = 6) : zRc l E zG0 k0 yX6_init cX6_init 2 (zrc 4 19 144 110) (.inr (6, [.null, .int 0, .int 0, .int 0, .null, .null])) 20 19 144 := by
  refine zp_go (own := RX6) (by decide +kernel) rfl rfl (by decide) (fun p e s m args below meth c C hr hnm => ?_)
  refine zq_start (a := 3) (xa := .inr (99, [])) ?_
  refine zp_aload_n C 0 dX6_init_0 rfl rfl ?_
  refine zp_obj C (zT_mem 216 (by decide +kernel) (by decide)) zoi zoc dX6_init_1 ⟨(Nat.le_of_ble_eq_true rfl), (Nat.le_of_ble_eq_true rfl)⟩ ?_
  refine zp_aload_n C 0 dX6_init_4 rfl rfl ?_
  refine zp_bipush (v := 16) C dX6_init_5 (by decide) ?_
  refine zq_newa (atype := .int) (ti := 1) (N' := 16) (x := (16, .inl (fun _ => 0))) C rfl (zT_mem 209 (by decide +kernel) (by decide)) (fun _ => rfl) (by decide) (by decide) (by decide) (Nat.le_of_ble_eq_true rfl) (Nat.le_of_ble_eq_true rfl) dX6_init_7 ⟨by decide, by decide⟩ (zc0_12 (zst hk).1.1 (zst hk).1.2) ?_
  refine zq_putF (ci := 6) (j := 0) (ty := tyX6 0) (fs := [.null, .int 0, .int 0, .int 0, .null, .null]) C (by decide) rfl rfl iX6 tyX6_ok nmX6 (by decide) rfl rfl hnm (tyX6_ok _ (by decide)) (by first | rfl | decide) rfl (Nat.le_of_ble_eq_true rfl) kX6_9 dX6_init_9 (c1 := .inr (6, [.ref (ob E (k0 + 1)), .int 0, .int 0, .int 0, .null, .null])) rfl ?_
  refine zp_aload_n C 0 dX6_init_12 rfl rfl ?_
  refine zp_iconst (v := 0) C dX6_init_13 (by decide) ?_
  refine zq_put (ci := 6) (j := 1) (ty := tyX6 1) (fs := [.ref (ob E (k0 + 1)), .int 0, .int 0, .int 0, .null, .null]) C (by decide) rfl rfl iX6 tyX6_ok nmX6 (by decide) rfl rfl (tyX6_ok _ (by decide)) (by first | rfl | decide) rfl (Nat.le_of_ble_eq_true rfl) kX6_15 dX6_init_14 (c1 := .inr (6, [.ref (ob E (k0 + 1)), .int 0, .int 0, .int 0, .null, .null])) rfl ?_
  refine zp_aload_n C 0 dX6_init_17 rfl rfl ?_
  refine zp_bipush (v := 60) C dX6_init_18 (by decide) ?_
  refine zq_put (ci := 6) (j := 2) (ty := tyX6 2) (fs := [.ref (ob E (k0 + 1)), .int 0, .int 0, .int 0, .null, .null]) C (by decide) rfl rfl iX6 tyX6_ok nmX6 (by decide) rfl rfl (tyX6_ok _ (by decide)) (by first | rfl | decide) rfl (Nat.le_of_ble_eq_true rfl) kX6_19 dX6_init_20 (c1 := .inr (6, [.ref (ob E (k0 + 1)), .int 0, .int 60, .int 0, .null, .null])) rfl ?_
  refine zp_aload_n C 0 dX6_init_23 rfl rfl ?_
  refine zp_iconst (v := 0) C dX6_init_24 (by decide) ?_
  refine zq_put (ci := 6) (j := 3) (ty := tyX6 3) (fs := [.ref (ob E (k0 + 1)), .int 0, .int 60, .int 0, .null, .null]) C (by decide) rfl rfl iX6 tyX6_ok nmX6 (by decide) rfl rfl (tyX6_ok _ (by decide)) (by first | rfl | decide) rfl (Nat.le_of_ble_eq_true rfl) kX6_22 dX6_init_25 (c1 := .inr (6, [.ref (ob E (k0 + 1)), .int 0, .int 60, .int 0, .null, .null])) rfl ?_
  refine zp_aload_n C 0 dX6_init_28 rfl rfl ?_
  refine zp_bipush (v := 8) C dX6_init_29 (by decide) ?_
  refine zq_newa (atype := .int) (ti := 1) (N' := 8) (x := (8, .inl (fun _ => 0))) C rfl (zT_mem 209 (by decide +kernel) (by decide)) (fun _ => rfl) (by decide) (by decide) (by decide) (Nat.le_of_ble_eq_true rfl) (Nat.le_of_ble_eq_true rfl) dX6_init_31 ⟨by decide, by decide⟩ (zc0_12 (zst hk).2.1.1 (zst hk).2.1.2) ?_
  refine zq_putF (ci := 6) (j := 4) (ty := tyX6 4) (fs := [.ref (ob E (k0 + 1)), .int 0, .int 60, .int 0, .null, .null]) C (by decide) rfl rfl iX6 tyX6_ok nmX6 (by decide) rfl rfl hnm (tyX6_ok _ (by decide)) (by first | rfl | decide) rfl (Nat.le_of_ble_eq_true rfl) kX6_25 dX6_init_33 (c1 := .inr (6, [.ref (ob E (k0 + 1)), .int 0, .int 60, .int 0, .ref (ob E (k0 + 2)), .null])) rfl ?_
  refine zp_aload_n C 0 dX6_init_36 rfl rfl ?_
  refine zp_bipush (v := 8) C dX6_init_37 (by decide) ?_
  refine zq_newq (ti := 5) (N' := 8) C rfl C.kn.2.2.1 (zT_mem 217 (by decide +kernel) (by decide)) (by decide) (by decide) (by decide) (Nat.le_of_ble_eq_true rfl) (Nat.le_of_ble_eq_true rfl) dX6_init_39 (by decide) rfl ?_
  refine zq_putF (ci := 6) (j := 5) (ty := tyX6 5) (fs := [.ref (ob E (k0 + 1)), .int 0, .int 60, .int 0, .ref (ob E (k0 + 2)), .null]) C (by decide) rfl rfl iX6 tyX6_ok nmX6 (by decide) rfl rfl hnm (tyX6_ok _ (by decide)) (by first | rfl | decide) rfl (Nat.le_of_ble_eq_true rfl) kX6_30 dX6_init_42 (c1 := .inr (6, [.ref (ob E (k0 + 1)), .int 0, .int 60, .int 0, .ref (ob E (k0 + 2)), .ref (ob E (k0 + 3))])) rfl ?_
  refine zp_iconst (v := zI 0) C dX6_init_45 rfl ?_
  refine zp_istore_n (lv' := [(1, .int (zI 0)), (0, .ref (ob E (k0 + 0)))]) C dX6_init_46 rfl (by decide) rfl ?_
  refine zp_cong (fun k _ => ?_) (lp_X6 hk C hr rfl 8 0 rfl)
  unfold cN
  by_cases g1 : k = 3
  · rw [if_neg (by omega), if_pos g1, if_neg (by omega), if_pos g1]
    exact congrArg (fun f => (.inl (cAt E 5, 8, .inr (.inr (.inr (.inr f)))) : va_E)) (funext fun i => by rw [if_neg (Nat.not_lt_zero i)])
  · rw [if_neg g1, if_neg g1]
theorem lp_X1 {p : Program} {l : Launch} {e : Env} {R : Room} {s : State} {m : MethodId} {args : Array Value} {below : List Frame} {meth : Method} {c : Code} {E : zE} (C : zYx p l s m args meth c cX1_init RX1 2 E 54) (hr : meth.sig.returnType = none) (hR : R = (zrc 6 261 1962 180)) : ∀ d j, j + d = 12 → zVp p l e R s m args below meth c 2 E 54 (MQ below (va_Qv (fun _ : Unit => True) (fun _ U => zP E 54 (fun j => zc E zG0 (54 + j)) 262 U.heap) (zAk E 54)) args s 261 1962 (zAk E 54)) (21 + 20 * j) (162 + 150 * j) (cN E 54 (.inr (1, [.ref (ob E (54 + 1)), .int 0, .int 0, .ref (ob E (54 + 2)), .int 0])) 1 (.inl (cAt E 4, 12, .inr (.inr (.inr (.inr (fun i => if i < j then some (ob E (54 + (22 + 20 * i))) else none))))))) (22 + 20 * j) 41 [(1, .int (zI (j : Int))), (0, .ref (ob E (54 + 0)))] [] := by
  subst hR
  intro d
  induction d with
  | zero =>
    intro j hj
    obtain rfl : j = 12 := by omega
    refine zp_iload_n C 0 dX1_init_41 rfl rfl ?_
    refine zp_bipush (v := zI 12) C dX1_init_42 (by decide) ?_
    refine zp_icmp_geZ (tgt := 66) C (by omega) (by omega) dX1_init_44 (by decide) (fun _ => ?_) (fun h => ?_)
    · exact zq_ret C hr dX1_init_66 (zc0_1 (k := 54 + 0) (by decide +kernel)).symm (Or.inr fun H hat => by
        rw [zc0_15 (k := 54 + 1) (N := 12) (by decide +kernel) (by decide +kernel)]
        exact va_q (fun i hi => by
          rw [if_pos hi]
          exact congrArg (fun z => some (ob E z)) (by omega)) hat)
    · omega
  | succ d ih =>
    intro j hj
    refine zp_iload_n C 0 dX1_init_41 rfl rfl ?_
    refine zp_bipush (v := zI 12) C dX1_init_42 (by decide) ?_
    refine zp_icmp_geZ (tgt := 66) C (by omega) (by omega) dX1_init_44 (by decide) (fun h => ?_) (fun _ => ?_)
    · omega
    refine zp_aload_n C 1 dX1_init_47 rfl rfl ?_
    refine zp_get (i := 0) (ci := 1) (j := 0) (fs := [.ref (ob E (54 + 1)), .int 0, .int 0, .ref (ob E (54 + 2)), .int 0]) (v := .ref (ob E (54 + 1))) C (by omega) rfl rfl iX1 (by decide) rfl rfl kX1_11 dX1_init_48 ?_
    refine zp_iload_n C 0 dX1_init_51 rfl rfl ?_
    refine zp_new (ci := 6) (fs := [.null, .int 0, .int 0, .int 0, .null, .null]) C iX6 tyX6_ok (zT_mem 303 (by decide +kernel) (by decide)) mtX6 miX6 rfl dfX6 (by show 21 + 20 * j + 1 ≤ 261; omega) (by show 162 + 150 * j + 6 ≤ 1962; omega) dX1_init_52 ?_
    refine zp_dup C dX1_init_55 rfl ?_
    have hkj : kd (54 + (22 + 20 * j)) = 6 := by rw [show 54 + (22 + 20 * j) = 76 + 20 * j by omega]; exact kd_ring j (by omega)
    refine zq_cI (i := 22 + 20 * j) C (c_X6_init E (54 + (22 + 20 * j)) hkj) rfl ⟨by omega, by omega⟩ mcX6 miX6 mmX6 (Or.inl (zT_mem 305 (by decide +kernel) (by decide))) rfl ⟨by decide, by decide, by decide⟩ ⟨rfl, rfl⟩ (show zfit (zrc 4 19 144 110) 2 (zrc 6 261 1962 180) = true from rfl) (Nat.le_of_ble_eq_true rfl) dX1_init_56 ⟨by show 21 + 20 * j + 1 + 19 ≤ 261; omega, by show 162 + 150 * j + 6 + 144 ≤ 1962; omega⟩ ?_
    refine zp_aast (i := 1) (i2 := 22 + 20 * j) (ti := 4) (ci := 6) (N' := 12) (j := j) (f := fun i => if i < j then some (ob E (54 + (22 + 20 * i))) else none) C (by omega) rfl rfl (by omega) (by unfold cN; rw [if_neg (by omega), if_neg (by omega)]; exact zc0_6 hkj) rfl (zI_ix rfl) (by omega) (by decide) dX1_init_59 ?_
    refine zp_iinc (v := zI ((j : Int) + 1)) (lv' := [(1, .int (zI ((j : Int) + 1))), (0, .ref (ob E (54 + 0)))]) C 0 dX1_init_60 rfl (zI_add _ _) (by decide) rfl ?_
    refine zp_goto (tgt := 41) C dX1_init_63 (by decide) ?_
    have e9 := ih (j + 1) (by omega)
    rw [show 21 + 20 * (j + 1) = 21 + 20 * j + 1 + 19 by omega, show 162 + 150 * (j + 1) = 162 + 150 * j + 6 + 144 by omega, show 22 + 20 * (j + 1) = 22 + 20 * j + 20 by omega, show (((j + 1 : Nat)) : Int) = (j : Int) + 1 from rfl] at e9
    refine zp_cong (fun k _ => ?_) e9
    have ef : va_up (fun i => if i < j then some (ob E (54 + (22 + 20 * i))) else none) j (some (ob E (54 + (22 + 20 * j)))) = fun i => if i < j + 1 then some (ob E (54 + (22 + 20 * i))) else none := funext fun i => by
      unfold va_up
      dsimp only
      by_cases g1 : i = j
      · subst g1
        rw [if_pos rfl, if_pos (by omega)]
      · rw [if_neg g1]
        by_cases g2 : i < j
        · rw [if_pos g2, if_pos (by omega)]
        · rw [if_neg g2, if_neg (by omega)]
    unfold zU cN
    by_cases g1 : k = 1
    · rw [if_pos g1, if_neg (by omega), if_pos g1, ef]
    · rw [if_neg g1, if_neg g1, if_neg g1]
set_option maxRecDepth 20000 in
theorem c_X1_init {l : Launch} (E : zE) : zRc l E zG0 54 yX1_init cX1_init 2 (zrc 6 261 1962 180) (.inr (1, [.null, .int 0, .int 0, .null, .int 0])) 262 261 1962 := by
  refine zp_go (own := RX1) (by decide +kernel) rfl rfl (by decide) (fun p e s m args below meth c C hr hnm => ?_)
  refine zq_start (a := 1) (xa := .inr (99, [])) ?_
  refine zp_aload_n C 0 dX1_init_0 rfl rfl ?_
  refine zp_obj C (zT_mem 302 (by decide +kernel) (by decide)) zoi zoc dX1_init_1 ⟨(Nat.le_of_ble_eq_true rfl), (Nat.le_of_ble_eq_true rfl)⟩ ?_
  refine zp_aload_n C 0 dX1_init_4 rfl rfl ?_
  refine zp_bipush (v := 12) C dX1_init_5 (by decide) ?_
  refine zq_newq (ti := 4) (N' := 12) C rfl C.kn.2.1 (zT_mem 303 (by decide +kernel) (by decide)) (by decide) (by decide) (by decide) (Nat.le_of_ble_eq_true rfl) (Nat.le_of_ble_eq_true rfl) dX1_init_7 (by decide) rfl ?_
  refine zq_putF (ci := 1) (j := 0) (ty := tyX1 0) (fs := [.null, .int 0, .int 0, .null, .int 0]) C (by decide) rfl rfl iX1 tyX1_ok nmX1 (by decide) rfl rfl hnm (tyX1_ok _ (by decide)) (by first | rfl | decide) rfl (Nat.le_of_ble_eq_true rfl) kX1_11 dX1_init_10 (c1 := .inr (1, [.ref (ob E (54 + 1)), .int 0, .int 0, .null, .int 0])) rfl ?_
  refine zp_aload_n C 0 dX1_init_13 rfl rfl ?_
  refine zp_iconst (v := 0) C dX1_init_14 (by decide) ?_
  refine zq_put (ci := 1) (j := 1) (ty := tyX1 1) (fs := [.ref (ob E (54 + 1)), .int 0, .int 0, .null, .int 0]) C (by decide) rfl rfl iX1 tyX1_ok nmX1 (by decide) rfl rfl (tyX1_ok _ (by decide)) (by first | rfl | decide) rfl (Nat.le_of_ble_eq_true rfl) kX1_17 dX1_init_15 (c1 := .inr (1, [.ref (ob E (54 + 1)), .int 0, .int 0, .null, .int 0])) rfl ?_
  refine zp_aload_n C 0 dX1_init_18 rfl rfl ?_
  refine zp_iconst (v := 0) C dX1_init_19 (by decide) ?_
  refine zq_put (ci := 1) (j := 2) (ty := tyX1 2) (fs := [.ref (ob E (54 + 1)), .int 0, .int 0, .null, .int 0]) C (by decide) rfl rfl iX1 tyX1_ok nmX1 (by decide) rfl rfl (tyX1_ok _ (by decide)) (by first | rfl | decide) rfl (Nat.le_of_ble_eq_true rfl) kX1_21 dX1_init_20 (c1 := .inr (1, [.ref (ob E (54 + 1)), .int 0, .int 0, .null, .int 0])) rfl ?_
  refine zp_aload_n C 0 dX1_init_23 rfl rfl ?_
  refine zp_new (ci := 6) (fs := [.null, .int 0, .int 0, .int 0, .null, .null]) C iX6 tyX6_ok (zT_mem 303 (by decide +kernel) (by decide)) mtX6 miX6 rfl dfX6 (Nat.le_of_ble_eq_true rfl) (Nat.le_of_ble_eq_true rfl) dX1_init_24 ?_
  refine zp_dup C dX1_init_27 rfl ?_
  refine zq_cI (i := 2) C (c_X6_init E (54 + 2) (by decide +kernel)) rfl ⟨by decide, by decide⟩ mcX6 miX6 mmX6 (Or.inl (zT_mem 305 (by decide +kernel) (by decide))) rfl ⟨by decide, by decide, by decide⟩ ⟨rfl, rfl⟩ (show zfit (zrc 4 19 144 110) 2 (zrc 6 261 1962 180) = true from rfl) (Nat.le_of_ble_eq_true rfl) dX1_init_28 ⟨(Nat.le_of_ble_eq_true rfl), (Nat.le_of_ble_eq_true rfl)⟩ ?_
  refine zq_putF (ci := 1) (j := 3) (ty := tyX1 3) (fs := [.ref (ob E (54 + 1)), .int 0, .int 0, .null, .int 0]) C (by decide) rfl rfl iX1 tyX1_ok nmX1 (by decide) rfl rfl hnm (tyX1_ok _ (by decide)) (by first | rfl | decide) rfl (Nat.le_of_ble_eq_true rfl) kX1_25 dX1_init_31 (c1 := .inr (1, [.ref (ob E (54 + 1)), .int 0, .int 0, .ref (ob E (54 + 2)), .int 0])) rfl ?_
  refine zp_aload_n C 0 dX1_init_34 rfl rfl ?_
  refine zp_iconst (v := 0) C dX1_init_35 (by decide) ?_
  refine zq_put (ci := 1) (j := 4) (ty := tyX1 4) (fs := [.ref (ob E (54 + 1)), .int 0, .int 0, .ref (ob E (54 + 2)), .int 0]) C (by decide) rfl rfl iX1 tyX1_ok nmX1 (by decide) rfl rfl (tyX1_ok _ (by decide)) (by first | rfl | decide) rfl (Nat.le_of_ble_eq_true rfl) kX1_29 dX1_init_36 (c1 := .inr (1, [.ref (ob E (54 + 1)), .int 0, .int 0, .ref (ob E (54 + 2)), .int 0])) rfl ?_
  refine zp_iconst (v := zI 0) C dX1_init_39 rfl ?_
  refine zp_istore_n (lv' := [(1, .int (zI 0)), (0, .ref (ob E (54 + 0)))]) C dX1_init_40 rfl (by decide) rfl ?_
  refine zp_cong (fun k _ => ?_) (lp_X1 C hr rfl 12 0 rfl)
  unfold cN
  by_cases g1 : k = 1
  · rw [if_neg (by omega), if_pos g1, if_neg (by omega), if_pos g1]
    exact congrArg (fun f => (.inl (cAt E 4, 12, .inr (.inr (.inr (.inr f)))) : va_E)) (funext fun i => by rw [if_neg (Nat.not_lt_zero i)])
  · rw [if_neg g1, if_neg g1]
set_option maxRecDepth 20000 in
theorem c_X5_init {l : Launch} (E : zE) : zRc l E zG0 1 yX5_init cX5_init 1 (zrc 6 27 1095 180) (.inr (5, [.null, .null, .null, .int 0, .int 0, .int 0, .int 0, .int 0])) 28 27 1095 := by
  refine zp_go (own := RX5) (by decide +kernel) rfl rfl (by decide) (fun p e s m args below meth c C hr hnm => ?_)
  refine zq_start (a := 0) (xa := .inr (99, [])) ?_
  refine zp_aload_n C 0 dX5_init_0 rfl rfl ?_
  refine zp_obj C (zT_mem 139 (by decide +kernel) (by decide)) zoi zoc dX5_init_1 ⟨(Nat.le_of_ble_eq_true rfl), (Nat.le_of_ble_eq_true rfl)⟩ ?_
  refine zp_aload_n C 0 dX5_init_4 rfl rfl ?_
  refine zp_new (ci := 7) (fs := [.null, .int 0, .int 0, .int 0, .int 0, .int 0, .long 0]) C iX7 tyX7_ok (zT_mem 140 (by decide +kernel) (by decide)) mtX7 miX7 rfl dfX7 (Nat.le_of_ble_eq_true rfl) (Nat.le_of_ble_eq_true rfl) dX5_init_5 ?_
  refine zp_dup C dX5_init_8 rfl ?_
  refine zq_cI (i := 1) C (c_X7_init E (1 + 1) (by decide +kernel)) rfl ⟨by decide, by decide⟩ mcX7 miX7 mmX7 (Or.inr (List.mem_filter.mpr ⟨List.contains_iff_mem.mp (by decide +kernel), rfl⟩)) rfl ⟨by decide, by decide, by decide⟩ ⟨rfl, rfl⟩ (show zfit (zrc 2 1 900 40) 1 (zrc 6 27 1095 180) = true from rfl) (Nat.le_of_ble_eq_true rfl) dX5_init_9 ⟨(Nat.le_of_ble_eq_true rfl), (Nat.le_of_ble_eq_true rfl)⟩ ?_
  refine zq_putF (ci := 5) (j := 0) (ty := tyX5 0) (fs := [.null, .null, .null, .int 0, .int 0, .int 0, .int 0, .int 0]) C (by decide) rfl rfl iX5 tyX5_ok nmX5 (by decide) rfl rfl hnm (tyX5_ok _ (by decide)) (by first | rfl | decide) rfl (Nat.le_of_ble_eq_true rfl) kX5_12 dX5_init_12 (c1 := .inr (5, [.ref (ob E (1 + 1)), .null, .null, .int 0, .int 0, .int 0, .int 0, .int 0])) rfl ?_
  refine zp_aload_n C 0 dX5_init_15 rfl rfl ?_
  refine zp_new (ci := 4) (fs := [.int 0, .int 0, .null, .null, .null, .null]) C iX4 tyX4_ok (zT_mem 174 (by decide +kernel) (by decide)) mtX4 miX4 rfl dfX4 (Nat.le_of_ble_eq_true rfl) (Nat.le_of_ble_eq_true rfl) dX5_init_16 ?_
  refine zp_dup C dX5_init_19 rfl ?_
  refine zq_cI (i := 3) C (c_X4_init E (1 + 3) (by decide +kernel)) rfl ⟨by decide, by decide⟩ mcX4 miX4 mmX4 (Or.inr (List.mem_filter.mpr ⟨List.contains_iff_mem.mp (by decide +kernel), rfl⟩)) rfl ⟨by decide, by decide, by decide⟩ ⟨rfl, rfl⟩ (show zfit (zrc 2 4 32 40) 1 (zrc 6 27 1095 180) = true from rfl) (Nat.le_of_ble_eq_true rfl) dX5_init_20 ⟨(Nat.le_of_ble_eq_true rfl), (Nat.le_of_ble_eq_true rfl)⟩ ?_
  refine zq_putF (ci := 5) (j := 1) (ty := tyX5 1) (fs := [.ref (ob E (1 + 1)), .null, .null, .int 0, .int 0, .int 0, .int 0, .int 0]) C (by decide) rfl rfl iX5 tyX5_ok nmX5 (by decide) rfl rfl hnm (tyX5_ok _ (by decide)) (by first | rfl | decide) rfl (Nat.le_of_ble_eq_true rfl) kX5_21 dX5_init_23 (c1 := .inr (5, [.ref (ob E (1 + 1)), .ref (ob E (1 + 3)), .null, .int 0, .int 0, .int 0, .int 0, .int 0])) rfl ?_
  refine zp_aload_n C 0 dX5_init_26 rfl rfl ?_
  refine zp_new (ci := 6) (fs := [.null, .int 0, .int 0, .int 0, .null, .null]) C iX6 tyX6_ok (zT_mem 211 (by decide +kernel) (by decide)) mtX6 miX6 rfl dfX6 (Nat.le_of_ble_eq_true rfl) (Nat.le_of_ble_eq_true rfl) dX5_init_27 ?_
  refine zp_dup C dX5_init_30 rfl ?_
  refine zq_cI (i := 8) C (c_X6_init E (1 + 8) (by decide +kernel)) rfl ⟨by decide, by decide⟩ mcX6 miX6 mmX6 (Or.inl (zT_mem 213 (by decide +kernel) (by decide))) rfl ⟨by decide, by decide, by decide⟩ ⟨rfl, rfl⟩ (show zfit (zrc 4 19 144 110) 2 (zrc 6 27 1095 180) = true from rfl) (Nat.le_of_ble_eq_true rfl) dX5_init_31 ⟨(Nat.le_of_ble_eq_true rfl), (Nat.le_of_ble_eq_true rfl)⟩ ?_
  refine zq_putF (ci := 5) (j := 2) (ty := tyX5 2) (fs := [.ref (ob E (1 + 1)), .ref (ob E (1 + 3)), .null, .int 0, .int 0, .int 0, .int 0, .int 0]) C (by decide) rfl rfl iX5 tyX5_ok nmX5 (by decide) rfl rfl hnm (tyX5_ok _ (by decide)) (by first | rfl | decide) rfl (Nat.le_of_ble_eq_true rfl) kX5_28 dX5_init_34 (c1 := .inr (5, [.ref (ob E (1 + 1)), .ref (ob E (1 + 3)), .ref (ob E (1 + 8)), .int 0, .int 0, .int 0, .int 0, .int 0])) rfl ?_
  refine zp_aload_n C 0 dX5_init_37 rfl rfl ?_
  refine zp_iconst (v := 0) C dX5_init_38 (by decide) ?_
  refine zq_put (ci := 5) (j := 3) (ty := tyX5 3) (fs := [.ref (ob E (1 + 1)), .ref (ob E (1 + 3)), .ref (ob E (1 + 8)), .int 0, .int 0, .int 0, .int 0, .int 0]) C (by decide) rfl rfl iX5 tyX5_ok nmX5 (by decide) rfl rfl (tyX5_ok _ (by decide)) (by first | rfl | decide) rfl (Nat.le_of_ble_eq_true rfl) kX5_32 dX5_init_39 (c1 := .inr (5, [.ref (ob E (1 + 1)), .ref (ob E (1 + 3)), .ref (ob E (1 + 8)), .int 0, .int 0, .int 0, .int 0, .int 0])) rfl ?_
  refine zp_aload_n C 0 dX5_init_42 rfl rfl ?_
  refine zp_iconst (v := (-1)) C dX5_init_43 (by decide) ?_
  refine zq_put (ci := 5) (j := 4) (ty := tyX5 4) (fs := [.ref (ob E (1 + 1)), .ref (ob E (1 + 3)), .ref (ob E (1 + 8)), .int 0, .int 0, .int 0, .int 0, .int 0]) C (by decide) rfl rfl iX5 tyX5_ok nmX5 (by decide) rfl rfl (tyX5_ok _ (by decide)) (by first | rfl | decide) rfl (Nat.le_of_ble_eq_true rfl) kX5_36 dX5_init_44 (c1 := .inr (5, [.ref (ob E (1 + 1)), .ref (ob E (1 + 3)), .ref (ob E (1 + 8)), .int 0, .int (-1), .int 0, .int 0, .int 0])) rfl ?_
  refine zp_aload_n C 0 dX5_init_47 rfl rfl ?_
  refine zp_iconst (v := 0) C dX5_init_48 (by decide) ?_
  refine zq_put (ci := 5) (j := 5) (ty := tyX5 5) (fs := [.ref (ob E (1 + 1)), .ref (ob E (1 + 3)), .ref (ob E (1 + 8)), .int 0, .int (-1), .int 0, .int 0, .int 0]) C (by decide) rfl rfl iX5 tyX5_ok nmX5 (by decide) rfl rfl (tyX5_ok _ (by decide)) (by first | rfl | decide) rfl (Nat.le_of_ble_eq_true rfl) kX5_39 dX5_init_49 (c1 := .inr (5, [.ref (ob E (1 + 1)), .ref (ob E (1 + 3)), .ref (ob E (1 + 8)), .int 0, .int (-1), .int 0, .int 0, .int 0])) rfl ?_
  refine zp_aload_n C 0 dX5_init_52 rfl rfl ?_
  refine zp_iconst (v := 0) C dX5_init_53 (by decide) ?_
  refine zq_put (ci := 5) (j := 6) (ty := tyX5 6) (fs := [.ref (ob E (1 + 1)), .ref (ob E (1 + 3)), .ref (ob E (1 + 8)), .int 0, .int (-1), .int 0, .int 0, .int 0]) C (by decide) rfl rfl iX5 tyX5_ok nmX5 (by decide) rfl rfl (tyX5_ok _ (by decide)) (by first | rfl | decide) rfl (Nat.le_of_ble_eq_true rfl) kX5_43 dX5_init_54 (c1 := .inr (5, [.ref (ob E (1 + 1)), .ref (ob E (1 + 3)), .ref (ob E (1 + 8)), .int 0, .int (-1), .int 0, .int 0, .int 0])) rfl ?_
  refine zp_aload_n C 0 dX5_init_57 rfl rfl ?_
  refine zp_iconst (v := 0) C dX5_init_58 (by decide) ?_
  refine zq_put (ci := 5) (j := 7) (ty := tyX5 7) (fs := [.ref (ob E (1 + 1)), .ref (ob E (1 + 3)), .ref (ob E (1 + 8)), .int 0, .int (-1), .int 0, .int 0, .int 0]) C (by decide) rfl rfl iX5 tyX5_ok nmX5 (by decide) rfl rfl (tyX5_ok _ (by decide)) (by first | rfl | decide) rfl (Nat.le_of_ble_eq_true rfl) kX5_46 dX5_init_59 (c1 := .inr (5, [.ref (ob E (1 + 1)), .ref (ob E (1 + 3)), .ref (ob E (1 + 8)), .int 0, .int (-1), .int 0, .int 0, .int 0])) rfl ?_
  exact zq_ret C hr dX5_init_62 (zc0_5 (k := 1 + 0) (by decide +kernel)).symm (Or.inl rfl)
set_option maxRecDepth 20000 in
theorem c_X10_init {l : Launch} (E : zE) : zRc l E zG0 0 yX10_init cX10_init 1 (zrc 8 326 4325 260) (.inr (9, [.null, .null, .null, .null, .null, .null, .null, .null, .null, .null, .null, .null])) 327 326 4325 := by
  refine zp_go (own := RX10) (by decide +kernel) rfl rfl (by decide) (fun p e s m args below meth c C hr hnm => ?_)
  refine zq_start (a := 0) (xa := .inr (99, [])) ?_
  refine zp_aload_n C 0 dX10_init_0 rfl rfl ?_
  refine zp_obj C (zT_mem 131 (by decide +kernel) (by decide)) zoi zoc dX10_init_1 ⟨(Nat.le_of_ble_eq_true rfl), (Nat.le_of_ble_eq_true rfl)⟩ ?_
  refine zp_aload_n C 0 dX10_init_4 rfl rfl ?_
  refine zp_new (ci := 5) (fs := [.null, .null, .null, .int 0, .int 0, .int 0, .int 0, .int 0]) C iX5 tyX5_ok (zT_mem 134 (by decide +kernel) (by decide)) mtX5 miX5 rfl dfX5 (Nat.le_of_ble_eq_true rfl) (Nat.le_of_ble_eq_true rfl) dX10_init_5 ?_
  refine zp_dup C dX10_init_8 rfl ?_
  refine zq_cI (i := 1) C (c_X5_init E   ) rfl ⟨by decide, by decide⟩ mcX5 miX5 mmX5 (Or.inr (List.mem_filter.mpr ⟨List.contains_iff_mem.mp (by decide +kernel), rfl⟩)) rfl ⟨by decide, by decide, by decide⟩ ⟨rfl, rfl⟩ (show zfit (zrc 6 27 1095 180) 1 (zrc 8 326 4325 260) = true from rfl) (Nat.le_of_ble_eq_true rfl) dX10_init_9 ⟨(Nat.le_of_ble_eq_true rfl), (Nat.le_of_ble_eq_true rfl)⟩ ?_
  refine zq_putF (ci := 9) (j := 0) (ty := tyX10 0) (fs := [.null, .null, .null, .null, .null, .null, .null, .null, .null, .null, .null, .null]) C (by decide) rfl rfl iX10 tyX10_ok nmX10 (by decide) rfl rfl hnm (tyX10_ok _ (by decide)) (by first | rfl | decide) rfl (Nat.le_of_ble_eq_true rfl) kX10_10 dX10_init_12 (c1 := .inr (9, [.ref (ob E (0 + 1)), .null, .null, .null, .null, .null, .null, .null, .null, .null, .null, .null])) rfl ?_
  refine zp_aload_n C 0 dX10_init_15 rfl rfl ?_
  refine zp_new (ci := 4) (fs := [.int 0, .int 0, .null, .null, .null, .null]) C iX4 tyX4_ok (zT_mem 293 (by decide +kernel) (by decide)) mtX4 miX4 rfl dfX4 (Nat.le_of_ble_eq_true rfl) (Nat.le_of_ble_eq_true rfl) dX10_init_16 ?_
  refine zp_dup C dX10_init_19 rfl ?_
  refine zq_cI (i := 29) C (c_X4_init E (0 + 29) (by decide +kernel)) rfl ⟨by decide, by decide⟩ mcX4 miX4 mmX4 (Or.inr (List.mem_filter.mpr ⟨List.contains_iff_mem.mp (by decide +kernel), rfl⟩)) rfl ⟨by decide, by decide, by decide⟩ ⟨rfl, rfl⟩ (show zfit (zrc 2 4 32 40) 1 (zrc 8 326 4325 260) = true from rfl) (Nat.le_of_ble_eq_true rfl) dX10_init_20 ⟨(Nat.le_of_ble_eq_true rfl), (Nat.le_of_ble_eq_true rfl)⟩ ?_
  refine zq_putF (ci := 9) (j := 1) (ty := tyX10 1) (fs := [.ref (ob E (0 + 1)), .null, .null, .null, .null, .null, .null, .null, .null, .null, .null, .null]) C (by decide) rfl rfl iX10 tyX10_ok nmX10 (by decide) rfl rfl hnm (tyX10_ok _ (by decide)) (by first | rfl | decide) rfl (Nat.le_of_ble_eq_true rfl) kX10_19 dX10_init_23 (c1 := .inr (9, [.ref (ob E (0 + 1)), .ref (ob E (0 + 29)), .null, .null, .null, .null, .null, .null, .null, .null, .null, .null])) rfl ?_
  refine zp_aload_n C 0 dX10_init_26 rfl rfl ?_
  refine zp_new (ci := 6) (fs := [.null, .int 0, .int 0, .int 0, .null, .null]) C iX6 tyX6_ok (zT_mem 295 (by decide +kernel) (by decide)) mtX6 miX6 rfl dfX6 (Nat.le_of_ble_eq_true rfl) (Nat.le_of_ble_eq_true rfl) dX10_init_27 ?_
  refine zp_dup C dX10_init_30 rfl ?_
  refine zq_cI (i := 34) C (c_X6_init E (0 + 34) (by decide +kernel)) rfl ⟨by decide, by decide⟩ mcX6 miX6 mmX6 (Or.inl (zT_mem 296 (by decide +kernel) (by decide))) rfl ⟨by decide, by decide, by decide⟩ ⟨rfl, rfl⟩ (show zfit (zrc 4 19 144 110) 2 (zrc 8 326 4325 260) = true from rfl) (Nat.le_of_ble_eq_true rfl) dX10_init_31 ⟨(Nat.le_of_ble_eq_true rfl), (Nat.le_of_ble_eq_true rfl)⟩ ?_
  refine zq_putF (ci := 9) (j := 2) (ty := tyX10 2) (fs := [.ref (ob E (0 + 1)), .ref (ob E (0 + 29)), .null, .null, .null, .null, .null, .null, .null, .null, .null, .null]) C (by decide) rfl rfl iX10 tyX10_ok nmX10 (by decide) rfl rfl hnm (tyX10_ok _ (by decide)) (by first | rfl | decide) rfl (Nat.le_of_ble_eq_true rfl) kX10_26 dX10_init_34 (c1 := .inr (9, [.ref (ob E (0 + 1)), .ref (ob E (0 + 29)), .ref (ob E (0 + 34)), .null, .null, .null, .null, .null, .null, .null, .null, .null])) rfl ?_
  refine zp_aload_n C 0 dX10_init_37 rfl rfl ?_
  refine zp_new (ci := 1) (fs := [.null, .int 0, .int 0, .null, .int 0]) C iX1 tyX1_ok (zT_mem 297 (by decide +kernel) (by decide)) mtX1 miX1 rfl dfX1 (Nat.le_of_ble_eq_true rfl) (Nat.le_of_ble_eq_true rfl) dX10_init_38 ?_
  refine zp_dup C dX10_init_41 rfl ?_
  refine zq_cI (i := 54) C (c_X1_init E   ) rfl ⟨by decide, by decide⟩ mcX1 miX1 mmX1 (Or.inl (zT_mem 299 (by decide +kernel) (by decide))) rfl ⟨by decide, by decide, by decide⟩ ⟨rfl, rfl⟩ (show zfit (zrc 6 261 1962 180) 2 (zrc 8 326 4325 260) = true from rfl) (Nat.le_of_ble_eq_true rfl) dX10_init_42 ⟨(Nat.le_of_ble_eq_true rfl), (Nat.le_of_ble_eq_true rfl)⟩ ?_
  refine zq_putF (ci := 9) (j := 3) (ty := tyX10 3) (fs := [.ref (ob E (0 + 1)), .ref (ob E (0 + 29)), .ref (ob E (0 + 34)), .null, .null, .null, .null, .null, .null, .null, .null, .null]) C (by decide) rfl rfl iX10 tyX10_ok nmX10 (by decide) rfl rfl hnm (tyX10_ok _ (by decide)) (by first | rfl | decide) rfl (Nat.le_of_ble_eq_true rfl) kX10_33 dX10_init_45 (c1 := .inr (9, [.ref (ob E (0 + 1)), .ref (ob E (0 + 29)), .ref (ob E (0 + 34)), .ref (ob E (0 + 54)), .null, .null, .null, .null, .null, .null, .null, .null])) rfl ?_
  refine zp_aload_n C 0 dX10_init_48 rfl rfl ?_
  refine zp_new (ci := 2) (fs := [.null, .int 0]) C iX2 tyX2_ok (zT_mem 324 (by decide +kernel) (by decide)) mtX2 miX2 rfl dfX2 (Nat.le_of_ble_eq_true rfl) (Nat.le_of_ble_eq_true rfl) dX10_init_49 ?_
  refine zp_dup C dX10_init_52 rfl ?_
  refine zq_cI (i := 316) C (c_X2_init E (0 + 316) (by decide +kernel)) rfl ⟨by decide, by decide⟩ mcX2 miX2 mmX2 (Or.inr (List.mem_filter.mpr ⟨List.contains_iff_mem.mp (by decide +kernel), rfl⟩)) rfl ⟨by decide, by decide, by decide⟩ ⟨rfl, rfl⟩ (show zfit (zrc 2 1 1024 40) 1 (zrc 8 326 4325 260) = true from rfl) (Nat.le_of_ble_eq_true rfl) dX10_init_53 ⟨(Nat.le_of_ble_eq_true rfl), (Nat.le_of_ble_eq_true rfl)⟩ ?_
  refine zq_putF (ci := 9) (j := 4) (ty := tyX10 4) (fs := [.ref (ob E (0 + 1)), .ref (ob E (0 + 29)), .ref (ob E (0 + 34)), .ref (ob E (0 + 54)), .null, .null, .null, .null, .null, .null, .null, .null]) C (by decide) rfl rfl iX10 tyX10_ok nmX10 (by decide) rfl rfl hnm (tyX10_ok _ (by decide)) (by first | rfl | decide) rfl (Nat.le_of_ble_eq_true rfl) kX10_40 dX10_init_56 (c1 := .inr (9, [.ref (ob E (0 + 1)), .ref (ob E (0 + 29)), .ref (ob E (0 + 34)), .ref (ob E (0 + 54)), .ref (ob E (0 + 316)), .null, .null, .null, .null, .null, .null, .null])) rfl ?_
  refine zp_aload_n C 0 dX10_init_59 rfl rfl ?_
  refine zp_new (ci := 0) (fs := [.null, .long 0, .long 0, .int 0, .long 0, .long 0, .int 0]) C iX0 tyX0_ok (zT_mem 339 (by decide +kernel) (by decide)) mtX0 miX0 rfl dfX0 (Nat.le_of_ble_eq_true rfl) (Nat.le_of_ble_eq_true rfl) dX10_init_60 ?_
  refine zp_dup C dX10_init_63 rfl ?_
  refine zq_cI (i := 318) C (c_X0_init E (0 + 318) (by decide +kernel)) rfl ⟨by decide, by decide⟩ mcX0 miX0 mmX0 (Or.inr (List.mem_filter.mpr ⟨List.contains_iff_mem.mp (by decide +kernel), rfl⟩)) rfl ⟨by decide, by decide, by decide⟩ ⟨rfl, rfl⟩ (show zfit (zrc 2 1 4 40) 1 (zrc 8 326 4325 260) = true from rfl) (Nat.le_of_ble_eq_true rfl) dX10_init_64 ⟨(Nat.le_of_ble_eq_true rfl), (Nat.le_of_ble_eq_true rfl)⟩ ?_
  refine zq_putF (ci := 9) (j := 5) (ty := tyX10 5) (fs := [.ref (ob E (0 + 1)), .ref (ob E (0 + 29)), .ref (ob E (0 + 34)), .ref (ob E (0 + 54)), .ref (ob E (0 + 316)), .null, .null, .null, .null, .null, .null, .null]) C (by decide) rfl rfl iX10 tyX10_ok nmX10 (by decide) rfl rfl hnm (tyX10_ok _ (by decide)) (by first | rfl | decide) rfl (Nat.le_of_ble_eq_true rfl) kX10_47 dX10_init_67 (c1 := .inr (9, [.ref (ob E (0 + 1)), .ref (ob E (0 + 29)), .ref (ob E (0 + 34)), .ref (ob E (0 + 54)), .ref (ob E (0 + 316)), .ref (ob E (0 + 318)), .null, .null, .null, .null, .null, .null])) rfl ?_
  refine zp_aload_n C 0 dX10_init_70 rfl rfl ?_
  refine zp_new (ci := 3) (fs := [.long 0, .long 0]) C iX3 tyX3_ok (zT_mem 368 (by decide +kernel) (by decide)) mtX3 miX3 rfl dfX3 (Nat.le_of_ble_eq_true rfl) (Nat.le_of_ble_eq_true rfl) dX10_init_71 ?_
  refine zp_dup C dX10_init_74 rfl ?_
  refine zq_cI (i := 320) C (c_X3_init E (0 + 320) (by decide +kernel)) rfl ⟨by decide, by decide⟩ mcX3 miX3 mmX3 (Or.inr (List.mem_filter.mpr ⟨List.contains_iff_mem.mp (by decide +kernel), rfl⟩)) rfl ⟨by decide, by decide, by decide⟩ ⟨rfl, rfl⟩ (show zfit (zrc 2 0 0 40) 1 (zrc 8 326 4325 260) = true from rfl) (Nat.le_of_ble_eq_true rfl) dX10_init_75 ⟨(Nat.le_of_ble_eq_true rfl), (Nat.le_of_ble_eq_true rfl)⟩ ?_
  refine zq_putF (ci := 9) (j := 6) (ty := tyX10 6) (fs := [.ref (ob E (0 + 1)), .ref (ob E (0 + 29)), .ref (ob E (0 + 34)), .ref (ob E (0 + 54)), .ref (ob E (0 + 316)), .ref (ob E (0 + 318)), .null, .null, .null, .null, .null, .null]) C (by decide) rfl rfl iX10 tyX10_ok nmX10 (by decide) rfl rfl hnm (tyX10_ok _ (by decide)) (by first | rfl | decide) rfl (Nat.le_of_ble_eq_true rfl) kX10_54 dX10_init_78 (c1 := .inr (9, [.ref (ob E (0 + 1)), .ref (ob E (0 + 29)), .ref (ob E (0 + 34)), .ref (ob E (0 + 54)), .ref (ob E (0 + 316)), .ref (ob E (0 + 318)), .ref (ob E (0 + 320)), .null, .null, .null, .null, .null])) rfl ?_
  refine zp_aload_n C 0 dX10_init_81 rfl rfl ?_
  refine zp_new (ci := 3) (fs := [.long 0, .long 0]) C iX3 tyX3_ok (zT_mem 368 (by decide +kernel) (by decide)) mtX3 miX3 rfl dfX3 (Nat.le_of_ble_eq_true rfl) (Nat.le_of_ble_eq_true rfl) dX10_init_82 ?_
  refine zp_dup C dX10_init_85 rfl ?_
  refine zq_cI (i := 321) C (c_X3_init E (0 + 321) (by decide +kernel)) rfl ⟨by decide, by decide⟩ mcX3 miX3 mmX3 (Or.inr (List.mem_filter.mpr ⟨List.contains_iff_mem.mp (by decide +kernel), rfl⟩)) rfl ⟨by decide, by decide, by decide⟩ ⟨rfl, rfl⟩ (show zfit (zrc 2 0 0 40) 1 (zrc 8 326 4325 260) = true from rfl) (Nat.le_of_ble_eq_true rfl) dX10_init_86 ⟨(Nat.le_of_ble_eq_true rfl), (Nat.le_of_ble_eq_true rfl)⟩ ?_
  refine zq_putF (ci := 9) (j := 7) (ty := tyX10 7) (fs := [.ref (ob E (0 + 1)), .ref (ob E (0 + 29)), .ref (ob E (0 + 34)), .ref (ob E (0 + 54)), .ref (ob E (0 + 316)), .ref (ob E (0 + 318)), .ref (ob E (0 + 320)), .null, .null, .null, .null, .null]) C (by decide) rfl rfl iX10 tyX10_ok nmX10 (by decide) rfl rfl hnm (tyX10_ok _ (by decide)) (by first | rfl | decide) rfl (Nat.le_of_ble_eq_true rfl) kX10_58 dX10_init_89 (c1 := .inr (9, [.ref (ob E (0 + 1)), .ref (ob E (0 + 29)), .ref (ob E (0 + 34)), .ref (ob E (0 + 54)), .ref (ob E (0 + 316)), .ref (ob E (0 + 318)), .ref (ob E (0 + 320)), .ref (ob E (0 + 321)), .null, .null, .null, .null])) rfl ?_
  refine zp_aload_n C 0 dX10_init_92 rfl rfl ?_
  refine zp_new (ci := 3) (fs := [.long 0, .long 0]) C iX3 tyX3_ok (zT_mem 368 (by decide +kernel) (by decide)) mtX3 miX3 rfl dfX3 (Nat.le_of_ble_eq_true rfl) (Nat.le_of_ble_eq_true rfl) dX10_init_93 ?_
  refine zp_dup C dX10_init_96 rfl ?_
  refine zq_cI (i := 322) C (c_X3_init E (0 + 322) (by decide +kernel)) rfl ⟨by decide, by decide⟩ mcX3 miX3 mmX3 (Or.inr (List.mem_filter.mpr ⟨List.contains_iff_mem.mp (by decide +kernel), rfl⟩)) rfl ⟨by decide, by decide, by decide⟩ ⟨rfl, rfl⟩ (show zfit (zrc 2 0 0 40) 1 (zrc 8 326 4325 260) = true from rfl) (Nat.le_of_ble_eq_true rfl) dX10_init_97 ⟨(Nat.le_of_ble_eq_true rfl), (Nat.le_of_ble_eq_true rfl)⟩ ?_
  refine zq_putF (ci := 9) (j := 8) (ty := tyX10 8) (fs := [.ref (ob E (0 + 1)), .ref (ob E (0 + 29)), .ref (ob E (0 + 34)), .ref (ob E (0 + 54)), .ref (ob E (0 + 316)), .ref (ob E (0 + 318)), .ref (ob E (0 + 320)), .ref (ob E (0 + 321)), .null, .null, .null, .null]) C (by decide) rfl rfl iX10 tyX10_ok nmX10 (by decide) rfl rfl hnm (tyX10_ok _ (by decide)) (by first | rfl | decide) rfl (Nat.le_of_ble_eq_true rfl) kX10_61 dX10_init_100 (c1 := .inr (9, [.ref (ob E (0 + 1)), .ref (ob E (0 + 29)), .ref (ob E (0 + 34)), .ref (ob E (0 + 54)), .ref (ob E (0 + 316)), .ref (ob E (0 + 318)), .ref (ob E (0 + 320)), .ref (ob E (0 + 321)), .ref (ob E (0 + 322)), .null, .null, .null])) rfl ?_
  refine zp_aload_n C 0 dX10_init_103 rfl rfl ?_
  refine zp_new (ci := 3) (fs := [.long 0, .long 0]) C iX3 tyX3_ok (zT_mem 368 (by decide +kernel) (by decide)) mtX3 miX3 rfl dfX3 (Nat.le_of_ble_eq_true rfl) (Nat.le_of_ble_eq_true rfl) dX10_init_104 ?_
  refine zp_dup C dX10_init_107 rfl ?_
  refine zq_cI (i := 323) C (c_X3_init E (0 + 323) (by decide +kernel)) rfl ⟨by decide, by decide⟩ mcX3 miX3 mmX3 (Or.inr (List.mem_filter.mpr ⟨List.contains_iff_mem.mp (by decide +kernel), rfl⟩)) rfl ⟨by decide, by decide, by decide⟩ ⟨rfl, rfl⟩ (show zfit (zrc 2 0 0 40) 1 (zrc 8 326 4325 260) = true from rfl) (Nat.le_of_ble_eq_true rfl) dX10_init_108 ⟨(Nat.le_of_ble_eq_true rfl), (Nat.le_of_ble_eq_true rfl)⟩ ?_
  refine zq_putF (ci := 9) (j := 9) (ty := tyX10 9) (fs := [.ref (ob E (0 + 1)), .ref (ob E (0 + 29)), .ref (ob E (0 + 34)), .ref (ob E (0 + 54)), .ref (ob E (0 + 316)), .ref (ob E (0 + 318)), .ref (ob E (0 + 320)), .ref (ob E (0 + 321)), .ref (ob E (0 + 322)), .null, .null, .null]) C (by decide) rfl rfl iX10 tyX10_ok nmX10 (by decide) rfl rfl hnm (tyX10_ok _ (by decide)) (by first | rfl | decide) rfl (Nat.le_of_ble_eq_true rfl) kX10_64 dX10_init_111 (c1 := .inr (9, [.ref (ob E (0 + 1)), .ref (ob E (0 + 29)), .ref (ob E (0 + 34)), .ref (ob E (0 + 54)), .ref (ob E (0 + 316)), .ref (ob E (0 + 318)), .ref (ob E (0 + 320)), .ref (ob E (0 + 321)), .ref (ob E (0 + 322)), .ref (ob E (0 + 323)), .null, .null])) rfl ?_
  refine zp_aload_n C 0 dX10_init_114 rfl rfl ?_
  refine zp_new (ci := 8) (fs := [.null, .int 0]) C iX8 tyX8_ok (zT_mem 385 (by decide +kernel) (by decide)) mtX8 miX8 rfl dfX8 (Nat.le_of_ble_eq_true rfl) (Nat.le_of_ble_eq_true rfl) dX10_init_115 ?_
  refine zp_dup C dX10_init_118 rfl ?_
  refine zq_cI (i := 324) C (c_X8_init E (0 + 324) (by decide +kernel)) rfl ⟨by decide, by decide⟩ mcX8 miX8 mmX8 (Or.inr (List.mem_filter.mpr ⟨List.contains_iff_mem.mp (by decide +kernel), rfl⟩)) rfl ⟨by decide, by decide, by decide⟩ ⟨rfl, rfl⟩ (show zfit (zrc 2 1 12 40) 1 (zrc 8 326 4325 260) = true from rfl) (Nat.le_of_ble_eq_true rfl) dX10_init_119 ⟨(Nat.le_of_ble_eq_true rfl), (Nat.le_of_ble_eq_true rfl)⟩ ?_
  refine zq_putF (ci := 9) (j := 10) (ty := tyX10 10) (fs := [.ref (ob E (0 + 1)), .ref (ob E (0 + 29)), .ref (ob E (0 + 34)), .ref (ob E (0 + 54)), .ref (ob E (0 + 316)), .ref (ob E (0 + 318)), .ref (ob E (0 + 320)), .ref (ob E (0 + 321)), .ref (ob E (0 + 322)), .ref (ob E (0 + 323)), .null, .null]) C (by decide) rfl rfl iX10 tyX10_ok nmX10 (by decide) rfl rfl hnm (tyX10_ok _ (by decide)) (by first | rfl | decide) rfl (Nat.le_of_ble_eq_true rfl) kX10_70 dX10_init_122 (c1 := .inr (9, [.ref (ob E (0 + 1)), .ref (ob E (0 + 29)), .ref (ob E (0 + 34)), .ref (ob E (0 + 54)), .ref (ob E (0 + 316)), .ref (ob E (0 + 318)), .ref (ob E (0 + 320)), .ref (ob E (0 + 321)), .ref (ob E (0 + 322)), .ref (ob E (0 + 323)), .ref (ob E (0 + 324)), .null])) rfl ?_
  refine zp_aload_n C 0 dX10_init_125 rfl rfl ?_
  refine zp_bipush (v := 8) C dX10_init_126 (by decide) ?_
  refine zq_newa (atype := .long) (ti := 2) (N' := 8) (x := (8, .inr (.inl (fun _ => 0)))) C rfl (zT_mem 208 (by decide +kernel) (by decide)) (fun _ => rfl) (by decide) (by decide) (by decide) (Nat.le_of_ble_eq_true rfl) (Nat.le_of_ble_eq_true rfl) dX10_init_128 ⟨by decide, by decide⟩ (zc0_13 (by decide +kernel) (by decide +kernel)) ?_
  refine zq_putF (ci := 9) (j := 11) (ty := tyX10 11) (fs := [.ref (ob E (0 + 1)), .ref (ob E (0 + 29)), .ref (ob E (0 + 34)), .ref (ob E (0 + 54)), .ref (ob E (0 + 316)), .ref (ob E (0 + 318)), .ref (ob E (0 + 320)), .ref (ob E (0 + 321)), .ref (ob E (0 + 322)), .ref (ob E (0 + 323)), .ref (ob E (0 + 324)), .null]) C (by decide) rfl rfl iX10 tyX10_ok nmX10 (by decide) rfl rfl hnm (tyX10_ok _ (by decide)) (by first | rfl | decide) rfl (Nat.le_of_ble_eq_true rfl) kX10_74 dX10_init_130 (c1 := .inr (9, [.ref (ob E (0 + 1)), .ref (ob E (0 + 29)), .ref (ob E (0 + 34)), .ref (ob E (0 + 54)), .ref (ob E (0 + 316)), .ref (ob E (0 + 318)), .ref (ob E (0 + 320)), .ref (ob E (0 + 321)), .ref (ob E (0 + 322)), .ref (ob E (0 + 323)), .ref (ob E (0 + 324)), .ref (ob E (0 + 326))])) rfl ?_
  exact zq_ret C hr dX10_init_133 (zc0_9 (k := 0 + 0) (by decide +kernel)).symm (Or.inl rfl)
