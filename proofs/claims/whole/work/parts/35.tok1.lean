set_option maxRecDepth 20000 in
theorem c_X7_takeRun_1 {l : Launch} (hfl : l.stackTraces = false) (E : zE) (σ : zS) (tx : Nat → Int) (n b en : Nat) (hX : zTx σ tx n) (hk : gI σ 2 2 = zI 1) (hb : gI σ 2 3 = zI (b : Int)) (he : gI σ 2 4 = zI (en : Int)) (hbe : b ≤ en ∧ en ≤ n) (hw : ∀ i, i < en - b → 97 ≤ tx (b + i) ∧ tx (b + i) ≤ 122) : zRv l E yX7_takeRun cX7_takeRun 2 (zrm 0 0) [.ref (ob E 2)] σ (fun τ => τ = sJ (sI σ 2 5 (zI 0)) 2 6 (zL (if en - b ≤ 8 then (pk tx b (en - b) : Int) else 0))) := by
  refine Met.ofW (cc := cX7_takeRun) (maxL := 2) (ret := none) (by decide +kernel) rfl ?_
  intro p e s m args below meth c s₁ B hml hv
  obtain ⟨rfl, hd⟩ := hv
  have C := zX_of (own := RX7) hfl B hml rfl hd rfl
  have hr := B.returns
  refine zV_go hd (Nat.le_of_ble_eq_true rfl) (lv := [(0, .ref (ob E 2))]) rfl ?_
  have hn9 := hX.2.1
  
  refine zv_aload_n C 0 dX7_takeRun_0 rfl rfl ?_
  refine zv_lconst (v := zL 0) C dX7_takeRun_1 (by decide) ?_
  refine zP7_6 C (by decide : kd 2 = _) kX7_31 dX7_takeRun_2 ?_
  refine zv_aload_n C 0 dX7_takeRun_5 rfl rfl ?_
  refine zv_iconst (v := zI 0) C dX7_takeRun_6 rfl ?_
  refine zP7_5 C (by decide : kd 2 = _) kX7_28 dX7_takeRun_7 ?_
  refine zv_aload_n C 0 dX7_takeRun_10 rfl rfl ?_
  refine zG7_2 C (by decide : kd 2 = _) kX7_19 dX7_takeRun_11 ?_
  refine zv_eqi (y := zI 1) (by simp only [gI_sI, gI_sJ, gJ_sI, gJ_sJ]; (repeat rw [if_neg (by omega)]); exact hk) ?_
  refine zv_iconst (v := zI 1) C dX7_takeRun_14 rfl ?_
  refine zv_icmp_neZ (tgt := 70) C (by omega) (by omega) dX7_takeRun_15 (by decide) (fun h15 => ?_) (fun h15 => ?_)
  · exfalso
    omega
  · skip
    refine zv_aload_n C 0 dX7_takeRun_18 rfl rfl ?_
    refine zG7_4 C (by decide : kd 2 = _) kX7_25 dX7_takeRun_19 ?_
    refine zv_eqi (y := zI (en : Int)) (by simp only [gI_sI, gI_sJ, gJ_sI, gJ_sJ]; (repeat rw [if_neg (by omega)]); exact he) ?_
    refine zv_aload_n C 0 dX7_takeRun_22 rfl rfl ?_
    refine zG7_3 C (by decide : kd 2 = _) kX7_22 dX7_takeRun_23 ?_
    refine zv_eqi (y := zI (b : Int)) (by simp only [gI_sI, gI_sJ, gJ_sI, gJ_sJ]; (repeat rw [if_neg (by omega)]); exact hb) ?_
    refine zv_isubZ C dX7_takeRun_26 ?_
    refine zv_bipush (v := zI 8) C dX7_takeRun_27 (by decide) ?_
    refine zv_icmp_gtZ (tgt := 70) C (by omega) (by omega) dX7_takeRun_29 (by decide) (fun h29 => ?_) (fun h29 => ?_)
    · skip
      refine zv_aload_n C 0 dX7_takeRun_70 rfl rfl ?_
      refine zG7_2 C (by decide : kd 2 = _) kX7_19 dX7_takeRun_71 ?_
      refine zv_eqi (y := zI 1) (by simp only [gI_sI, gI_sJ, gJ_sI, gJ_sJ]; (repeat rw [if_neg (by omega)]); exact hk) ?_
      refine zv_iconst (v := zI 2) C dX7_takeRun_74 rfl ?_
      refine zv_icmp_neZ (tgt := 97) C (by omega) (by omega) dX7_takeRun_75 (by decide) (fun h75 => ?_) (fun h75 => ?_)
      · skip
        refine zv_aload_n C 0 dX7_takeRun_97 rfl rfl ?_
        refine zG7_2 C (by decide : kd 2 = _) kX7_19 dX7_takeRun_98 ?_
        refine zv_eqi (y := zI 1) (by simp only [gI_sI, gI_sJ, gJ_sI, gJ_sJ]; (repeat rw [if_neg (by omega)]); exact hk) ?_
        refine zv_iconst (v := zI 2) C dX7_takeRun_101 rfl ?_
        refine zv_icmp_neZ (tgt := 145) C (by omega) (by omega) dX7_takeRun_102 (by decide) (fun h102 => ?_) (fun h102 => ?_)
        · skip
          exact zv_vret C hr dX7_takeRun_145 (by first | (rw [if_pos (by omega), show j = en - b by omega]) | (rw [if_neg (by omega)]; rfl))
        · exfalso
          omega
      · exfalso
        omega
    · skip
      refine zv_aload_n C 0 dX7_takeRun_32 rfl rfl ?_
      refine zG7_3 C (by decide : kd 2 = _) kX7_22 dX7_takeRun_33 ?_
      refine zv_eqi (y := zI (b : Int)) (by simp only [gI_sI, gI_sJ, gJ_sI, gJ_sJ]; (repeat rw [if_neg (by omega)]); exact hb) ?_
      refine zv_istore_n (lv' := [(1, .int (zI (b : Int))), (0, .ref (ob E 2))]) C dX7_takeRun_36 rfl (by decide) rfl ?_
      have q37_48 : ((b : Int) : Int) = ((b + 0 : Nat) : Int) := by first | rfl | omega
      refine zv_sub (lv' := [(0, .ref (ob E 2)), (1, .int (zI ((b + 0 : Nat) : Int)))]) [1, 0] (zcons rfl (zcons (zqI q37_48) rfl)) ?_
      refine zv_eqS (τ := (sJ (sI σ 2 5 (zI 0)) 2 6 (zL (pk tx b 0 : Int)))) (rfl) ?_
      refine zv_while (α := Nat) (fun v => en - b - v) (fun v => v ≤ en - b) (fun v => (sJ (sI σ 2 5 (zI 0)) 2 6 (zL (pk tx b v : Int)))) (fun v => [(0, .ref (ob E 2)), (1, .int (zI ((b + v : Nat) : Int)))]) (fun v => []) (fun j hI ih => ?_) (0) (by omega)
      have hpk := pk_b hw j (by omega)
      refine zv_iload_n C 1 dX7_takeRun_37 rfl rfl ?_
      refine zv_aload_n C 0 dX7_takeRun_38 rfl rfl ?_
      refine zG7_4 C (by decide : kd 2 = _) kX7_25 dX7_takeRun_39 ?_
      refine zv_eqi (y := zI (en : Int)) (by simp only [gI_sI, gI_sJ, gJ_sI, gJ_sJ]; (repeat rw [if_neg (by omega)]); exact he) ?_
      refine zv_icmp_geZ (tgt := 70) C (by omega) (by omega) dX7_takeRun_42 (by decide) (fun h42 => ?_) (fun h42 => ?_)
      · skip
        refine zv_aload_n C 0 dX7_takeRun_70 rfl rfl ?_
        refine zG7_2 C (by decide : kd 2 = _) kX7_19 dX7_takeRun_71 ?_
        refine zv_eqi (y := zI 1) (by simp only [gI_sI, gI_sJ, gJ_sI, gJ_sJ]; (repeat rw [if_neg (by omega)]); exact hk) ?_
        refine zv_iconst (v := zI 2) C dX7_takeRun_74 rfl ?_
        refine zv_icmp_neZ (tgt := 97) C (by omega) (by omega) dX7_takeRun_75 (by decide) (fun h75 => ?_) (fun h75 => ?_)
        · skip
          refine zv_aload_n C 0 dX7_takeRun_97 rfl rfl ?_
          refine zG7_2 C (by decide : kd 2 = _) kX7_19 dX7_takeRun_98 ?_
          refine zv_eqi (y := zI 1) (by simp only [gI_sI, gI_sJ, gJ_sI, gJ_sJ]; (repeat rw [if_neg (by omega)]); exact hk) ?_
          refine zv_iconst (v := zI 2) C dX7_takeRun_101 rfl ?_
          refine zv_icmp_neZ (tgt := 145) C (by omega) (by omega) dX7_takeRun_102 (by decide) (fun h102 => ?_) (fun h102 => ?_)
          · skip
            exact zv_vret C hr dX7_takeRun_145 (by first | (rw [if_pos (by omega), show j = en - b by omega]) | (rw [if_neg (by omega)]; rfl))
          · exfalso
            omega
        · exfalso
          omega
      · skip
        have hwj := hw j (by omega)
        have hpw : 256 ^ (j - 1) ≤ 256 ^ 6 := Nat.pow_le_pow_right (by decide) (by omega)
        have hpa : pk tx b j < 2 ^ 55 := by
          rcases hpk with q | q
          · omega
          · subst q; show 0 < 2 ^ 55; decide
        refine zv_aload_n C 0 dX7_takeRun_45 rfl rfl ?_
        refine zv_aload_n C 0 dX7_takeRun_46 rfl rfl ?_
        refine zG7_6 C (by decide : kd 2 = _) kX7_31 dX7_takeRun_47 ?_
        refine zv_eql (y := (zL (pk tx b j : Int))) (by rw [gJ_sJ, if_pos ⟨rfl, rfl⟩]) ?_
        refine zv_bipush (v := zI 8) C dX7_takeRun_50 (by decide) ?_
        refine zv_lshl C dX7_takeRun_52 ?_
        refine zv_aload_n C 0 dX7_takeRun_53 rfl rfl ?_
        refine zG7_0 C (by decide : kd 2 = _) kX7_9 dX7_takeRun_54 ?_
        refine zv_iload_n C 1 dX7_takeRun_57 rfl rfl ?_
        refine zv_bald (j := b + j) C (by decide : kd 3 = _) (zI_ix rfl) (Nat.lt_of_lt_of_le (by omega) (by decide : 900 ≤ zlen 3)) dX7_takeRun_58 ?_
        refine zv_eqi (y := (zI ((tx (b + j)).toNat : Int))) ((by simp only [gI_sI, gI_sJ]; (repeat rw [if_neg (by omega)]); rw [hX.2.2.1 _ (by omega)]; exact congrArg zI (by omega))) ?_
        refine zv_i2lZ C (by omega) dX7_takeRun_59 ?_
        refine zv_lor C dX7_takeRun_60 ?_
        refine zv_eql (y := (zL (pk tx b (j + 1) : Int))) (zL_sh8 hpa (by omega)) ?_
        refine zP7_6 C (by decide : kd 2 = _) kX7_31 dX7_takeRun_61 ?_
        refine zv_iinc (v := (zI (((b + j : Nat) : Int) + 1))) (lv' := [(1, .int (zI (((b + j : Nat) : Int) + 1))), (0, .ref (ob E 2))]) C 1 dX7_takeRun_64 rfl (zI_add _ _) (by decide) rfl ?_
        refine zv_goto (tgt := 37) C dX7_takeRun_67 (by decide) ?_
        have q37_100 : (((b + j : Nat) : Int) + 1 : Int) = ((b + (j + 1) : Nat) : Int) := by first | rfl | omega
        refine zv_sub (lv' := [(0, .ref (ob E 2)), (1, .int (zI ((b + (j + 1) : Nat) : Int)))]) [1, 0] (zcons rfl (zcons (zqI q37_100) rfl)) ?_
        refine zv_eqS (τ := (sJ (sI σ 2 5 (zI 0)) 2 6 (zL (pk tx b (j + 1) : Int)))) (by rw [sJ_o]) ?_
        exact ih (j + 1) (by omega) (by omega)
