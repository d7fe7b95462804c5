theorem tk2_a {σ : zS} (hk : gI σ 2 2 = zI 2) (v : Int32) : sI (sJ σ 2 6 (zL 0)) 2 5 v = sJ (sI (sI σ 2 2 (zI 2)) 2 5 v) 2 6 (zL 0) := by
  apply zS_ext
  · intro x y
    simp only [gI_sI, gI_sJ]
    rcases Classical.em (x = 2 ∧ y = 2) with q | q
    · obtain ⟨rfl, rfl⟩ := q
      rw [if_neg (by omega), if_neg (by omega), if_pos ⟨rfl, rfl⟩]
      exact hk
    · rw [if_neg q]
  · intro x y; rfl
  · intro x y; rfl
theorem tk2_b (σ : zS) : sI (sI (sJ σ 2 6 (zL 0)) 2 5 (zI 0)) 2 2 (zI 4) = sJ (sI (sI σ 2 2 (zI 4)) 2 5 (zI 0)) 2 6 (zL 0) := by
  apply zS_ext
  · intro x y; simp only [gI_sI, gI_sJ]; grind
  · intro x y; rfl
  · intro x y; rfl
set_option maxRecDepth 20000 in
theorem c_X7_takeRun_2 {l : Launch} (hfl : l.stackTraces = false) (E : zE) (σ : zS) (tx : Nat → Int) (n b en : Nat) (hX : zTx σ tx n) (hk : gI σ 2 2 = zI 2) (hb : gI σ 2 3 = zI (b : Int)) (he : gI σ 2 4 = zI (en : Int)) (hbe : b ≤ en ∧ en ≤ n) (hw : ∀ i, i < en - b → 48 ≤ tx (b + i) ∧ tx (b + i) ≤ 57) : zRv l E yX7_takeRun cX7_takeRun 2 (zrm 0 0) [.ref (ob E 2)] σ (fun τ => τ = sJ (sI (sI σ 2 2 (zI (if en - b ≤ 7 then 2 else 4))) 2 5 (zI (if en - b ≤ 7 then (nu tx b (en - b) : Int) else 0))) 2 6 (zL 0)) := by
  refine Met.ofW (cc := cX7_takeRun) (maxL := 2) (ret := none) (by decide +kernel) rfl ?_
  intro p e s m args below meth c s₁ B hml hv
  obtain ⟨rfl, hd⟩ := hv
  have C := zX_of (own := RX7) hfl B hml rfl hd rfl
  have hr := B.returns
  refine zV_go hd (Nat.le_of_ble_eq_true rfl) (lv := [(0, .ref (ob E 2))]) rfl ?_
  have hn9 := hX.2.1
  
  refine zv_aload_n C 0 dX7_takeRun_0 rfl rfl ?_
  refine zv_lconst (v := zL 0) C dX7_takeRun_1 (by decide) ?_
  refine zP7_6 C (by decide : kd 2 = _) kX7_31 dX7_takeRun_2 ?_
  refine zv_aload_n C 0 dX7_takeRun_5 rfl rfl ?_
  refine zv_iconst (v := zI 0) C dX7_takeRun_6 rfl ?_
  refine zP7_5 C (by decide : kd 2 = _) kX7_28 dX7_takeRun_7 ?_
  refine zv_aload_n C 0 dX7_takeRun_10 rfl rfl ?_
  refine zG7_2 C (by decide : kd 2 = _) kX7_19 dX7_takeRun_11 ?_
  refine zv_eqi (y := (zI 2)) (by simp only [gI_sI, gI_sJ]; (repeat rw [if_neg (by omega)]); exact hk) ?_
  refine zv_iconst (v := zI 1) C dX7_takeRun_14 rfl ?_
  refine zv_icmp_neZ (tgt := 70) C (by omega) (by omega) dX7_takeRun_15 (by decide) (fun h15 => ?_) (fun h15 => ?_)
  · skip
    refine zv_aload_n C 0 dX7_takeRun_70 rfl rfl ?_
    refine zG7_2 C (by decide : kd 2 = _) kX7_19 dX7_takeRun_71 ?_
    refine zv_eqi (y := (zI 2)) (by simp only [gI_sI, gI_sJ]; (repeat rw [if_neg (by omega)]); exact hk) ?_
    refine zv_iconst (v := zI 2) C dX7_takeRun_74 rfl ?_
    refine zv_icmp_neZ (tgt := 97) C (by omega) (by omega) dX7_takeRun_75 (by decide) (fun h75 => ?_) (fun h75 => ?_)
    · exfalso
      omega
    · skip
      refine zv_aload_n C 0 dX7_takeRun_78 rfl rfl ?_
      refine zG7_4 C (by decide : kd 2 = _) kX7_25 dX7_takeRun_79 ?_
      refine zv_eqi (y := zI (en : Int)) (by simp only [gI_sI, gI_sJ, gJ_sI, gJ_sJ]; (repeat rw [if_neg (by omega)]); exact he) ?_
      refine zv_aload_n C 0 dX7_takeRun_82 rfl rfl ?_
      refine zG7_3 C (by decide : kd 2 = _) kX7_22 dX7_takeRun_83 ?_
      refine zv_eqi (y := zI (b : Int)) (by simp only [gI_sI, gI_sJ, gJ_sI, gJ_sJ]; (repeat rw [if_neg (by omega)]); exact hb) ?_
      refine zv_isubZ C dX7_takeRun_86 ?_
      refine zv_bipush (v := zI 7) C dX7_takeRun_87 (by decide) ?_
      refine zv_icmp_leZ (tgt := 97) C (by omega) (by omega) dX7_takeRun_89 (by decide) (fun h89 => ?_) (fun h89 => ?_)
      · skip
        refine zv_aload_n C 0 dX7_takeRun_97 rfl rfl ?_
        refine zG7_2 C (by decide : kd 2 = _) kX7_19 dX7_takeRun_98 ?_
        refine zv_eqi (y := (zI 2)) (by simp only [gI_sI, gI_sJ]; (repeat rw [if_neg (by omega)]); exact hk) ?_
        refine zv_iconst (v := zI 2) C dX7_takeRun_101 rfl ?_
        refine zv_icmp_neZ (tgt := 145) C (by omega) (by omega) dX7_takeRun_102 (by decide) (fun h102 => ?_) (fun h102 => ?_)
        · exfalso
          omega
        · skip
          refine zv_aload_n C 0 dX7_takeRun_105 rfl rfl ?_
          refine zG7_3 C (by decide : kd 2 = _) kX7_22 dX7_takeRun_106 ?_
          refine zv_eqi (y := zI (b : Int)) (by simp only [gI_sI, gI_sJ, gJ_sI, gJ_sJ]; (repeat rw [if_neg (by omega)]); exact hb) ?_
          refine zv_istore_n (lv' := [(1, .int (zI (b : Int))), (0, .ref (ob E 2))]) C dX7_takeRun_109 rfl (by decide) rfl ?_
          have q110_44 : ((b : Int) : Int) = ((b + 0 : Nat) : Int) := by first | rfl | omega
          refine zv_sub (lv' := [(0, .ref (ob E 2)), (1, .int (zI ((b + 0 : Nat) : Int)))]) [1, 0] (zcons rfl (zcons (zqI q110_44) rfl)) ?_
          refine zv_eqS (τ := (sI (sJ σ 2 6 (zL 0)) 2 5 (zI (nu tx b 0 : Int)))) (rfl) ?_
          refine zv_while (α := Nat) (fun v => en - b - v) (fun v => v ≤ en - b) (fun v => (sI (sJ σ 2 6 (zL 0)) 2 5 (zI (nu tx b v : Int)))) (fun v => [(0, .ref (ob E 2)), (1, .int (zI ((b + v : Nat) : Int)))]) (fun v => []) (fun j hI ih => ?_) (0) (by omega)
          have hnu := nu_b hw j (by omega)
          have hpw : 10 ^ j ≤ 10 ^ 7 := Nat.pow_le_pow_right (by decide) (by omega)
          refine zv_iload_n C 1 dX7_takeRun_110 rfl rfl ?_
          refine zv_aload_n C 0 dX7_takeRun_111 rfl rfl ?_
          refine zG7_4 C (by decide : kd 2 = _) kX7_25 dX7_takeRun_112 ?_
          refine zv_eqi (y := zI (en : Int)) (by simp only [gI_sI, gI_sJ, gJ_sI, gJ_sJ]; (repeat rw [if_neg (by omega)]); exact he) ?_
          refine zv_icmp_geZ (tgt := 145) C (by omega) (by omega) dX7_takeRun_115 (by decide) (fun h115 => ?_) (fun h115 => ?_)
          · skip
            exact zv_vret C hr dX7_takeRun_145 (by rw [if_pos (by omega), if_pos (by omega), show j = en - b by omega]; exact tk2_a hk _)
          · skip
            have hwj := hw j (by omega)
            refine zv_aload_n C 0 dX7_takeRun_118 rfl rfl ?_
            refine zv_aload_n C 0 dX7_takeRun_119 rfl rfl ?_
            refine zG7_5 C (by decide : kd 2 = _) kX7_28 dX7_takeRun_120 ?_
            refine zv_eqi (y := (zI (nu tx b j : Int))) (by rw [gI_sI, if_pos ⟨rfl, rfl⟩]) ?_
            refine zv_bipush (v := zI 10) C dX7_takeRun_123 (by decide) ?_
            refine zv_imulZ C dX7_takeRun_125 ?_
            refine zv_aload_n C 0 dX7_takeRun_126 rfl rfl ?_
            refine zG7_0 C (by decide : kd 2 = _) kX7_9 dX7_takeRun_127 ?_
            refine zv_iload_n C 1 dX7_takeRun_130 rfl rfl ?_
            refine zv_bald (j := b + j) C (by decide : kd 3 = _) (zI_ix rfl) (Nat.lt_of_lt_of_le (by omega) (by decide : 900 ≤ zlen 3)) dX7_takeRun_131 ?_
            refine zv_eqi (y := (zI (tx (b + j)))) ((by simp only [gI_sI, gI_sJ]; (repeat rw [if_neg (by omega)]); exact hX.2.2.1 _ (by omega))) ?_
            refine zv_iaddZ C dX7_takeRun_132 ?_
            refine zv_bipush (v := zI 48) C dX7_takeRun_133 (by decide) ?_
            refine zv_isubZ C dX7_takeRun_135 ?_
            refine zv_eqi (y := (zI (nu tx b (j + 1) : Int))) (congrArg zI (by show _ = ((nu tx b j * 10 + (tx (b + j) - 48).toNat : Nat) : Int); omega)) ?_
            refine zP7_5 C (by decide : kd 2 = _) kX7_28 dX7_takeRun_136 ?_
            refine zv_iinc (v := (zI (((b + j : Nat) : Int) + 1))) (lv' := [(1, .int (zI (((b + j : Nat) : Int) + 1))), (0, .ref (ob E 2))]) C 1 dX7_takeRun_139 rfl (zI_add _ _) (by decide) rfl ?_
            refine zv_goto (tgt := 110) C dX7_takeRun_142 (by decide) ?_
            have q110_77 : (((b + j : Nat) : Int) + 1 : Int) = ((b + (j + 1) : Nat) : Int) := by first | rfl | omega
            refine zv_sub (lv' := [(0, .ref (ob E 2)), (1, .int (zI ((b + (j + 1) : Nat) : Int)))]) [1, 0] (zcons rfl (zcons (zqI q110_77) rfl)) ?_
            refine zv_eqS (τ := (sI (sJ σ 2 6 (zL 0)) 2 5 (zI (nu tx b (j + 1) : Int)))) (by rw [sI_o]) ?_
            exact ih (j + 1) (by omega) (by omega)
      · skip
        refine zv_aload_n C 0 dX7_takeRun_92 rfl rfl ?_
        refine zv_iconst (v := zI 4) C dX7_takeRun_93 rfl ?_
        refine zP7_2 C (by decide : kd 2 = _) kX7_19 dX7_takeRun_94 ?_
        refine zv_aload_n C 0 dX7_takeRun_97 rfl rfl ?_
        refine zG7_2 C (by decide : kd 2 = _) kX7_19 dX7_takeRun_98 ?_
        refine zv_eqi (y := (zI 4)) (by rw [gI_sI, if_pos ⟨rfl, rfl⟩]) ?_
        refine zv_iconst (v := zI 2) C dX7_takeRun_101 rfl ?_
        refine zv_icmp_neZ (tgt := 145) C (by omega) (by omega) dX7_takeRun_102 (by decide) (fun h102 => ?_) (fun h102 => ?_)
        · skip
          exact zv_vret C hr dX7_takeRun_145 (by rw [if_neg (by omega), if_neg (by omega)]; exact tk2_b σ)
        · exfalso
          omega
  · exfalso
    omega
