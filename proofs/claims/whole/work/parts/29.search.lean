/-- the search's best: over, under, sum and the four wheels -/
abbrev gB := Option (Nat × Nat × Nat × Nat × Nat × Nat × Nat)
def gOv (t1 b1 a b a2 b2 : Nat) : Nat := (((a * a2 * b1 : Nat) : Int) - ((b * b2 * t1 : Nat) : Int)).natAbs
def gBet (g : gB) (OV UN SM : Nat) : Bool := match g with
  | none => true
  | some (ov, un, sm, _) => decide (fCmp OV UN ov un < 0 ∨ (fCmp OV UN ov un = 0 ∧ SM < sm))
def gNew (t1 b1 : Nat) (g : gB) (a b a2 b2 : Nat) : gB :=
  if gBet g (gOv t1 b1 a b a2 b2) (b * b2) (a + b + a2 + b2) then some (gOv t1 b1 a b a2 b2, b * b2, a + b + a2 + b2, a, b, a2, b2) else g
def gSet (σ : zS) (ov un sm a b a2 b2 : Nat) : zS := sI (sI (sI (sI (sI (sJ (sJ (sI σ 318 3 (zI 1)) 318 4 (zL (ov : Int))) 318 5 (zL (un : Int))) 318 6 (zI (sm : Int))) 319 0 (zI (a : Int))) 319 1 (zI (b : Int))) 319 2 (zI (a2 : Int))) 319 3 (zI (b2 : Int))
def gW (σ : zS) : gB → zS
  | none => σ
  | some (ov, un, sm, a, b, a2, b2) => gSet σ ov un sm a b a2 b2
/-- what holds of a best -/
def gOk : gB → Prop
  | none => True
  | some (ov, un, sm, _) => ov < 2 ^ 63 ∧ 0 < un ∧ un < 2 ^ 63 ∧ sm ≤ 400
theorem gSet_2 (σ : zS) (ov un sm a b a2 b2 ov' un' sm' c d c2 d2 : Nat) : gSet (gSet σ ov un sm a b a2 b2) ov' un' sm' c d c2 d2 = gSet σ ov' un' sm' c d c2 d2 := by
  apply zS_ext
  · intro x j; simp only [gSet, gI_sI, gI_sJ]; grind
  · intro x j; simp only [gSet, gJ_sI, gJ_sJ]; grind
  · intro x j; rfl
theorem gI_gSet (σ : zS) (ov un sm a b a2 b2 x j : Nat) (h : x ≠ 318 ∧ x ≠ 319) : gI (gSet σ ov un sm a b a2 b2) x j = gI σ x j := by
  simp only [gSet, gI_sI, gI_sJ]; grind
theorem gJ_gSet (σ : zS) (ov un sm a b a2 b2 x j : Nat) (h : x ≠ 318 ∨ j ≤ 3) : gJ (gSet σ ov un sm a b a2 b2) x j = gJ σ x j := by
  simp only [gSet, gJ_sI, gJ_sJ]; grind
theorem gI_gW (σ : zS) (g : gB) (x j : Nat) (h : x ≠ 318 ∧ x ≠ 319) : gI (gW σ g) x j = gI σ x j := by
  cases g with
  | none => rfl
  | some q => exact gI_gSet _ _ _ _ _ _ _ _ _ _ h
theorem gJ_gW (σ : zS) (g : gB) (x j : Nat) (h : x ≠ 318 ∨ j ≤ 3) : gJ (gW σ g) x j = gJ σ x j := by
  cases g with
  | none => rfl
  | some q => exact gJ_gSet _ _ _ _ _ _ _ _ _ _ h
theorem g_mul {a b t : Nat} (ha : a ≤ 100) (hb : b ≤ 100) (ht : t < 2 ^ 48) : a * b ≤ 10000 ∧ a * b * t < 2 ^ 62 := by
  have h1 : a * b ≤ 100 * 100 := Nat.mul_le_mul ha hb
  have h2 : a * b * t ≤ 10000 * 2 ^ 48 := Nat.mul_le_mul (by omega) (by omega)
  omega
theorem fCmp_b (a b c d : Nat) : -1 ≤ fCmp a b c d ∧ fCmp a b c d ≤ 1 := by
  unfold fCmp
  split
  · omega
  · split <;> omega
set_option maxRecDepth 20000 in
theorem c_X0_weigh_1 {l : Launch} (hfl : l.stackTraces = false) (E : zE) (σ : zS) (t1 b1 a b a2 b2 : Nat) (ov un sm : Nat) (hT : gJ σ 318 1 = zL (t1 : Int)) (hB : gJ σ 318 2 = zL (b1 : Int)) (ht1 : t1 < 2 ^ 48) (hb1 : b1 < 2 ^ 48) (ha : a ≤ 100) (hb : 1 ≤ b ∧ b ≤ 100) (ha2 : a2 ≤ 100) (hb2 : 1 ≤ b2 ∧ b2 ≤ 100) (hf : gI σ 318 3 = zI 1) (hov : gJ σ 318 4 = zL (ov : Int)) (hun : gJ σ 318 5 = zL (un : Int)) (hsm : gI σ 318 6 = zI (sm : Int)) (ho : ov < 2 ^ 63) (hu : 0 < un ∧ un < 2 ^ 63) (hs4 : sm ≤ 400) : zRv l E yX0_weigh cX0_weigh 11 (zrm 2 64) [.ref (ob E 318), .int (zI (a : Int)), .int (zI (b : Int)), .int (zI (a2 : Int)), .int (zI (b2 : Int))] σ (fun τ => τ = if fCmp (gOv t1 b1 a b a2 b2) (b * b2) ov un < 0 ∨ (fCmp (gOv t1 b1 a b a2 b2) (b * b2) ov un = 0 ∧ a + b + a2 + b2 < sm) then gSet σ (gOv t1 b1 a b a2 b2) (b * b2) (a + b + a2 + b2) a b a2 b2 else σ) := by
  refine Met.ofW (cc := cX0_weigh) (maxL := 11) (ret := none) (by decide +kernel) rfl ?_
  intro p e s m args below meth c s₁ B hml hv
  obtain ⟨rfl, hd⟩ := hv
  have C := zX_of (own := RX0) hfl B hml rfl hd rfl
  have hr := B.returns
  refine zV_go hd (Nat.le_of_ble_eq_true rfl) (lv := [(0, .ref (ob E 318)), (1, .int (zI (a : Int))), (2, .int (zI (b : Int))), (3, .int (zI (a2 : Int))), (4, .int (zI (b2 : Int)))]) rfl ?_
  obtain ⟨g1, g2⟩ := g_mul (t := b1) ha ha2 hb1
  obtain ⟨g3, g4⟩ := g_mul (t := t1) hb.2 hb2.2 ht1
  have g5 : 1 * 1 ≤ b * b2 := Nat.mul_le_mul hb.1 hb2.1
  have hOV : gOv t1 b1 a b a2 b2 < 2 ^ 63 := by unfold gOv; omega
  have hfb := fCmp_b (gOv t1 b1 a b a2 b2) (b * b2) ov un
  refine zv_iload_n C 2 dX0_weigh_0 rfl rfl ?_
  refine zv_i2lZ C (by omega) dX0_weigh_1 ?_
  refine zv_iload C 4 dX0_weigh_2 rfl ?_
  refine zv_i2lZ C (by omega) dX0_weigh_4 ?_
  refine zv_lmulZ C dX0_weigh_5 ?_
  refine zv_eql (y := (zL ((b * b2 : Nat) : Int))) (by rw [Int.natCast_mul]) ?_
  refine zv_lstore (lv' := [(5, .long (zL ((b * b2 : Nat) : Int))), (0, .ref (ob E 318)), (1, .int (zI (a : Int))), (2, .int (zI (b : Int))), (3, .int (zI (a2 : Int))), (4, .int (zI (b2 : Int)))]) C dX0_weigh_6  (by decide) rfl ?_
  refine zv_iload_n C 2 dX0_weigh_8 rfl rfl ?_
  refine zv_i2lZ C (by omega) dX0_weigh_9 ?_
  refine zv_iload_n C 4 dX0_weigh_10 rfl rfl ?_
  refine zv_i2lZ C (by omega) dX0_weigh_11 ?_
  refine zv_lmulZ C dX0_weigh_12 ?_
  refine zv_eql (y := (zL ((a * a2 : Nat) : Int))) (by rw [Int.natCast_mul]) ?_
  refine zv_aload_n C 1 dX0_weigh_13 rfl rfl ?_
  refine zG0_2 C (by decide : kd 318 = _) kX0_17 dX0_weigh_14 ?_
  refine zv_eql (y := zL (b1 : Int)) (hB) ?_
  refine zv_lmulZ C dX0_weigh_17 ?_
  refine zv_eql (y := (zL ((a * a2 * b1 : Nat) : Int))) (by rw [Int.natCast_mul (a * a2)]) ?_
  refine zv_lload C 0 dX0_weigh_18 rfl ?_
  refine zv_aload_n C 1 dX0_weigh_20 rfl rfl ?_
  refine zG0_1 C (by decide : kd 318 = _) kX0_13 dX0_weigh_21 ?_
  refine zv_eql (y := zL (t1 : Int)) (hT) ?_
  refine zv_lmulZ C dX0_weigh_24 ?_
  refine zv_eql (y := (zL ((b * b2 * t1 : Nat) : Int))) (by rw [Int.natCast_mul (b * b2)]) ?_
  refine zv_lsubZ C dX0_weigh_25 ?_
  refine zv_cslD (st := []) C (c_J9_abs_067f4 hfl E σ (((a * a2 * b1 : Nat) : Int) - ((b * b2 * t1 : Nat) : Int)) (by omega)) mJ9_abs_067f4 kX0_39 rfl ⟨rfl, rfl⟩ (show zfit (zrm 0 0) 2 (zrm 2 64) = true from rfl) (Nat.le_of_ble_eq_true rfl) dX0_weigh_26 ⟨Nat.zero_le _, Nat.zero_le _⟩ ?_
  refine zv_eql (y := (zL (gOv t1 b1 a b a2 b2 : Int))) (rfl) ?_
  refine zv_lstore (lv' := [(7, .long (zL (gOv t1 b1 a b a2 b2 : Int))), (5, .long (zL ((b * b2 : Nat) : Int))), (0, .ref (ob E 318)), (1, .int (zI (a : Int))), (2, .int (zI (b : Int))), (3, .int (zI (a2 : Int))), (4, .int (zI (b2 : Int)))]) C dX0_weigh_29  (by decide) rfl ?_
  refine zv_iload_n C 3 dX0_weigh_31 rfl rfl ?_
  refine zv_iload_n C 4 dX0_weigh_32 rfl rfl ?_
  refine zv_iaddZ C dX0_weigh_33 ?_
  refine zv_iload_n C 5 dX0_weigh_34 rfl rfl ?_
  refine zv_iaddZ C dX0_weigh_35 ?_
  refine zv_iload C 6 dX0_weigh_36 rfl ?_
  refine zv_iaddZ C dX0_weigh_38 ?_
  refine zv_eqi (y := (zI ((a + b + a2 + b2 : Nat) : Int))) (congrArg zI (by omega)) ?_
  refine zv_istore (lv' := [(9, .int (zI ((a + b + a2 + b2 : Nat) : Int))), (7, .long (zL (gOv t1 b1 a b a2 b2 : Int))), (5, .long (zL ((b * b2 : Nat) : Int))), (0, .ref (ob E 318)), (1, .int (zI (a : Int))), (2, .int (zI (b : Int))), (3, .int (zI (a2 : Int))), (4, .int (zI (b2 : Int)))]) C dX0_weigh_39  (by decide) rfl ?_
  refine zv_aload_n C 3 dX0_weigh_41 rfl rfl ?_
  refine zG0_3 C (by decide : kd 318 = _) kX0_20 dX0_weigh_42 ?_
  refine zv_eqi (y := zI 1) (hf) ?_
  refine zv_if_eqZ (tgt := 66) C (by omega) dX0_weigh_45 (by decide) (fun h45 => absurd h45 (by decide)) (fun h45 => ?_)
  refine zv_lload C 1 dX0_weigh_48 rfl ?_
  refine zv_lload C 2 dX0_weigh_50 rfl ?_
  refine zv_aload_n C 3 dX0_weigh_52 rfl rfl ?_
  refine zG0_4 C (by decide : kd 318 = _) kX0_24 dX0_weigh_53 ?_
  refine zv_eql (y := zL (ov : Int)) (hov) ?_
  refine zv_aload_n C 3 dX0_weigh_56 rfl rfl ?_
  refine zG0_5 C (by decide : kd 318 = _) kX0_27 dX0_weigh_57 ?_
  refine zv_eql (y := zL (un : Int)) (hun) ?_
  refine zv_csiD (st := []) C (c_X3_order hfl E σ (gOv t1 b1 a b a2 b2) (b * b2) ov un hOV (by omega) ho (by omega)) mX3_order kX0_68 rfl ⟨rfl, rfl⟩ (show zfit (zrm 1 23) 22 (zrm 2 64) = true from rfl) (Nat.le_of_ble_eq_true rfl) dX0_weigh_60 ⟨Nat.zero_le _, Nat.zero_le _⟩ ?_
  refine zv_goto (tgt := 67) C dX0_weigh_63 (by decide) ?_
  refine zv_istore (lv' := [(10, .int (zI (fCmp (gOv t1 b1 a b a2 b2) (b * b2) ov un))), (9, .int (zI ((a + b + a2 + b2 : Nat) : Int))), (7, .long (zL (gOv t1 b1 a b a2 b2 : Int))), (5, .long (zL ((b * b2 : Nat) : Int))), (0, .ref (ob E 318)), (1, .int (zI (a : Int))), (2, .int (zI (b : Int))), (3, .int (zI (a2 : Int))), (4, .int (zI (b2 : Int)))]) C dX0_weigh_67  (by decide) rfl ?_
  refine zv_iload C 0 dX0_weigh_69 rfl ?_
  refine zv_if_ltZ (tgt := 88) C (by omega) dX0_weigh_71 (by decide) (fun h71 => ?_) (fun h71 => ?_)
  · skip
    refine zv_aload_n C 4 dX0_weigh_88 rfl rfl ?_
    refine zv_iconst (v := zI 1) C dX0_weigh_89 rfl ?_
    refine zP0_3 C (by decide : kd 318 = _) (Or.inr rfl) kX0_20 dX0_weigh_90 ?_
    refine zv_aload_n C 4 dX0_weigh_93 rfl rfl ?_
    refine zv_lload C 2 dX0_weigh_94 rfl ?_
    refine zP0_4 C (by decide : kd 318 = _) kX0_24 dX0_weigh_96 ?_
    refine zv_aload_n C 4 dX0_weigh_99 rfl rfl ?_
    refine zv_lload C 3 dX0_weigh_100 rfl ?_
    refine zP0_5 C (by decide : kd 318 = _) kX0_27 dX0_weigh_102 ?_
    refine zv_aload_n C 4 dX0_weigh_105 rfl rfl ?_
    refine zv_iload C 1 dX0_weigh_106 rfl ?_
    refine zP0_6 C (by decide : kd 318 = _) kX0_30 dX0_weigh_108 ?_
    refine zv_aload_n C 4 dX0_weigh_111 rfl rfl ?_
    refine zG0_0 C (by decide : kd 318 = _) kX0_7 dX0_weigh_112 ?_
    refine zv_iconst (v := zI 0) C dX0_weigh_115 rfl ?_
    refine zv_iload_n C 5 dX0_weigh_116 rfl rfl ?_
    refine zv_iast (j := 0) C (by decide : kd 319 = _) (zI_ix (by omega)) (by decide) dX0_weigh_117 ?_
    refine zv_aload_n C 4 dX0_weigh_118 rfl rfl ?_
    refine zG0_0 C (by decide : kd 318 = _) kX0_7 dX0_weigh_119 ?_
    refine zv_iconst (v := zI 1) C dX0_weigh_122 rfl ?_
    refine zv_iload_n C 6 dX0_weigh_123 rfl rfl ?_
    refine zv_iast (j := 1) C (by decide : kd 319 = _) (zI_ix (by omega)) (by decide) dX0_weigh_124 ?_
    refine zv_aload_n C 4 dX0_weigh_125 rfl rfl ?_
    refine zG0_0 C (by decide : kd 318 = _) kX0_7 dX0_weigh_126 ?_
    refine zv_iconst (v := zI 2) C dX0_weigh_129 rfl ?_
    refine zv_iload_n C 7 dX0_weigh_130 rfl rfl ?_
    refine zv_iast (j := 2) C (by decide : kd 319 = _) (zI_ix (by omega)) (by decide) dX0_weigh_131 ?_
    refine zv_aload_n C 4 dX0_weigh_132 rfl rfl ?_
    refine zG0_0 C (by decide : kd 318 = _) kX0_7 dX0_weigh_133 ?_
    refine zv_iconst (v := zI 3) C dX0_weigh_136 rfl ?_
    refine zv_iload C 8 dX0_weigh_137 rfl ?_
    refine zv_iast (j := 3) C (by decide : kd 319 = _) (zI_ix (by omega)) (by decide) dX0_weigh_139 ?_
    exact zv_vret C hr dX0_weigh_140 (by first | (rw [if_pos (by omega)]; rfl) | (rw [if_neg (by omega)]))
  · skip
    refine zv_iload C 0 dX0_weigh_74 rfl ?_
    refine zv_if_neZ (tgt := 140) C (by omega) dX0_weigh_76 (by decide) (fun h76 => ?_) (fun h76 => ?_)
    · skip
      exact zv_vret C hr dX0_weigh_140 (by first | (rw [if_pos (by omega)]; rfl) | (rw [if_neg (by omega)]))
    · skip
      refine zv_iload C 1 dX0_weigh_79 rfl ?_
      refine zv_aload_n C 4 dX0_weigh_81 rfl rfl ?_
      refine zG0_6 C (by decide : kd 318 = _) kX0_30 dX0_weigh_82 ?_
      refine zv_eqi (y := zI (sm : Int)) (hsm) ?_
      refine zv_icmp_geZ (tgt := 140) C (by omega) (by omega) dX0_weigh_85 (by decide) (fun h85 => ?_) (fun h85 => ?_)
      · skip
        exact zv_vret C hr dX0_weigh_140 (by first | (rw [if_pos (by omega)]; rfl) | (rw [if_neg (by omega)]))
      · skip
        refine zv_aload_n C 4 dX0_weigh_88 rfl rfl ?_
        refine zv_iconst (v := zI 1) C dX0_weigh_89 rfl ?_
        refine zP0_3 C (by decide : kd 318 = _) (Or.inr rfl) kX0_20 dX0_weigh_90 ?_
        refine zv_aload_n C 4 dX0_weigh_93 rfl rfl ?_
        refine zv_lload C 2 dX0_weigh_94 rfl ?_
        refine zP0_4 C (by decide : kd 318 = _) kX0_24 dX0_weigh_96 ?_
        refine zv_aload_n C 4 dX0_weigh_99 rfl rfl ?_
        refine zv_lload C 3 dX0_weigh_100 rfl ?_
        refine zP0_5 C (by decide : kd 318 = _) kX0_27 dX0_weigh_102 ?_
        refine zv_aload_n C 4 dX0_weigh_105 rfl rfl ?_
        refine zv_iload C 1 dX0_weigh_106 rfl ?_
        refine zP0_6 C (by decide : kd 318 = _) kX0_30 dX0_weigh_108 ?_
        refine zv_aload_n C 4 dX0_weigh_111 rfl rfl ?_
        refine zG0_0 C (by decide : kd 318 = _) kX0_7 dX0_weigh_112 ?_
        refine zv_iconst (v := zI 0) C dX0_weigh_115 rfl ?_
        refine zv_iload_n C 5 dX0_weigh_116 rfl rfl ?_
        refine zv_iast (j := 0) C (by decide : kd 319 = _) (zI_ix (by omega)) (by decide) dX0_weigh_117 ?_
        refine zv_aload_n C 4 dX0_weigh_118 rfl rfl ?_
        refine zG0_0 C (by decide : kd 318 = _) kX0_7 dX0_weigh_119 ?_
        refine zv_iconst (v := zI 1) C dX0_weigh_122 rfl ?_
        refine zv_iload_n C 6 dX0_weigh_123 rfl rfl ?_
        refine zv_iast (j := 1) C (by decide : kd 319 = _) (zI_ix (by omega)) (by decide) dX0_weigh_124 ?_
        refine zv_aload_n C 4 dX0_weigh_125 rfl rfl ?_
        refine zG0_0 C (by decide : kd 318 = _) kX0_7 dX0_weigh_126 ?_
        refine zv_iconst (v := zI 2) C dX0_weigh_129 rfl ?_
        refine zv_iload_n C 7 dX0_weigh_130 rfl rfl ?_
        refine zv_iast (j := 2) C (by decide : kd 319 = _) (zI_ix (by omega)) (by decide) dX0_weigh_131 ?_
        refine zv_aload_n C 4 dX0_weigh_132 rfl rfl ?_
        refine zG0_0 C (by decide : kd 318 = _) kX0_7 dX0_weigh_133 ?_
        refine zv_iconst (v := zI 3) C dX0_weigh_136 rfl ?_
        refine zv_iload C 8 dX0_weigh_137 rfl ?_
        refine zv_iast (j := 3) C (by decide : kd 319 = _) (zI_ix (by omega)) (by decide) dX0_weigh_139 ?_
        exact zv_vret C hr dX0_weigh_140 (by first | (rw [if_pos (by omega)]; rfl) | (rw [if_neg (by omega)]))
set_option maxRecDepth 20000 in
theorem c_X0_weigh_0 {l : Launch} (hfl : l.stackTraces = false) (E : zE) (σ : zS) (t1 b1 a b a2 b2 : Nat) (hT : gJ σ 318 1 = zL (t1 : Int)) (hB : gJ σ 318 2 = zL (b1 : Int)) (ht1 : t1 < 2 ^ 48) (hb1 : b1 < 2 ^ 48) (ha : a ≤ 100) (hb : 1 ≤ b ∧ b ≤ 100) (ha2 : a2 ≤ 100) (hb2 : 1 ≤ b2 ∧ b2 ≤ 100) (hf : gI σ 318 3 = zI 0) : zRv l E yX0_weigh cX0_weigh 11 (zrm 2 64) [.ref (ob E 318), .int (zI (a : Int)), .int (zI (b : Int)), .int (zI (a2 : Int)), .int (zI (b2 : Int))] σ (fun τ => τ = gSet σ (gOv t1 b1 a b a2 b2) (b * b2) (a + b + a2 + b2) a b a2 b2) := by
  refine Met.ofW (cc := cX0_weigh) (maxL := 11) (ret := none) (by decide +kernel) rfl ?_
  intro p e s m args below meth c s₁ B hml hv
  obtain ⟨rfl, hd⟩ := hv
  have C := zX_of (own := RX0) hfl B hml rfl hd rfl
  have hr := B.returns
  refine zV_go hd (Nat.le_of_ble_eq_true rfl) (lv := [(0, .ref (ob E 318)), (1, .int (zI (a : Int))), (2, .int (zI (b : Int))), (3, .int (zI (a2 : Int))), (4, .int (zI (b2 : Int)))]) rfl ?_
  obtain ⟨g1, g2⟩ := g_mul (t := b1) ha ha2 hb1
  obtain ⟨g3, g4⟩ := g_mul (t := t1) hb.2 hb2.2 ht1
  have g5 : 1 * 1 ≤ b * b2 := Nat.mul_le_mul hb.1 hb2.1
  have hOV : gOv t1 b1 a b a2 b2 < 2 ^ 63 := by unfold gOv; omega
  refine zv_iload_n C 2 dX0_weigh_0 rfl rfl ?_
  refine zv_i2lZ C (by omega) dX0_weigh_1 ?_
  refine zv_iload C 4 dX0_weigh_2 rfl ?_
  refine zv_i2lZ C (by omega) dX0_weigh_4 ?_
  refine zv_lmulZ C dX0_weigh_5 ?_
  refine zv_eql (y := (zL ((b * b2 : Nat) : Int))) (by rw [Int.natCast_mul]) ?_
  refine zv_lstore (lv' := [(5, .long (zL ((b * b2 : Nat) : Int))), (0, .ref (ob E 318)), (1, .int (zI (a : Int))), (2, .int (zI (b : Int))), (3, .int (zI (a2 : Int))), (4, .int (zI (b2 : Int)))]) C dX0_weigh_6  (by decide) rfl ?_
  refine zv_iload_n C 2 dX0_weigh_8 rfl rfl ?_
  refine zv_i2lZ C (by omega) dX0_weigh_9 ?_
  refine zv_iload_n C 4 dX0_weigh_10 rfl rfl ?_
  refine zv_i2lZ C (by omega) dX0_weigh_11 ?_
  refine zv_lmulZ C dX0_weigh_12 ?_
  refine zv_eql (y := (zL ((a * a2 : Nat) : Int))) (by rw [Int.natCast_mul]) ?_
  refine zv_aload_n C 1 dX0_weigh_13 rfl rfl ?_
  refine zG0_2 C (by decide : kd 318 = _) kX0_17 dX0_weigh_14 ?_
  refine zv_eql (y := zL (b1 : Int)) (hB) ?_
  refine zv_lmulZ C dX0_weigh_17 ?_
  refine zv_eql (y := (zL ((a * a2 * b1 : Nat) : Int))) (by rw [Int.natCast_mul (a * a2)]) ?_
  refine zv_lload C 0 dX0_weigh_18 rfl ?_
  refine zv_aload_n C 1 dX0_weigh_20 rfl rfl ?_
  refine zG0_1 C (by decide : kd 318 = _) kX0_13 dX0_weigh_21 ?_
  refine zv_eql (y := zL (t1 : Int)) (hT) ?_
  refine zv_lmulZ C dX0_weigh_24 ?_
  refine zv_eql (y := (zL ((b * b2 * t1 : Nat) : Int))) (by rw [Int.natCast_mul (b * b2)]) ?_
  refine zv_lsubZ C dX0_weigh_25 ?_
  refine zv_cslD (st := []) C (c_J9_abs_067f4 hfl E σ (((a * a2 * b1 : Nat) : Int) - ((b * b2 * t1 : Nat) : Int)) (by omega)) mJ9_abs_067f4 kX0_39 rfl ⟨rfl, rfl⟩ (show zfit (zrm 0 0) 2 (zrm 2 64) = true from rfl) (Nat.le_of_ble_eq_true rfl) dX0_weigh_26 ⟨Nat.zero_le _, Nat.zero_le _⟩ ?_
  refine zv_eql (y := (zL (gOv t1 b1 a b a2 b2 : Int))) (rfl) ?_
  refine zv_lstore (lv' := [(7, .long (zL (gOv t1 b1 a b a2 b2 : Int))), (5, .long (zL ((b * b2 : Nat) : Int))), (0, .ref (ob E 318)), (1, .int (zI (a : Int))), (2, .int (zI (b : Int))), (3, .int (zI (a2 : Int))), (4, .int (zI (b2 : Int)))]) C dX0_weigh_29  (by decide) rfl ?_
  refine zv_iload_n C 3 dX0_weigh_31 rfl rfl ?_
  refine zv_iload_n C 4 dX0_weigh_32 rfl rfl ?_
  refine zv_iaddZ C dX0_weigh_33 ?_
  refine zv_iload_n C 5 dX0_weigh_34 rfl rfl ?_
  refine zv_iaddZ C dX0_weigh_35 ?_
  refine zv_iload C 6 dX0_weigh_36 rfl ?_
  refine zv_iaddZ C dX0_weigh_38 ?_
  refine zv_eqi (y := (zI ((a + b + a2 + b2 : Nat) : Int))) (congrArg zI (by omega)) ?_
  refine zv_istore (lv' := [(9, .int (zI ((a + b + a2 + b2 : Nat) : Int))), (7, .long (zL (gOv t1 b1 a b a2 b2 : Int))), (5, .long (zL ((b * b2 : Nat) : Int))), (0, .ref (ob E 318)), (1, .int (zI (a : Int))), (2, .int (zI (b : Int))), (3, .int (zI (a2 : Int))), (4, .int (zI (b2 : Int)))]) C dX0_weigh_39  (by decide) rfl ?_
  refine zv_aload_n C 3 dX0_weigh_41 rfl rfl ?_
  refine zG0_3 C (by decide : kd 318 = _) kX0_20 dX0_weigh_42 ?_
  refine zv_eqi (y := zI 0) (hf) ?_
  refine zv_if_eqZ (tgt := 66) C (by omega) dX0_weigh_45 (by decide) (fun h45 => ?_) (fun h45 => absurd h45 (by decide))
  refine zv_iconst (v := zI (-1)) C dX0_weigh_66 rfl ?_
  refine zv_istore (lv' := [(10, .int (zI (-1))), (9, .int (zI ((a + b + a2 + b2 : Nat) : Int))), (7, .long (zL (gOv t1 b1 a b a2 b2 : Int))), (5, .long (zL ((b * b2 : Nat) : Int))), (0, .ref (ob E 318)), (1, .int (zI (a : Int))), (2, .int (zI (b : Int))), (3, .int (zI (a2 : Int))), (4, .int (zI (b2 : Int)))]) C dX0_weigh_67  (by decide) rfl ?_
  refine zv_iload C 0 dX0_weigh_69 rfl ?_
  refine zv_if_ltZ (tgt := 88) C (by omega) dX0_weigh_71 (by decide) (fun h71 => ?_) (fun h71 => ?_)
  · skip
    refine zv_aload_n C 4 dX0_weigh_88 rfl rfl ?_
    refine zv_iconst (v := zI 1) C dX0_weigh_89 rfl ?_
    refine zP0_3 C (by decide : kd 318 = _) (Or.inr rfl) kX0_20 dX0_weigh_90 ?_
    refine zv_aload_n C 4 dX0_weigh_93 rfl rfl ?_
    refine zv_lload C 2 dX0_weigh_94 rfl ?_
    refine zP0_4 C (by decide : kd 318 = _) kX0_24 dX0_weigh_96 ?_
    refine zv_aload_n C 4 dX0_weigh_99 rfl rfl ?_
    refine zv_lload C 3 dX0_weigh_100 rfl ?_
    refine zP0_5 C (by decide : kd 318 = _) kX0_27 dX0_weigh_102 ?_
    refine zv_aload_n C 4 dX0_weigh_105 rfl rfl ?_
    refine zv_iload C 1 dX0_weigh_106 rfl ?_
    refine zP0_6 C (by decide : kd 318 = _) kX0_30 dX0_weigh_108 ?_
    refine zv_aload_n C 4 dX0_weigh_111 rfl rfl ?_
    refine zG0_0 C (by decide : kd 318 = _) kX0_7 dX0_weigh_112 ?_
    refine zv_iconst (v := zI 0) C dX0_weigh_115 rfl ?_
    refine zv_iload_n C 5 dX0_weigh_116 rfl rfl ?_
    refine zv_iast (j := 0) C (by decide : kd 319 = _) (zI_ix (by omega)) (by decide) dX0_weigh_117 ?_
    refine zv_aload_n C 4 dX0_weigh_118 rfl rfl ?_
    refine zG0_0 C (by decide : kd 318 = _) kX0_7 dX0_weigh_119 ?_
    refine zv_iconst (v := zI 1) C dX0_weigh_122 rfl ?_
    refine zv_iload_n C 6 dX0_weigh_123 rfl rfl ?_
    refine zv_iast (j := 1) C (by decide : kd 319 = _) (zI_ix (by omega)) (by decide) dX0_weigh_124 ?_
    refine zv_aload_n C 4 dX0_weigh_125 rfl rfl ?_
    refine zG0_0 C (by decide : kd 318 = _) kX0_7 dX0_weigh_126 ?_
    refine zv_iconst (v := zI 2) C dX0_weigh_129 rfl ?_
    refine zv_iload_n C 7 dX0_weigh_130 rfl rfl ?_
    refine zv_iast (j := 2) C (by decide : kd 319 = _) (zI_ix (by omega)) (by decide) dX0_weigh_131 ?_
    refine zv_aload_n C 4 dX0_weigh_132 rfl rfl ?_
    refine zG0_0 C (by decide : kd 318 = _) kX0_7 dX0_weigh_133 ?_
    refine zv_iconst (v := zI 3) C dX0_weigh_136 rfl ?_
    refine zv_iload C 8 dX0_weigh_137 rfl ?_
    refine zv_iast (j := 3) C (by decide : kd 319 = _) (zI_ix (by omega)) (by decide) dX0_weigh_139 ?_
    exact zv_vret C hr dX0_weigh_140 rfl
  · exfalso
    omega
theorem gW_i (σ : zS) (hf : gI σ 318 3 = zI 0) (ov un sm a b a2 b2 : Nat) : gI (gSet σ ov un sm a b a2 b2) 318 3 = zI 1 ∧ gJ (gSet σ ov un sm a b a2 b2) 318 4 = zL (ov : Int) ∧ gJ (gSet σ ov un sm a b a2 b2) 318 5 = zL (un : Int) ∧ gI (gSet σ ov un sm a b a2 b2) 318 6 = zI (sm : Int) := by
  simp only [gSet, gI_sI, gI_sJ, gJ_sI, gJ_sJ]; grind
theorem c_X0_weigh {l : Launch} (hfl : l.stackTraces = false) (E : zE) (σ : zS) (t1 b1 a b a2 b2 : Nat) (g : gB) (hT : gJ σ 318 1 = zL (t1 : Int)) (hB : gJ σ 318 2 = zL (b1 : Int)) (ht1 : t1 < 2 ^ 48) (hb1 : b1 < 2 ^ 48) (hf : gI σ 318 3 = zI 0) (hg : gOk g) (ha : a ≤ 100) (hb : 1 ≤ b ∧ b ≤ 100) (ha2 : a2 ≤ 100) (hb2 : 1 ≤ b2 ∧ b2 ≤ 100) : zRv l E yX0_weigh cX0_weigh 11 (zrm 2 64) [.ref (ob E 318), .int (zI (a : Int)), .int (zI (b : Int)), .int (zI (a2 : Int)), .int (zI (b2 : Int))] (gW σ g) (fun τ => τ = gW σ (gNew t1 b1 g a b a2 b2)) := by
  cases g with
  | none => exact c_X0_weigh_0 hfl E σ t1 b1 a b a2 b2 hT hB ht1 hb1 ha hb ha2 hb2 hf
  | some q =>
    obtain ⟨ov, un, sm, w⟩ := q
    obtain ⟨a', b', a2', b2'⟩ := w
    obtain ⟨h1, h2, h3, h4⟩ := gW_i σ hf ov un sm a' b' a2' b2'
    have h := c_X0_weigh_1 hfl E (gSet σ ov un sm a' b' a2' b2') t1 b1 a b a2 b2 ov un sm (by rw [gJ_gSet _ _ _ _ _ _ _ _ _ _ (Or.inr (by decide))]; exact hT) (by rw [gJ_gSet _ _ _ _ _ _ _ _ _ _ (Or.inr (by decide))]; exact hB) ht1 hb1 ha hb ha2 hb2 h1 h2 h3 h4 hg.1 ⟨hg.2.1, hg.2.2.1⟩ hg.2.2.2
    have hW : (if fCmp (gOv t1 b1 a b a2 b2) (b * b2) ov un < 0 ∨ (fCmp (gOv t1 b1 a b a2 b2) (b * b2) ov un = 0 ∧ a + b + a2 + b2 < sm) then gSet (gSet σ ov un sm a' b' a2' b2') (gOv t1 b1 a b a2 b2) (b * b2) (a + b + a2 + b2) a b a2 b2 else gSet σ ov un sm a' b' a2' b2') = gW σ (gNew t1 b1 (some (ov, un, sm, a', b', a2', b2')) a b a2 b2) := by
      simp only [gNew, gBet, decide_eq_true_eq]
      split
      · rw [gSet_2]; rfl
      · rfl
    rw [hW] at h
    exact h
theorem gOk_new {t1 b1 a b a2 b2 : Nat} {g : gB} (ht1 : t1 < 2 ^ 48) (hb1 : b1 < 2 ^ 48) (hg : gOk g) (ha : a ≤ 100) (hb : 1 ≤ b ∧ b ≤ 100) (ha2 : a2 ≤ 100) (hb2 : 1 ≤ b2 ∧ b2 ≤ 100) : gOk (gNew t1 b1 g a b a2 b2) := by
  obtain ⟨g1, g2⟩ := g_mul (t := b1) ha ha2 hb1
  obtain ⟨g3, g4⟩ := g_mul (t := t1) hb.2 hb2.2 ht1
  have g5 : 1 * 1 ≤ b * b2 := Nat.mul_le_mul hb.1 hb2.1
  unfold gNew
  split
  · refine ⟨?_, by omega, by omega, by omega⟩
    unfold gOv
    omega
  · exact hg
