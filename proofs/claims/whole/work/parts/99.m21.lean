/-! fractions compared by their whole parts first -/
theorem less_q {a b c d : Nat} (hb : 0 < b) (hd : 0 < d) : (a / b ≠ c / d → (a / b < c / d ↔ a * d < c * b)) ∧ (a / b = c / d → (a % b * d < c % d * b ↔ a * d < c * b)) := by
  have ha : a * d = b * d * (a / b) + a % b * d := by
    have h := Nat.div_add_mod a b
    calc a * d = (b * (a / b) + a % b) * d := by rw [h]
      _ = b * d * (a / b) + a % b * d := by rw [Nat.add_mul, Nat.mul_right_comm]
  have hc : c * b = b * d * (c / d) + c % d * b := by
    have h := Nat.div_add_mod c d
    calc c * b = (d * (c / d) + c % d) * b := by rw [h]
      _ = b * d * (c / d) + c % d * b := by rw [Nat.add_mul, Nat.mul_right_comm, Nat.mul_comm d b]
  have h1 : a % b * d < b * d := Nat.mul_lt_mul_of_pos_right (Nat.mod_lt a hb) hd
  have h2 : c % d * b < b * d := by rw [Nat.mul_comm b d]; exact Nat.mul_lt_mul_of_pos_right (Nat.mod_lt c hd) hb
  rw [ha, hc]
  generalize a / b = q1
  generalize c / d = q2
  generalize a % b * d = r1 at h1
  generalize c % d * b = r2 at h2
  generalize b * d = m at h1 h2
  constructor
  · intro hne
    constructor
    · intro h
      have h3 : m * (q1 + 1) ≤ m * q2 := Nat.mul_le_mul_left m h
      rw [Nat.mul_add, Nat.mul_one] at h3
      omega
    · intro h
      rcases Nat.lt_or_ge q1 q2 with g | g
      · exact g
      · have h3 : m * (q2 + 1) ≤ m * q1 := Nat.mul_le_mul_left m (by omega)
        rw [Nat.mul_add, Nat.mul_one] at h3
        omega
  · intro he
    rw [he]
    omega
set_option maxRecDepth 20000 in
theorem c_X11_isLess {l : Launch} (hfl : l.stackTraces = false) (E : zE) (σ : zS) (a9 b9 c9 d9 : Nat) (ha : a9 < 2 ^ 62) (hb : 0 < b9 ∧ b9 < 2 ^ 62) (hc : c9 < 2 ^ 62) (hd9 : 0 < d9 ∧ d9 < 2 ^ 62) (hbb : b9 * d9 < 9223372036854775808) : zRi l E yX11_isLess cX11_isLess 8 .boolean (zrm 0 0) [.long (zL (a9 : Int)), .long (zL (b9 : Int)), .long (zL (c9 : Int)), .long (zL (d9 : Int))] σ (fun r τ => r = zB (a9 * d9 < c9 * b9) ∧ τ = σ) := by
  refine Met.ofW (cc := cX11_isLess) (maxL := 8) (ret := (some .boolean)) (by decide +kernel) rfl ?_
  intro p e s m args below meth c s₁ B hml hv
  obtain ⟨rfl, hd⟩ := hv
  have C := zX_of (own := RX11) hfl B hml rfl hd rfl
  have hr := B.returns
  refine zV_go hd (Nat.le_of_ble_eq_true rfl) (lv := [(0, .long (zL (a9 : Int))), (2, .long (zL (b9 : Int))), (4, .long (zL (c9 : Int))), (6, .long (zL (d9 : Int)))]) rfl ?_
  obtain ⟨l1, l2⟩ := less_q (a := a9) (b := b9) (c := c9) (d := d9) hb.1 hd9.1
  have m1 := Nat.mod_lt a9 hb.1
  have m2 := Nat.mod_lt c9 hd9.1
  have q1 := Nat.div_le_self a9 b9
  have q2 := Nat.div_le_self c9 d9
  have n1 : (0 : Int) ≤ ((a9 / b9 : Nat) : Int) := Int.natCast_nonneg _
  have n2 : (0 : Int) ≤ ((c9 / d9 : Nat) : Int) := Int.natCast_nonneg _
  have n3 : (0 : Int) ≤ ((a9 % b9 : Nat) : Int) := Int.natCast_nonneg _
  have n4 : (0 : Int) ≤ ((c9 % d9 : Nat) : Int) := Int.natCast_nonneg _
  have p1 : a9 % b9 * d9 ≤ b9 * d9 := Nat.mul_le_mul_right d9 (by omega)
  have p2 : c9 % d9 * b9 ≤ b9 * d9 := by rw [Nat.mul_comm b9 d9]; exact Nat.mul_le_mul_right b9 (by omega)
  have p3 : (0 : Int) ≤ ((a9 % b9 * d9 : Nat) : Int) := Int.natCast_nonneg _
  have p4 : (0 : Int) ≤ ((c9 % d9 * b9 : Nat) : Int) := Int.natCast_nonneg _
  refine zv_lload_n C 0 dX11_isLess_0 rfl rfl ?_
  refine zv_lload_n C 1 dX11_isLess_1 rfl rfl ?_
  refine zv_ldivP C (by omega) (by omega) dX11_isLess_2 ?_
  refine zv_eql (y := (zL ((a9 / b9 : Nat) : Int))) (by rw [Int.natCast_ediv]) ?_
  refine zv_lload C 2 dX11_isLess_3 rfl ?_
  refine zv_lload C 3 dX11_isLess_5 rfl ?_
  refine zv_ldivP C (by omega) (by omega) dX11_isLess_7 ?_
  refine zv_eql (y := (zL ((c9 / d9 : Nat) : Int))) (by rw [Int.natCast_ediv]) ?_
  refine zv_lc_eqZ (tgt := 30) C (by omega) (by omega) dX11_isLess_8 dX11_isLess_9 (by decide) (fun h8 => ?_) (fun h8 => ?_)
  · skip
    refine zv_lload_n C 0 dX11_isLess_30 rfl rfl ?_
    refine zv_lload_n C 1 dX11_isLess_31 rfl rfl ?_
    refine zv_lremP C (by omega) (by omega) dX11_isLess_32 ?_
    refine zv_eql (y := (zL ((a9 % b9 : Nat) : Int))) (by rw [Int.natCast_emod]) ?_
    refine zv_lload C 3 dX11_isLess_33 rfl ?_
    refine zv_lmulZ C dX11_isLess_35 ?_
    refine zv_eql (y := (zL ((a9 % b9 * d9 : Nat) : Int))) (congrArg zL (Int.natCast_mul _ _).symm) ?_
    refine zv_lload C 2 dX11_isLess_36 rfl ?_
    refine zv_lload C 3 dX11_isLess_38 rfl ?_
    refine zv_lremP C (by omega) (by omega) dX11_isLess_40 ?_
    refine zv_eql (y := (zL ((c9 % d9 : Nat) : Int))) (by rw [Int.natCast_emod]) ?_
    refine zv_lload_n C 1 dX11_isLess_41 rfl rfl ?_
    refine zv_lmulZ C dX11_isLess_42 ?_
    refine zv_eql (y := (zL ((c9 % d9 * b9 : Nat) : Int))) (congrArg zL (Int.natCast_mul _ _).symm) ?_
    refine zv_lc_geZ (tgt := 51) C (by omega) (by omega) dX11_isLess_43 dX11_isLess_44 (by decide) (fun h43 => ?_) (fun h43 => ?_)
    · skip
      refine zv_iconst (v := zI 0) C dX11_isLess_51 rfl ?_
      exact zv_iret C hr rfl dX11_isLess_52 ⟨(zB_f (fun z => absurd ((l2 (by omega)).mpr z) (by omega))).symm, rfl⟩
    · skip
      refine zv_iconst (v := zI 1) C dX11_isLess_47 rfl ?_
      refine zv_goto (tgt := 52) C dX11_isLess_48 (by decide) ?_
      exact zv_iret C hr rfl dX11_isLess_52 ⟨(zB_t ((l2 (by omega)).mp (by omega))).symm, rfl⟩
  · skip
    refine zv_lload_n C 0 dX11_isLess_12 rfl rfl ?_
    refine zv_lload_n C 1 dX11_isLess_13 rfl rfl ?_
    refine zv_ldivP C (by omega) (by omega) dX11_isLess_14 ?_
    refine zv_eql (y := (zL ((a9 / b9 : Nat) : Int))) (by rw [Int.natCast_ediv]) ?_
    refine zv_lload C 2 dX11_isLess_15 rfl ?_
    refine zv_lload C 3 dX11_isLess_17 rfl ?_
    refine zv_ldivP C (by omega) (by omega) dX11_isLess_19 ?_
    refine zv_eql (y := (zL ((c9 / d9 : Nat) : Int))) (by rw [Int.natCast_ediv]) ?_
    refine zv_lc_geZ (tgt := 28) C (by omega) (by omega) dX11_isLess_20 dX11_isLess_21 (by decide) (fun h20 => ?_) (fun h20 => ?_)
    · skip
      refine zv_iconst (v := zI 0) C dX11_isLess_28 rfl ?_
      exact zv_iret C hr rfl dX11_isLess_29 ⟨(zB_f (fun z => absurd ((l1 (by omega)).mpr z) (by omega))).symm, rfl⟩
    · skip
      refine zv_iconst (v := zI 1) C dX11_isLess_24 rfl ?_
      refine zv_goto (tgt := 29) C dX11_isLess_25 (by decide) ?_
      exact zv_iret C hr rfl dX11_isLess_29 ⟨(zB_t ((l1 (by omega)).mp (by omega))).symm, rfl⟩
set_option maxRecDepth 20000 in
theorem c_X11_outputByte {l : Launch} (hfl : l.stackTraces = false) (E : zE) (σ : zS) (ou : List Nat) (j : Nat) (h : zMo σ ou) (hj : j < ou.length) : zRi l E yX11_outputByte cX11_outputByte 2 .int (zrm 1 25) [.ref (ob E 327), .int (zI (j : Int))] σ (fun r τ => r = zI ((ou.getD j 0 : Nat) : Int) ∧ mK σ τ 0) := by
  refine Met.ofW (cc := cX11_outputByte) (maxL := 2) (ret := (some .int)) (by decide +kernel) rfl ?_
  intro p e s m args below meth c s₁ B hml hv
  obtain ⟨rfl, hd⟩ := hv
  have C := zX_of (own := RX11) hfl B hml rfl hd rfl
  have hr := B.returns
  refine zV_go hd (Nat.le_of_ble_eq_true rfl) (lv := [(0, .ref (ob E 327)), (1, .int (zI (j : Int)))]) rfl ?_
  have hq := h.1
  have hq2 := h.2.1
  refine zv_aload_n C 0 dX11_outputByte_0 rfl rfl ?_
  refine zv_iconst (v := zI 0) C dX11_outputByte_1 rfl ?_
  refine zP10_10 C (by decide : kd 327 = _) kX11_50 dX11_outputByte_2 ?_
  refine zv_eqS (τ := (thW σ 0)) (rfl) ?_
  refine zv_iload_n C 1 dX11_outputByte_5 rfl rfl ?_
  refine zv_i2lZ C (by omega) dX11_outputByte_6 ?_
  refine zv_lconst (v := zL 0) C dX11_outputByte_7 (by decide) ?_
  refine zv_aload_n C 0 dX11_outputByte_8 rfl rfl ?_
  refine zG10_29 C (by decide : kd 327 = _) kX11_438 dX11_outputByte_9 ?_
  refine zv_eqi (y := (zI (ou.length : Int))) (hq) ?_
  refine zv_iconst (v := zI 1) C dX11_outputByte_12 rfl ?_
  refine zv_isubZ C dX11_outputByte_13 ?_
  refine zv_i2lZ C (by omega) dX11_outputByte_14 ?_
  refine zv_csiD (st := []) C (c_X11_inRange hfl E (thW σ 0) ((j : Int)) (0) ((ou.length : Int) - 1) (by omega) (by omega) (by omega)) mX11_inRange kX11_71 rfl ⟨rfl, rfl⟩ (show zfit (zrm 0 0) 6 (zrm 1 25) = true from rfl) (Nat.le_of_ble_eq_true rfl) dX11_outputByte_15 ⟨Nat.zero_le _, Nat.zero_le _⟩ ?_
  refine zv_if_eqB (tgt := 30) C dX11_outputByte_18 (by decide) (fun h18 => ?_) (fun h18 => ?_)
  · exfalso
    omega
  · skip
    refine zv_aload_n C 0 dX11_outputByte_21 rfl rfl ?_
    refine zG10_28 C (by decide : kd 327 = _) kX11_44 dX11_outputByte_22 ?_
    refine zv_iload_n C 1 dX11_outputByte_25 rfl rfl ?_
    refine zv_iald (j := j) C (by decide : kd 338 = _) (zI_ix (by omega)) (Nat.lt_of_lt_of_le (show j < 1024 by omega) (by decide)) dX11_outputByte_26 ?_
    refine zv_eqi (y := (zI ((ou.getD j 0 : Nat) : Int))) (h.2.2 j hj) ?_
    refine zv_goto (tgt := 31) C dX11_outputByte_27 (by decide) ?_
    exact zv_iret C hr rfl dX11_outputByte_31 ⟨rfl, mK_th _ _⟩
set_option maxRecDepth 20000 in
theorem c0_X11_outputByte {l : Launch} (hfl : l.stackTraces = false) (E : zE) (σ : zS) (ou : List Nat) (y : Int) (h : zMo σ ou) (hy : -2147483648 ≤ y ∧ y < 2147483648) (hno : ¬ (0 ≤ y ∧ y < ou.length)) : zRi l E yX11_outputByte cX11_outputByte 2 .int (zrm 1 25) [.ref (ob E 327), .int (zI y)] σ (fun r τ => r = zI (-1) ∧ mK σ τ 0) := by
  refine Met.ofW (cc := cX11_outputByte) (maxL := 2) (ret := (some .int)) (by decide +kernel) rfl ?_
  intro p e s m args below meth c s₁ B hml hv
  obtain ⟨rfl, hd⟩ := hv
  have C := zX_of (own := RX11) hfl B hml rfl hd rfl
  have hr := B.returns
  refine zV_go hd (Nat.le_of_ble_eq_true rfl) (lv := [(0, .ref (ob E 327)), (1, .int (zI y))]) rfl ?_
  have hq := h.1
  have hq2 := h.2.1
  refine zv_aload_n C 0 dX11_outputByte_0 rfl rfl ?_
  refine zv_iconst (v := zI 0) C dX11_outputByte_1 rfl ?_
  refine zP10_10 C (by decide : kd 327 = _) kX11_50 dX11_outputByte_2 ?_
  refine zv_eqS (τ := (thW σ 0)) (rfl) ?_
  refine zv_iload_n C 1 dX11_outputByte_5 rfl rfl ?_
  refine zv_i2lZ C (by omega) dX11_outputByte_6 ?_
  refine zv_lconst (v := zL 0) C dX11_outputByte_7 (by decide) ?_
  refine zv_aload_n C 0 dX11_outputByte_8 rfl rfl ?_
  refine zG10_29 C (by decide : kd 327 = _) kX11_438 dX11_outputByte_9 ?_
  refine zv_eqi (y := (zI (ou.length : Int))) (hq) ?_
  refine zv_iconst (v := zI 1) C dX11_outputByte_12 rfl ?_
  refine zv_isubZ C dX11_outputByte_13 ?_
  refine zv_i2lZ C (by omega) dX11_outputByte_14 ?_
  refine zv_csiD (st := []) C (c_X11_inRange hfl E (thW σ 0) (y) (0) ((ou.length : Int) - 1) (by omega) (by omega) (by omega)) mX11_inRange kX11_71 rfl ⟨rfl, rfl⟩ (show zfit (zrm 0 0) 6 (zrm 1 25) = true from rfl) (Nat.le_of_ble_eq_true rfl) dX11_outputByte_15 ⟨Nat.zero_le _, Nat.zero_le _⟩ ?_
  refine zv_if_eqB (tgt := 30) C dX11_outputByte_18 (by decide) (fun h18 => ?_) (fun h18 => ?_)
  · skip
    refine zv_iconst (v := zI (-1)) C dX11_outputByte_30 rfl ?_
    exact zv_iret C hr rfl dX11_outputByte_31 ⟨rfl, mK_th _ _⟩
  · exfalso
    omega
set_option maxRecDepth 20000 in
theorem c_X11_errorCode {l : Launch} (hfl : l.stackTraces = false) (E : zE) (σ : zS) (v : Int) (hq : gI σ 327 13 = zI v) : zRi l E yX11_errorCode cX11_errorCode 1 .int (zrm 0 0) [.ref (ob E 327)] σ (fun r τ => r = zI v ∧ mK σ τ 0) := by
  refine Met.ofW (cc := cX11_errorCode) (maxL := 1) (ret := (some .int)) (by decide +kernel) rfl ?_
  intro p e s m args below meth c s₁ B hml hv
  obtain ⟨rfl, hd⟩ := hv
  have C := zX_of (own := RX11) hfl B hml rfl hd rfl
  have hr := B.returns
  refine zV_go hd (Nat.le_of_ble_eq_true rfl) (lv := [(0, .ref (ob E 327))]) rfl ?_
  refine zv_aload_n C 0 dX11_errorCode_0 rfl rfl ?_
  refine zv_iconst (v := zI 0) C dX11_errorCode_1 rfl ?_
  refine zP10_10 C (by decide : kd 327 = _) kX11_50 dX11_errorCode_2 ?_
  refine zv_eqS (τ := (thW σ 0)) (rfl) ?_
  refine zv_aload_n C 0 dX11_errorCode_5 rfl rfl ?_
  refine zG10_13 C (by decide : kd 327 = _) kX11_232 dX11_errorCode_6 ?_
  refine zv_eqi (y := (zI v)) (hq) ?_
  exact zv_iret C hr rfl dX11_errorCode_9 ⟨rfl, mK_th _ _⟩
set_option maxRecDepth 20000 in
theorem c_X11_errorOffset {l : Launch} (hfl : l.stackTraces = false) (E : zE) (σ : zS) (v : Int) (hq : gI σ 327 14 = zI v) : zRi l E yX11_errorOffset cX11_errorOffset 1 .int (zrm 0 0) [.ref (ob E 327)] σ (fun r τ => r = zI v ∧ mK σ τ 0) := by
  refine Met.ofW (cc := cX11_errorOffset) (maxL := 1) (ret := (some .int)) (by decide +kernel) rfl ?_
  intro p e s m args below meth c s₁ B hml hv
  obtain ⟨rfl, hd⟩ := hv
  have C := zX_of (own := RX11) hfl B hml rfl hd rfl
  have hr := B.returns
  refine zV_go hd (Nat.le_of_ble_eq_true rfl) (lv := [(0, .ref (ob E 327))]) rfl ?_
  refine zv_aload_n C 0 dX11_errorOffset_0 rfl rfl ?_
  refine zv_iconst (v := zI 0) C dX11_errorOffset_1 rfl ?_
  refine zP10_10 C (by decide : kd 327 = _) kX11_50 dX11_errorOffset_2 ?_
  refine zv_eqS (τ := (thW σ 0)) (rfl) ?_
  refine zv_aload_n C 0 dX11_errorOffset_5 rfl rfl ?_
  refine zG10_14 C (by decide : kd 327 = _) kX11_37 dX11_errorOffset_6 ?_
  refine zv_eqi (y := (zI v)) (hq) ?_
  exact zv_iret C hr rfl dX11_errorOffset_9 ⟨rfl, mK_th _ _⟩
