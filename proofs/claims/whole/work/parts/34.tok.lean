/-! the text and its tokens -/
theorem sI_o (σ : zS) (k j : Nat) (a b : Int32) : sI (sI σ k j a) k j b = sI σ k j b := by
  apply zS_ext
  · intro x y; simp only [gI_sI]; grind
  · intro x y; rfl
  · intro x y; rfl
theorem sJ_o (σ : zS) (k j : Nat) (a b : Int64) : sJ (sJ σ k j a) k j b = sJ σ k j b := by
  apply zS_ext
  · intro x y; rfl
  · intro x y; simp only [gJ_sJ]; grind
  · intro x y; rfl
def zTx (σ : zS) (tx : Nat → Int) (n : Nat) : Prop := gI σ 2 1 = zI (n : Int) ∧ n ≤ 900 ∧ (∀ i, i < n → gI σ 3 i = zI (tx i)) ∧ ∀ i, i < n → -128 ≤ tx i ∧ tx i ≤ 127
/-- the kind of a byte -/
def kO (z : Int) : Nat := if 97 ≤ z ∧ z ≤ 122 then 1 else if 48 ≤ z ∧ z ≤ 57 then 2 else if z = 59 then 3 else 4
theorem kO_1 {z : Int} : kO z = 1 ↔ 97 ≤ z ∧ z ≤ 122 := by unfold kO; split <;> (try split) <;> (try split) <;> omega
theorem kO_2 {z : Int} : kO z = 2 ↔ 48 ≤ z ∧ z ≤ 57 := by unfold kO; split <;> (try split) <;> (try split) <;> omega
theorem kO_b (z : Int) : 1 ≤ kO z ∧ kO z ≤ 4 := by unfold kO; split <;> (try split) <;> (try split) <;> omega
/-- letters packed, digits read -/
def pk (tx : Nat → Int) (b : Nat) : Nat → Nat
  | 0 => 0
  | j + 1 => pk tx b j * 256 + (tx (b + j)).toNat
def nu (tx : Nat → Int) (b : Nat) : Nat → Nat
  | 0 => 0
  | j + 1 => nu tx b j * 10 + (tx (b + j) - 48).toNat
theorem pk_b {tx : Nat → Int} {b n : Nat} (h : ∀ i, i < n → 97 ≤ tx (b + i) ∧ tx (b + i) ≤ 122) : ∀ j, j ≤ n → pk tx b j < 123 * 256 ^ (j - 1) ∨ j = 0 := by
  intro j
  induction j with
  | zero => intro _; exact Or.inr rfl
  | succ j ih =>
    intro hj
    left
    have h1 := h j (by omega)
    show pk tx b j * 256 + (tx (b + j)).toNat < 123 * 256 ^ j
    rcases ih (by omega) with q | q
    · rcases Nat.eq_zero_or_pos j with z | z
      · subst z
        have e : pk tx b 0 = 0 := rfl
        rw [e]
        simp only [Nat.pow_zero]
        omega
      · have e : 256 ^ j = 256 ^ (j - 1) * 256 := by rw [← Nat.pow_succ, Nat.succ_eq_add_one, Nat.sub_add_cancel z]
        rw [e]
        have : (pk tx b j + 1) * 256 ≤ 123 * 256 ^ (j - 1) * 256 := Nat.mul_le_mul_right _ q
        rw [Nat.mul_assoc] at this
        omega
    · subst q
      have e : pk tx b 0 = 0 := rfl
      rw [e]
      simp only [Nat.pow_zero]
      omega
theorem nu_b {tx : Nat → Int} {b n : Nat} (h : ∀ i, i < n → 48 ≤ tx (b + i) ∧ tx (b + i) ≤ 57) : ∀ j, j ≤ n → nu tx b j < 10 ^ j := by
  intro j
  induction j with
  | zero => intro _; exact Nat.one_pos
  | succ j ih =>
    intro hj
    have h1 := h j (by omega)
    have h2 := ih (by omega)
    show nu tx b j * 10 + (tx (b + j) - 48).toNat < 10 ^ (j + 1)
    rw [Nat.pow_succ]
    omega
theorem zL_sh8 {a c : Nat} (ha : a < 2 ^ 55) (hc : c < 256) : zL (a : Int) <<< ((zI 8).toInt64 &&& 63) ||| zL (c : Int) = zL ((a * 256 + c : Nat) : Int) := by
  have e8 : ((zI 8).toInt64 &&& 63) = 8 := by decide
  rw [e8, zL_nat, zL_nat, zL_nat]
  apply Int64.toBitVec_inj.mp
  rw [Int64.toBitVec_or]
  have e : ∀ n : Nat, (lN n).toBitVec = BitVec.ofNat 64 n := fun n => rfl
  have es : (lN a <<< (8 : Int64)).toBitVec = BitVec.ofNat 64 a <<< 8 := rfl
  rw [e, e, es]
  apply BitVec.eq_of_toNat_eq
  rw [BitVec.toNat_or, BitVec.toNat_shiftLeft, BitVec.toNat_ofNat, BitVec.toNat_ofNat, BitVec.toNat_ofNat, Nat.mod_eq_of_lt (show a < 2 ^ 64 by omega), Nat.mod_eq_of_lt (show c < 2 ^ 64 by omega), Nat.mod_eq_of_lt (show a * 256 + c < 2 ^ 64 by omega), Nat.shiftLeft_eq, Nat.mod_eq_of_lt (show a * 2 ^ 8 < 2 ^ 64 by omega)]
  rw [Nat.mul_comm a (2 ^ 8)]
  exact (Nat.two_pow_add_eq_or_of_lt (i := 8) hc a).symm
set_option maxRecDepth 20000 in
theorem c_X7_kindOf {l : Launch} (hfl : l.stackTraces = false) (E : zE) (σ : zS) (z : Int) (hz : -128 ≤ z ∧ z ≤ 127) : zRi l E yX7_kindOf cX7_kindOf 1 .int (zrm 0 0) [.int (zI z)] σ (fun r τ => r = zI (kO z : Int) ∧ τ = σ) := by
  refine Met.ofW (cc := cX7_kindOf) (maxL := 1) (ret := (some .int)) (by decide +kernel) rfl ?_
  intro p e s m args below meth c s₁ B hml hv
  obtain ⟨rfl, hd⟩ := hv
  have C := zX_of (own := RX7) hfl B hml rfl hd rfl
  have hr := B.returns
  refine zV_go hd (Nat.le_of_ble_eq_true rfl) (lv := [(0, .int (zI z))]) rfl ?_
  refine zv_iload_n C 0 dX7_kindOf_0 rfl rfl ?_
  refine zv_bipush (v := zI 97) C dX7_kindOf_1 (by decide) ?_
  refine zv_icmp_ltZ (tgt := 14) C (by omega) (by omega) dX7_kindOf_3 (by decide) (fun h3 => ?_) (fun h3 => ?_)
  · skip
    refine zv_iload_n C 0 dX7_kindOf_14 rfl rfl ?_
    refine zv_bipush (v := zI 48) C dX7_kindOf_15 (by decide) ?_
    refine zv_icmp_ltZ (tgt := 28) C (by omega) (by omega) dX7_kindOf_17 (by decide) (fun h17 => ?_) (fun h17 => ?_)
    · skip
      refine zv_iload_n C 0 dX7_kindOf_28 rfl rfl ?_
      refine zv_bipush (v := zI 59) C dX7_kindOf_29 (by decide) ?_
      refine zv_icmp_neZ (tgt := 38) C (by omega) (by omega) dX7_kindOf_31 (by decide) (fun h31 => ?_) (fun h31 => ?_)
      · skip
        refine zv_iconst (v := zI 4) C dX7_kindOf_38 rfl ?_
        exact zv_iret C hr rfl dX7_kindOf_39 ⟨by unfold kO; refine congrArg zI ?_; split <;> (try split) <;> (try split) <;> omega, rfl⟩
      · skip
        refine zv_iconst (v := zI 3) C dX7_kindOf_34 rfl ?_
        refine zv_goto (tgt := 39) C dX7_kindOf_35 (by decide) ?_
        exact zv_iret C hr rfl dX7_kindOf_39 ⟨by unfold kO; refine congrArg zI ?_; split <;> (try split) <;> (try split) <;> omega, rfl⟩
    · skip
      refine zv_iload_n C 0 dX7_kindOf_20 rfl rfl ?_
      refine zv_bipush (v := zI 57) C dX7_kindOf_21 (by decide) ?_
      refine zv_icmp_gtZ (tgt := 28) C (by omega) (by omega) dX7_kindOf_23 (by decide) (fun h23 => ?_) (fun h23 => ?_)
      · skip
        refine zv_iload_n C 0 dX7_kindOf_28 rfl rfl ?_
        refine zv_bipush (v := zI 59) C dX7_kindOf_29 (by decide) ?_
        refine zv_icmp_neZ (tgt := 38) C (by omega) (by omega) dX7_kindOf_31 (by decide) (fun h31 => ?_) (fun h31 => ?_)
        · skip
          refine zv_iconst (v := zI 4) C dX7_kindOf_38 rfl ?_
          exact zv_iret C hr rfl dX7_kindOf_39 ⟨by unfold kO; refine congrArg zI ?_; split <;> (try split) <;> (try split) <;> omega, rfl⟩
        · skip
          refine zv_iconst (v := zI 3) C dX7_kindOf_34 rfl ?_
          refine zv_goto (tgt := 39) C dX7_kindOf_35 (by decide) ?_
          exact zv_iret C hr rfl dX7_kindOf_39 ⟨by unfold kO; refine congrArg zI ?_; split <;> (try split) <;> (try split) <;> omega, rfl⟩
      · skip
        refine zv_iconst (v := zI 2) C dX7_kindOf_26 rfl ?_
        exact zv_iret C hr rfl dX7_kindOf_27 ⟨by unfold kO; refine congrArg zI ?_; split <;> (try split) <;> (try split) <;> omega, rfl⟩
  · skip
    refine zv_iload_n C 0 dX7_kindOf_6 rfl rfl ?_
    refine zv_bipush (v := zI 122) C dX7_kindOf_7 (by decide) ?_
    refine zv_icmp_gtZ (tgt := 14) C (by omega) (by omega) dX7_kindOf_9 (by decide) (fun h9 => ?_) (fun h9 => ?_)
    · skip
      refine zv_iload_n C 0 dX7_kindOf_14 rfl rfl ?_
      refine zv_bipush (v := zI 48) C dX7_kindOf_15 (by decide) ?_
      refine zv_icmp_ltZ (tgt := 28) C (by omega) (by omega) dX7_kindOf_17 (by decide) (fun h17 => ?_) (fun h17 => ?_)
      · skip
        refine zv_iload_n C 0 dX7_kindOf_28 rfl rfl ?_
        refine zv_bipush (v := zI 59) C dX7_kindOf_29 (by decide) ?_
        refine zv_icmp_neZ (tgt := 38) C (by omega) (by omega) dX7_kindOf_31 (by decide) (fun h31 => ?_) (fun h31 => ?_)
        · skip
          refine zv_iconst (v := zI 4) C dX7_kindOf_38 rfl ?_
          exact zv_iret C hr rfl dX7_kindOf_39 ⟨by unfold kO; refine congrArg zI ?_; split <;> (try split) <;> (try split) <;> omega, rfl⟩
        · skip
          refine zv_iconst (v := zI 3) C dX7_kindOf_34 rfl ?_
          refine zv_goto (tgt := 39) C dX7_kindOf_35 (by decide) ?_
          exact zv_iret C hr rfl dX7_kindOf_39 ⟨by unfold kO; refine congrArg zI ?_; split <;> (try split) <;> (try split) <;> omega, rfl⟩
      · skip
        refine zv_iload_n C 0 dX7_kindOf_20 rfl rfl ?_
        refine zv_bipush (v := zI 57) C dX7_kindOf_21 (by decide) ?_
        refine zv_icmp_gtZ (tgt := 28) C (by omega) (by omega) dX7_kindOf_23 (by decide) (fun h23 => ?_) (fun h23 => ?_)
        · skip
          refine zv_iload_n C 0 dX7_kindOf_28 rfl rfl ?_
          refine zv_bipush (v := zI 59) C dX7_kindOf_29 (by decide) ?_
          refine zv_icmp_neZ (tgt := 38) C (by omega) (by omega) dX7_kindOf_31 (by decide) (fun h31 => ?_) (fun h31 => ?_)
          · skip
            refine zv_iconst (v := zI 4) C dX7_kindOf_38 rfl ?_
            exact zv_iret C hr rfl dX7_kindOf_39 ⟨by unfold kO; refine congrArg zI ?_; split <;> (try split) <;> (try split) <;> omega, rfl⟩
          · skip
            refine zv_iconst (v := zI 3) C dX7_kindOf_34 rfl ?_
            refine zv_goto (tgt := 39) C dX7_kindOf_35 (by decide) ?_
            exact zv_iret C hr rfl dX7_kindOf_39 ⟨by unfold kO; refine congrArg zI ?_; split <;> (try split) <;> (try split) <;> omega, rfl⟩
        · skip
          refine zv_iconst (v := zI 2) C dX7_kindOf_26 rfl ?_
          exact zv_iret C hr rfl dX7_kindOf_27 ⟨by unfold kO; refine congrArg zI ?_; split <;> (try split) <;> (try split) <;> omega, rfl⟩
    · skip
      refine zv_iconst (v := zI 1) C dX7_kindOf_12 rfl ?_
      exact zv_iret C hr rfl dX7_kindOf_13 ⟨by unfold kO; refine congrArg zI ?_; split <;> (try split) <;> (try split) <;> omega, rfl⟩
