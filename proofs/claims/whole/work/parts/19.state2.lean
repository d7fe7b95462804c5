set_option maxRecDepth 20000 in
theorem c_X8_copyFrom {l : Launch} (hfl : l.stackTraces = false) (E : zE) (σ : zS) (k b : Nat) (hk : kd k = 8) (hb : kd b = 8) : zRv l E yX8_copyFrom cX8_copyFrom 2 (zrm 1 60) [.ref (ob E k), .ref (ob E b)] σ (fun τ => τ = cpT σ k b) := by
  refine Met.ofW (cc := cX8_copyFrom) (maxL := 2) (ret := none) (by decide +kernel) rfl ?_
  intro p e s m args below meth c s₁ B hml hv
  obtain ⟨rfl, hd⟩ := hv
  have C := zX_of (own := RX8) hfl B hml rfl hd rfl
  have hr := B.returns
  refine zV_go hd (Nat.le_of_ble_eq_true rfl) (lv := [(0, .ref (ob E k)), (1, .ref (ob E b))]) rfl ?_
  refine zv_aload_n C 0 dX8_copyFrom_0 rfl rfl ?_
  refine zv_aload_n C 1 dX8_copyFrom_1 rfl rfl ?_
  refine zG8_1 C hb kX8_15 dX8_copyFrom_2 ?_
  refine zP8_1 C hk kX8_15 dX8_copyFrom_5 ?_
  refine zv_aload_n C 1 dX8_copyFrom_8 rfl rfl ?_
  refine zG8_0 C hb kX8_11 dX8_copyFrom_9 ?_
  refine zv_iconst (v := zI 0) C dX8_copyFrom_12 rfl ?_
  refine zv_aload_n C 0 dX8_copyFrom_13 rfl rfl ?_
  refine zG8_0 C hk kX8_11 dX8_copyFrom_14 ?_
  refine zv_iconst (v := zI 0) C dX8_copyFrom_17 rfl ?_
  refine zv_aload_n C 0 dX8_copyFrom_18 rfl rfl ?_
  refine zG8_0 C hk kX8_11 dX8_copyFrom_19 ?_
  refine zv_alen C (by rw [(ztr hk).1]; decide) dX8_copyFrom_22 ?_
  refine zv_eqi (y := zI 12) (by rw [(ztr hk).2]; exact (zI_nat 12).symm) ?_
  refine zv_acpI (a := b + 1) (b := k + 1) (n := 12) (st := []) C kX8_19 (ztr hb).1 (ztr hk).1 (by rw [(ztr hb).2]; decide) (by rw [(ztr hk).2]; decide) ⟨Nat.le_of_ble_eq_true rfl, Nat.le_of_ble_eq_true rfl⟩ dX8_copyFrom_23 ?_
  exact zv_vret C hr dX8_copyFrom_26 rfl
set_option maxRecDepth 20000 in
theorem c_X6_copyFrom {l : Launch} (hfl : l.stackTraces = false) (E : zE) (σ : zS) (k b : Nat) (hk : kd k = 6) (hb : kd b = 6) (hne : k ≠ b) : zRv l E yX6_copyFrom cX6_copyFrom 3 (zrm 2 81) [.ref (ob E k), .ref (ob E b)] σ (fun τ => τ = cpS σ k b 20) := by
  refine Met.ofW (cc := cX6_copyFrom) (maxL := 3) (ret := none) (by decide +kernel) rfl ?_
  intro p e s m args below meth c s₁ B hml hv
  obtain ⟨rfl, hd⟩ := hv
  have C := zX_of (own := RX6) hfl B hml rfl hd rfl
  have hr := B.returns
  refine zV_go hd (Nat.le_of_ble_eq_true rfl) (lv := [(0, .ref (ob E k)), (1, .ref (ob E b))]) rfl ?_
  refine zv_aload_n C 1 dX6_copyFrom_0 rfl rfl ?_
  refine zG6_0 C hb kX6_9 dX6_copyFrom_1 ?_
  refine zv_iconst (v := zI 0) C dX6_copyFrom_4 rfl ?_
  refine zv_aload_n C 0 dX6_copyFrom_5 rfl rfl ?_
  refine zG6_0 C hk kX6_9 dX6_copyFrom_6 ?_
  refine zv_iconst (v := zI 0) C dX6_copyFrom_9 rfl ?_
  refine zv_bipush (v := zI 16) C dX6_copyFrom_10 (by decide) ?_
  refine zv_acpI (a := b + 1) (b := k + 1) (n := 16) (st := []) C kX6_41 (zst hb).1.1 (zst hk).1.1 (by rw [(zst hb).1.2]; decide) (by rw [(zst hk).1.2]; decide) ⟨Nat.le_of_ble_eq_true rfl, Nat.le_of_ble_eq_true rfl⟩ dX6_copyFrom_12 ?_
  refine zv_aload_n C 0 dX6_copyFrom_15 rfl rfl ?_
  refine zv_aload_n C 1 dX6_copyFrom_16 rfl rfl ?_
  refine zG6_1 C hb kX6_15 dX6_copyFrom_17 ?_
  refine zv_eqi (y := (gI σ b 1)) (by have := kd6_apart hk hb hne; simp only [gI_sI, gI_cpI]; rw [if_neg (by omega)]) ?_
  refine zP6_1 C hk kX6_15 dX6_copyFrom_20 ?_
  refine zv_aload_n C 0 dX6_copyFrom_23 rfl rfl ?_
  refine zv_aload_n C 1 dX6_copyFrom_24 rfl rfl ?_
  refine zG6_2 C hb kX6_19 dX6_copyFrom_25 ?_
  refine zv_eqi (y := (gI σ b 2)) (by have := kd6_apart hk hb hne; simp only [gI_sI, gI_cpI]; rw [if_neg (by omega), if_neg (by omega)]) ?_
  refine zP6_2 C hk kX6_19 dX6_copyFrom_28 ?_
  refine zv_aload_n C 0 dX6_copyFrom_31 rfl rfl ?_
  refine zv_aload_n C 1 dX6_copyFrom_32 rfl rfl ?_
  refine zG6_3 C hb kX6_22 dX6_copyFrom_33 ?_
  refine zv_eqi (y := (gI σ b 3)) (by have := kd6_apart hk hb hne; simp only [gI_sI, gI_cpI]; rw [if_neg (by omega), if_neg (by omega), if_neg (by omega)]) ?_
  refine zP6_3 C hk kX6_22 dX6_copyFrom_36 ?_
  refine zv_aload_n C 1 dX6_copyFrom_39 rfl rfl ?_
  refine zG6_4 C hb kX6_25 dX6_copyFrom_40 ?_
  refine zv_iconst (v := zI 0) C dX6_copyFrom_43 rfl ?_
  refine zv_aload_n C 0 dX6_copyFrom_44 rfl rfl ?_
  refine zG6_4 C hk kX6_25 dX6_copyFrom_45 ?_
  refine zv_iconst (v := zI 0) C dX6_copyFrom_48 rfl ?_
  refine zv_bipush (v := zI 8) C dX6_copyFrom_49 (by decide) ?_
  refine zv_acpI (a := b + 2) (b := k + 2) (n := 8) (st := []) C kX6_41 (zst hb).2.1.1 (zst hk).2.1.1 (by rw [(zst hb).2.1.2]; decide) (by rw [(zst hk).2.1.2]; decide) ⟨Nat.le_of_ble_eq_true rfl, Nat.le_of_ble_eq_true rfl⟩ dX6_copyFrom_51 ?_
  refine zv_iconst (v := zI 0) C dX6_copyFrom_54 rfl ?_
  refine zv_istore_n (lv' := [(2, .int (zI 0)), (0, .ref (ob E k)), (1, .ref (ob E b))]) C dX6_copyFrom_55 rfl (by decide) rfl ?_
  have q56_33 : (0 : Int) = (0 : Int) := by first | rfl | omega
  refine zv_sub (lv' := [(0, .ref (ob E k)), (1, .ref (ob E b)), (2, .int (zI (0 : Int)))]) [1, 2, 0] (zcons rfl (zcons rfl (zcons (zqI q56_33) rfl))) ?_
  refine zv_eqS (τ := (cpS σ k b (4 + 2 * 0))) (cpS_0 σ k b (kd6_apart hk hb hne)) ?_
  refine zv_while (α := Nat) (fun v => 8 - v) (fun v => v ≤ 8) (fun v => (cpS σ k b (4 + 2 * v))) (fun v => [(0, .ref (ob E k)), (1, .ref (ob E b)), (2, .int (zI (v : Int)))]) (fun v => []) (fun j hI ih => ?_) (0) (by omega)
  refine zv_iload_n C 2 dX6_copyFrom_56 rfl rfl ?_
  refine zv_bipush (v := zI 8) C dX6_copyFrom_57 (by decide) ?_
  refine zv_icmp_geZ (tgt := 83) C (by omega) (by omega) dX6_copyFrom_59 (by decide) (fun h59 => ?_) (fun h59 => ?_)
  · skip
    exact zv_vret C hr dX6_copyFrom_83 (by rw [show j = 8 by omega])
  · skip
    refine zv_aload_n C 0 dX6_copyFrom_62 rfl rfl ?_
    refine zG6_5 C hk kX6_30 dX6_copyFrom_63 ?_
    refine zv_iload_n C 2 dX6_copyFrom_66 rfl rfl ?_
    refine zv_tald (j := j) C (zst hk).2.2.1.1 (zI_ix (by omega)) (by rw [(zst hk).2.2.1.2]; omega) dX6_copyFrom_67 ?_
    refine zv_aload_n C 1 dX6_copyFrom_68 rfl rfl ?_
    refine zG6_5 C hb kX6_30 dX6_copyFrom_69 ?_
    refine zv_iload_n C 2 dX6_copyFrom_72 rfl rfl ?_
    refine zv_tald (j := j) C (zst hb).2.2.1.1 (zI_ix (by omega)) (by rw [(zst hb).2.2.1.2]; omega) dX6_copyFrom_73 ?_
    refine zv_cvvD (st := []) C (c_X8_copyFrom hfl E (cpS σ k b (4 + 2 * j)) (k + 4 + 2 * j) (b + 4 + 2 * j) ((zst hk).2.2.2 j (by omega)).1 ((zst hb).2.2.2 j (by omega)).1) mX8_copyFrom kX6_47 ((zst hk).2.2.2 j (by omega)).1 rfl rfl rfl ⟨rfl, rfl⟩ (show zfit (zrm 1 60) 2 (zrm 2 81) = true from rfl) (Nat.le_of_ble_eq_true rfl) dX6_copyFrom_74 ⟨Nat.zero_le _, Nat.zero_le _⟩ ?_
    refine zv_iinc (v := (zI ((j : Int) + 1))) (lv' := [(2, .int (zI ((j : Int) + 1))), (0, .ref (ob E k)), (1, .ref (ob E b))]) C 2 dX6_copyFrom_77 rfl (zI_add _ _) (by decide) rfl ?_
    refine zv_goto (tgt := 56) C dX6_copyFrom_80 (by decide) ?_
    have q56_54 : ((j : Int) + 1 : Int) = ((j + 1 : Nat) : Int) := by first | rfl | omega
    refine zv_sub (lv' := [(0, .ref (ob E k)), (1, .ref (ob E b)), (2, .int (zI ((j + 1 : Nat) : Int)))]) [1, 2, 0] (zcons rfl (zcons rfl (zcons (zqI q56_54) rfl))) ?_
    refine zv_eqS (τ := (cpS σ k b (4 + 2 * (j + 1)))) (cpS_s σ k b j (by omega) (kd6_apart hk hb hne)) ?_
    exact ih (j + 1) (by omega) (by omega)
set_option maxRecDepth 20000 in
theorem c_X6_clearAll {l : Launch} (hfl : l.stackTraces = false) (E : zE) (σ : zS) (k : Nat) (hk : kd k = 6) : zRv l E yX6_clearAll cX6_clearAll 2 (zrm 1 21) [.ref (ob E k)] σ (fun τ => τ = emT (flI (sI (sI (sI σ k 1 (zI 0)) k 2 (zI 60)) k 3 (zI 0)) (k + 2) 8 (zI 0)) k 8) := by
  refine Met.ofW (cc := cX6_clearAll) (maxL := 2) (ret := none) (by decide +kernel) rfl ?_
  intro p e s m args below meth c s₁ B hml hv
  obtain ⟨rfl, hd⟩ := hv
  have C := zX_of (own := RX6) hfl B hml rfl hd rfl
  have hr := B.returns
  refine zV_go hd (Nat.le_of_ble_eq_true rfl) (lv := [(0, .ref (ob E k))]) rfl ?_
  refine zv_aload_n C 0 dX6_clearAll_0 rfl rfl ?_
  refine zv_iconst (v := zI 0) C dX6_clearAll_1 rfl ?_
  refine zP6_1 C hk kX6_15 dX6_clearAll_2 ?_
  refine zv_aload_n C 0 dX6_clearAll_5 rfl rfl ?_
  refine zv_bipush (v := zI 60) C dX6_clearAll_6 (by decide) ?_
  refine zP6_2 C hk kX6_19 dX6_clearAll_8 ?_
  refine zv_aload_n C 0 dX6_clearAll_11 rfl rfl ?_
  refine zv_iconst (v := zI 0) C dX6_clearAll_12 rfl ?_
  refine zP6_3 C hk kX6_22 dX6_clearAll_13 ?_
  refine zv_aload_n C 0 dX6_clearAll_16 rfl rfl ?_
  refine zv_cvvD (st := []) C (c_X6_freeAllLags hfl E (sI (sI (sI σ k 1 (zI 0)) k 2 (zI 60)) k 3 (zI 0)) (k) hk) mX6_freeAllLags kX6_35 hk rfl rfl rfl ⟨rfl, rfl⟩ (show zfit (zrm 0 0) 2 (zrm 1 21) = true from rfl) (Nat.le_of_ble_eq_true rfl) dX6_clearAll_17 ⟨Nat.zero_le _, Nat.zero_le _⟩ ?_
  refine zv_iconst (v := zI 0) C dX6_clearAll_20 rfl ?_
  refine zv_istore_n (lv' := [(1, .int (zI 0)), (0, .ref (ob E k))]) C dX6_clearAll_21 rfl (by decide) rfl ?_
  have q22_13 : (0 : Int) = (0 : Int) := by first | rfl | omega
  refine zv_sub (lv' := [(0, .ref (ob E k)), (1, .int (zI (0 : Int)))]) [1, 0] (zcons rfl (zcons (zqI q22_13) rfl)) ?_
  refine zv_eqS (τ := (emT (flI (sI (sI (sI σ k 1 (zI 0)) k 2 (zI 60)) k 3 (zI 0)) (k + 2) 8 (zI 0)) k 0)) ((emT_0 (flI (sI (sI (sI σ k 1 (zI 0)) k 2 (zI 60)) k 3 (zI 0)) (k + 2) 8 (zI 0)) k).symm) ?_
  refine zv_while (α := Nat) (fun v => 8 - v) (fun v => v ≤ 8) (fun v => (emT (flI (sI (sI (sI σ k 1 (zI 0)) k 2 (zI 60)) k 3 (zI 0)) (k + 2) 8 (zI 0)) k v)) (fun v => [(0, .ref (ob E k)), (1, .int (zI (v : Int)))]) (fun v => []) (fun j hI ih => ?_) (0) (by omega)
  refine zv_iload_n C 1 dX6_clearAll_22 rfl rfl ?_
  refine zv_bipush (v := zI 8) C dX6_clearAll_23 (by decide) ?_
  refine zv_icmp_geZ (tgt := 44) C (by omega) (by omega) dX6_clearAll_25 (by decide) (fun h25 => ?_) (fun h25 => ?_)
  · skip
    exact zv_vret C hr dX6_clearAll_44 (by rw [show j = 8 by omega])
  · skip
    refine zv_aload_n C 0 dX6_clearAll_28 rfl rfl ?_
    refine zG6_5 C hk kX6_30 dX6_clearAll_29 ?_
    refine zv_iload_n C 1 dX6_clearAll_32 rfl rfl ?_
    refine zv_tald (j := j) C (zst hk).2.2.1.1 (zI_ix (by omega)) (by rw [(zst hk).2.2.1.2]; omega) dX6_clearAll_33 ?_
    refine zv_iconst (v := zI 0) C dX6_clearAll_34 rfl ?_
    refine zP8_1 C ((zst hk).2.2.2 j (by omega)).1 kX6_38 dX6_clearAll_35 ?_
    refine zv_iinc (v := (zI ((j : Int) + 1))) (lv' := [(1, .int (zI ((j : Int) + 1))), (0, .ref (ob E k))]) C 1 dX6_clearAll_38 rfl (zI_add _ _) (by decide) rfl ?_
    refine zv_goto (tgt := 22) C dX6_clearAll_41 (by decide) ?_
    have q22_31 : ((j : Int) + 1 : Int) = ((j + 1 : Nat) : Int) := by first | rfl | omega
    refine zv_sub (lv' := [(0, .ref (ob E k)), (1, .int (zI ((j + 1 : Nat) : Int)))]) [1, 0] (zcons rfl (zcons (zqI q22_31) rfl)) ?_
    refine zv_eqS (τ := (emT (flI (sI (sI (sI σ k 1 (zI 0)) k 2 (zI 60)) k 3 (zI 0)) (k + 2) 8 (zI 0)) k (j + 1))) (emT_s (flI (sI (sI (sI σ k 1 (zI 0)) k 2 (zI 60)) k 3 (zI 0)) (k + 2) 8 (zI 0)) k j) ?_
    exact ih (j + 1) (by omega) (by omega)
theorem tBot_pos (tc : Nat → Nat → Nat) (n : Nat) (h : ∀ i, i < n → tc i 0 ≠ 2 → 1 ≤ tc i 2) : ∀ j, j ≤ n → 1 ≤ tBot tc j := by
  intro j
  induction j with
  | zero => intro _; exact Int.le_refl _
  | succ j ih =>
    intro hj
    have h1 := ih (by omega)
    simp only [tBot]
    split
    · omega
    · rename_i q
      have h2 : (1 : Int) ≤ (tc j 2 : Int) := by have := h j (by omega) q; omega
      have h3 : (1 : Int) * 1 ≤ tBot tc j * tc j 2 := Int.mul_le_mul h1 h2 (by omega) (by omega)
      omega
/-- a train as the drive has it -/
def zTw (n : Nat) (tc : Nat → Nat → Nat) : Prop := n ≤ 4 ∧ tGe tc n ≤ 2 ∧ ∀ i, i < n → tc i 0 ≤ 2 ∧ 8 ≤ tc i 1 ∧ tc i 1 ≤ 100 ∧ (tc i 0 = 2 → tc i 2 = 0) ∧ (tc i 0 ≠ 2 → 8 ≤ tc i 2 ∧ tc i 2 ≤ 100)
theorem tBot_le (tc : Nat → Nat → Nat) (n : Nat) (h : zTw n tc) : ∀ j, j ≤ n → 1 ≤ tBot tc j ∧ tBot tc j ≤ 100 ^ tGe tc j := by
  intro j
  induction j with
  | zero => intro _; exact ⟨Int.le_refl _, Int.le_refl _⟩
  | succ j ih =>
    intro hj
    obtain ⟨h1, h1'⟩ := ih (by omega)
    obtain ⟨-, -, -, -, h5⟩ := h.2.2 j (by omega)
    simp only [tBot, tGe]
    split
    · simpa using ⟨h1, h1'⟩
    · rename_i q
      have h2 := h5 q
      refine ⟨?_, ?_⟩
      · have h3 : (1 : Int) * 1 ≤ tBot tc j * tc j 2 := Int.mul_le_mul h1 (by omega) (by omega) (by omega)
        omega
      · rw [Int.pow_succ]
        exact Int.mul_le_mul h1' (by omega) (by omega) (by have : (0:Int) < 100 ^ tGe tc j := Int.pow_pos (by decide); omega)
theorem tGe_mono (tc : Nat → Nat → Nat) {i j : Nat} (h : i ≤ j) : tGe tc i ≤ tGe tc j := by
  induction j with
  | zero => rw [show i = 0 by omega]; exact Nat.le_refl _
  | succ j ih =>
    rcases Nat.lt_or_ge i (j + 1) with g | g
    · have := ih (by omega); simp only [tGe]; split <;> omega
    · rw [show i = j + 1 by omega]; exact Nat.le_refl _
theorem tBot_10000 (tc : Nat → Nat → Nat) (n : Nat) (h : zTw n tc) (j : Nat) (hj : j ≤ n) : 1 ≤ tBot tc j ∧ tBot tc j ≤ 10000 := by
  obtain ⟨h1, h2⟩ := tBot_le tc n h j hj
  refine ⟨h1, Int.le_trans h2 ?_⟩
  have h3 : tGe tc j ≤ 2 := Nat.le_trans (tGe_mono tc hj) h.2.1
  rcases (show tGe tc j = 0 ∨ tGe tc j = 1 ∨ tGe tc j = 2 by omega) with q | q | q <;> rw [q] <;> decide
theorem tPl_le (tc : Nat → Nat → Nat) (n : Nat) (h : zTw n tc) (a : Int) (ha : 0 ≤ a ∧ a ≤ 999) : ∀ j, j ≤ n → 0 ≤ tPl tc a j ∧ tPl tc a j ≤ 2 * 999 * j * 10000 * 100 ^ tGe tc j := by
  intro j
  induction j with
  | zero => intro _; exact ⟨Int.le_refl _, Int.le_refl _⟩
  | succ j ih =>
    intro hj
    obtain ⟨h1, h1'⟩ := ih (by omega)
    obtain ⟨b1, b2⟩ := tBot_10000 tc n h j (by omega)
    have b3 := tBot_10000 tc n h (j + 1) hj
    obtain ⟨-, c1, c2, -, h5⟩ := h.2.2 j (by omega)
    have hp : (0 : Int) < 100 ^ tGe tc j := Int.pow_pos (by decide)
    generalize hP : (100 : Int) ^ tGe tc j = P at *
    simp only [tPl, tGe]
    split
    · simp only [Nat.add_zero, hP]
      have e1 : 2 * a * tBot tc j ≤ 2 * 999 * 10000 := Int.mul_le_mul (by omega) b2 (by omega) (by omega)
      have e2 : 0 ≤ 2 * a * tBot tc j := Int.mul_nonneg (by omega) (by omega)
      have e3 : 2 * 999 * 10000 * 1 ≤ 2 * 999 * 10000 * P := Int.mul_le_mul_of_nonneg_left (by omega) (by decide)
      have e4 : 2 * 999 * ((j + 1 : Nat) : Int) * 10000 * P = 2 * 999 * (j : Int) * 10000 * P + 2 * 999 * 10000 * P := by
        rw [show ((j + 1 : Nat) : Int) = (j : Int) + 1 from rfl, Int.mul_add, Int.add_mul, Int.add_mul]; rfl
      omega
    · rename_i q
      have e0 : tBot tc j * (tc j 2 : Int) = tBot tc (j + 1) := by simp only [tBot]; rw [if_neg q]
      rw [e0, Int.pow_succ, hP]
      have e1 : a * tBot tc (j + 1) ≤ 999 * 10000 := Int.mul_le_mul ha.2 b3.2 (by omega) (by omega)
      have e2 : 0 ≤ a * tBot tc (j + 1) := Int.mul_nonneg ha.1 (by omega)
      have e3 : tPl tc a j * (tc j 1 : Int) ≤ 2 * 999 * (j : Int) * 10000 * P * 100 := Int.mul_le_mul h1' (by omega) (by omega) (Int.mul_nonneg (by omega) (by omega))
      have e5 : 0 ≤ tPl tc a j * (tc j 1 : Int) := Int.mul_nonneg h1 (by omega)
      have e4 : 2 * 999 * ((j + 1 : Nat) : Int) * 10000 * (P * 100) = 2 * 999 * (j : Int) * 10000 * P * 100 + 2 * 999 * 10000 * P * 100 := by
        rw [show ((j + 1 : Nat) : Int) = (j : Int) + 1 from rfl, Int.mul_add, Int.add_mul, Int.add_mul, ← Int.mul_assoc, ← Int.mul_assoc]; rfl
      have e6 : 2 * 999 * 10000 * 1 ≤ 2 * 999 * 10000 * P := Int.mul_le_mul_of_nonneg_left (by omega) (by decide)
      omega
theorem tPl_bound (tc : Nat → Nat → Nat) (n : Nat) (h : zTw n tc) (a : Int) (ha : 0 ≤ a ∧ a ≤ 999) : 0 ≤ tPl tc a n ∧ tPl tc a n ≤ 1000000000000 := by
  obtain ⟨h1, h2⟩ := tPl_le tc n h a ha n (Nat.le_refl _)
  refine ⟨h1, Int.le_trans h2 ?_⟩
  have h3 := h.2.1
  have h4 := h.1
  rcases (show tGe tc n = 0 ∨ tGe tc n = 1 ∨ tGe tc n = 2 by omega) with q | q | q <;> rw [q] <;> omega
set_option maxRecDepth 20000 in
theorem c_X8_playWith {l : Launch} (hfl : l.stackTraces = false) (E : zE) (σ : zS) (k n : Nat) (tc : Nat → Nat → Nat) (a : Int) (hk : kd k = 8) (hT : zTr σ k n tc) (hw : zTw n tc) (ha : 0 ≤ a ∧ a ≤ 999) : zRi l E yX8_playWith cX8_playWith 7 .int (zrm 2 44) [.ref (ob E k), .int (zI a)] σ (fun r τ => r = zI (tPl tc a n / tBot tc n) ∧ τ = σ) := by
  refine Met.ofW (cc := cX8_playWith) (maxL := 7) (ret := (some .int)) (by decide +kernel) rfl ?_
  intro p e s m args below meth c s₁ B hml hv
  obtain ⟨rfl, hd⟩ := hv
  have C := zX_of (own := RX8) hfl B hml rfl hd rfl
  have hr := B.returns
  refine zV_go hd (Nat.le_of_ble_eq_true rfl) (lv := [(0, .ref (ob E k)), (1, .int (zI a))]) rfl ?_
  have hn := hT.2.1
  have hb := tBot_10000 tc n hw n (Nat.le_refl _)
  have hp := tPl_bound tc n hw a ha
  refine zv_lconst (v := zL 0) C dX8_playWith_0 (by decide) ?_
  refine zv_lstore_n (lv' := [(2, .long (zL 0)), (0, .ref (ob E k)), (1, .int (zI a))]) C dX8_playWith_1 rfl (by decide) rfl ?_
  refine zv_lconst (v := zL 1) C dX8_playWith_2 (by decide) ?_
  refine zv_lstore (lv' := [(4, .long (zL 1)), (2, .long (zL 0)), (0, .ref (ob E k)), (1, .int (zI a))]) C dX8_playWith_3  (by decide) rfl ?_
  refine zv_iconst (v := zI 0) C dX8_playWith_5 rfl ?_
  refine zv_istore (lv' := [(6, .int (zI 0)), (4, .long (zL 1)), (2, .long (zL 0)), (0, .ref (ob E k)), (1, .int (zI a))]) C dX8_playWith_6  (by decide) rfl ?_
  have q8_9 : (0 : Int) = (0 : Int) := by first | rfl | omega
  have q8_10 : (1 : Int) = tBot tc 0 := by first | rfl | omega
  have q8_11 : (0 : Int) = tPl tc a 0 := by first | rfl | omega
  refine zv_sub (lv' := [(0, .ref (ob E k)), (1, .int (zI a)), (2, .long (zL (tPl tc a 0))), (4, .long (zL (tBot tc 0))), (6, .int (zI (0 : Int)))]) [3, 4, 2, 1, 0] (zcons rfl (zcons rfl (zcons (zqL q8_11) (zcons (zqL q8_10) (zcons (zqI q8_9) rfl))))) ?_
  refine zv_while (α := Nat) (fun v => n - v) (fun v => v ≤ n) (fun v => σ) (fun v => [(0, .ref (ob E k)), (1, .int (zI a)), (2, .long (zL (tPl tc a v))), (4, .long (zL (tBot tc v))), (6, .int (zI (v : Int)))]) (fun v => []) (fun j hI ih => ?_) (0) (by omega)
  refine zv_iload C 4 dX8_playWith_8 rfl ?_
  refine zv_aload_n C 0 dX8_playWith_10 rfl rfl ?_
  refine zG8_1 C hk kX8_15 dX8_playWith_11 ?_
  refine zv_eqi (y := zI (n : Int)) (hT.1) ?_
  refine zv_icmp_geZ (tgt := 75) C (by omega) (by omega) dX8_playWith_14 (by decide) (fun h14 => ?_) (fun h14 => ?_)
  · skip
    refine zv_lload C 3 dX8_playWith_75 rfl ?_
    refine zv_lconst (v := zL 0) C dX8_playWith_77 (by decide) ?_
    refine zv_lc_leZ (tgt := 90) C (by rw [show j = n by omega]; omega) (by omega) dX8_playWith_78 dX8_playWith_79 (by decide) (fun h78 => ?_) (fun h78 => ?_)
    · exfalso
      rw [show j = n by omega] at h78; omega
    · skip
      refine zv_lload_n C 2 dX8_playWith_82 rfl rfl ?_
      refine zv_lload C 3 dX8_playWith_83 rfl ?_
      refine zv_ldivP C (by rw [show j = n by omega]; omega) (by rw [show j = n by omega]; omega) dX8_playWith_85 ?_
      refine zv_l2iZ C dX8_playWith_86 ?_
      refine zv_goto (tgt := 91) C dX8_playWith_87 (by decide) ?_
      exact zv_iret C hr rfl dX8_playWith_91 ⟨by rw [show j = n by omega], rfl⟩
  · skip
    refine zv_aload_n C 0 dX8_playWith_17 rfl rfl ?_
    refine zv_iload C 4 dX8_playWith_18 rfl ?_
    refine zv_cviD (st := []) C (c_X8_isGeared hfl E σ k n tc j hk hT (by omega)) mX8_isGeared kX8_37 hk rfl rfl rfl ⟨rfl, rfl⟩ (show zfit (zrm 1 23) 2 (zrm 2 44) = true from rfl) (Nat.le_of_ble_eq_true rfl) dX8_playWith_20 ⟨Nat.zero_le _, Nat.zero_le _⟩ ?_
    refine zv_if_eqB (tgt := 59) C dX8_playWith_23 (by decide) (fun h23 => ?_) (fun h23 => ?_)
    · skip
      refine zv_lload_n C 2 dX8_playWith_59 rfl rfl ?_
      refine zv_iconst (v := zI 2) C dX8_playWith_60 rfl ?_
      refine zv_iload_n C 1 dX8_playWith_61 rfl rfl ?_
      refine zv_imulZ C dX8_playWith_62 ?_
      refine zv_i2lZ C (by omega) dX8_playWith_63 ?_
      refine zv_lload C 3 dX8_playWith_64 rfl ?_
      refine zv_lmulZ C dX8_playWith_66 ?_
      refine zv_laddZ C dX8_playWith_67 ?_
      refine zv_lstore_n (lv' := [(2, .long (zL ((tPl tc a j) + ((2 * a) * (tBot tc j))))), (0, .ref (ob E k)), (1, .int (zI a)), (4, .long (zL (tBot tc j))), (6, .int (zI (j : Int)))]) C dX8_playWith_68 rfl (by decide) rfl ?_
      refine zv_iinc (v := (zI ((j : Int) + 1))) (lv' := [(6, .int (zI ((j : Int) + 1))), (2, .long (zL ((tPl tc a j) + ((2 * a) * (tBot tc j))))), (0, .ref (ob E k)), (1, .int (zI a)), (4, .long (zL (tBot tc j)))]) C 4 dX8_playWith_69 rfl (zI_add _ _) (by decide) rfl ?_
      refine zv_goto (tgt := 8) C dX8_playWith_72 (by decide) ?_
      have q8_49 : ((j : Int) + 1 : Int) = ((j + 1 : Nat) : Int) := by first | rfl | omega
      have q8_50 : (tBot tc j : Int) = tBot tc (j + 1) := by simp only [tBot]; first | (rw [if_pos (by omega)]; omega) | rw [if_neg (by omega)]
      have q8_51 : ((tPl tc a j) + ((2 * a) * (tBot tc j)) : Int) = tPl tc a (j + 1) := by simp only [tPl]; first | rw [if_pos (by omega)] | rw [if_neg (by omega)]
      refine zv_sub (lv' := [(0, .ref (ob E k)), (1, .int (zI a)), (2, .long (zL (tPl tc a (j + 1)))), (4, .long (zL (tBot tc (j + 1)))), (6, .int (zI ((j + 1 : Nat) : Int)))]) [2, 3, 1, 4, 0] (zcons rfl (zcons rfl (zcons (zqL q8_51) (zcons (zqL q8_50) (zcons (zqI q8_49) rfl))))) ?_
      exact ih (j + 1) (by omega) (by omega)
    · skip
      refine zv_lload C 3 dX8_playWith_26 rfl ?_
      refine zv_aload_n C 0 dX8_playWith_28 rfl rfl ?_
      refine zv_iload C 4 dX8_playWith_29 rfl ?_
      refine zv_iconst (v := zI 2) C dX8_playWith_31 rfl ?_
      refine zv_cviD (st := [.long (zL (tBot tc j))]) C (c_cell hfl E σ k n tc j 2 hk hT (by omega) (by decide)) mX8_cell kX8_25 hk rfl rfl rfl ⟨rfl, rfl⟩ (show zfit (zrm 0 0) 4 (zrm 2 44) = true from rfl) (Nat.le_of_ble_eq_true rfl) dX8_playWith_32 ⟨Nat.zero_le _, Nat.zero_le _⟩ ?_
      refine zv_i2lZ C (by have := hT.2.2.2 j 2 (by omega) (by decide); omega) dX8_playWith_35 ?_
      refine zv_lmulZ C dX8_playWith_36 ?_
      refine zv_lstore (lv' := [(4, .long (zL ((tBot tc j) * (tc j 2 : Int)))), (0, .ref (ob E k)), (1, .int (zI a)), (2, .long (zL (tPl tc a j))), (6, .int (zI (j : Int)))]) C dX8_playWith_37  (by decide) rfl ?_
      refine zv_lload_n C 3 dX8_playWith_39 rfl rfl ?_
      refine zv_aload_n C 1 dX8_playWith_40 rfl rfl ?_
      refine zv_iload C 4 dX8_playWith_41 rfl ?_
      refine zv_iconst (v := zI 1) C dX8_playWith_43 rfl ?_
      refine zv_cviD (st := [.long (zL (tPl tc a j))]) C (c_cell hfl E σ k n tc j 1 hk hT (by omega) (by decide)) mX8_cell kX8_25 hk rfl rfl rfl ⟨rfl, rfl⟩ (show zfit (zrm 0 0) 4 (zrm 2 44) = true from rfl) (Nat.le_of_ble_eq_true rfl) dX8_playWith_44 ⟨Nat.zero_le _, Nat.zero_le _⟩ ?_
      refine zv_i2lZ C (by have := hT.2.2.2 j 1 (by omega) (by decide); omega) dX8_playWith_47 ?_
      refine zv_lmulZ C dX8_playWith_48 ?_
      refine zv_iload_n C 2 dX8_playWith_49 rfl rfl ?_
      refine zv_i2lZ C (by omega) dX8_playWith_50 ?_
      refine zv_lload C 0 dX8_playWith_51 rfl ?_
      refine zv_lmulZ C dX8_playWith_53 ?_
      refine zv_laddZ C dX8_playWith_54 ?_
      refine zv_lstore_n (lv' := [(2, .long (zL (((tPl tc a j) * (tc j 1 : Int)) + (a * ((tBot tc j) * (tc j 2 : Int)))))), (4, .long (zL ((tBot tc j) * (tc j 2 : Int)))), (0, .ref (ob E k)), (1, .int (zI a)), (6, .int (zI (j : Int)))]) C dX8_playWith_55 rfl (by decide) rfl ?_
      refine zv_goto (tgt := 69) C dX8_playWith_56 (by decide) ?_
      refine zv_iinc (v := (zI ((j : Int) + 1))) (lv' := [(6, .int (zI ((j : Int) + 1))), (2, .long (zL (((tPl tc a j) * (tc j 1 : Int)) + (a * ((tBot tc j) * (tc j 2 : Int)))))), (4, .long (zL ((tBot tc j) * (tc j 2 : Int)))), (0, .ref (ob E k)), (1, .int (zI a))]) C 4 dX8_playWith_69 rfl (zI_add _ _) (by decide) rfl ?_
      refine zv_goto (tgt := 8) C dX8_playWith_72 (by decide) ?_
      have q8_79 : ((j : Int) + 1 : Int) = ((j + 1 : Nat) : Int) := by first | rfl | omega
      have q8_80 : ((tBot tc j) * (tc j 2 : Int) : Int) = tBot tc (j + 1) := by simp only [tBot]; first | (rw [if_pos (by omega)]; omega) | rw [if_neg (by omega)]
      have q8_81 : (((tPl tc a j) * (tc j 1 : Int)) + (a * ((tBot tc j) * (tc j 2 : Int))) : Int) = tPl tc a (j + 1) := by simp only [tPl]; first | rw [if_pos (by omega)] | rw [if_neg (by omega)]
      refine zv_sub (lv' := [(0, .ref (ob E k)), (1, .int (zI a)), (2, .long (zL (tPl tc a (j + 1)))), (4, .long (zL (tBot tc (j + 1)))), (6, .int (zI ((j + 1 : Nat) : Int)))]) [3, 4, 1, 2, 0] (zcons rfl (zcons rfl (zcons (zqL q8_81) (zcons (zqL q8_80) (zcons (zqI q8_79) rfl))))) ?_
      exact ih (j + 1) (by omega) (by omega)
