/-- what is written, byte by byte, at n -/
def oW (k b f : Nat) : zS → Nat → List Nat → zS
  | σ, _, [] => σ
  | σ, n, x :: L => oW k b f (sI (sI σ b n (zI (x : Int))) k f (zI ((n + 1 : Nat) : Int))) (n + 1) L
theorem oW_app (k b f : Nat) (L M : List Nat) : ∀ (σ : zS) (n : Nat), oW k b f σ n (L ++ M) = oW k b f (oW k b f σ n L) (n + L.length) M := by
  induction L with
  | nil => intro σ n; rfl
  | cons x L ih =>
    intro σ n
    show oW k b f _ (n + 1) (L ++ M) = oW k b f (oW k b f _ (n + 1) L) (n + (L.length + 1)) M
    rw [ih, show n + 1 + L.length = n + (L.length + 1) by omega]
theorem oW_n {k b f : Nat} (L : List Nat) : ∀ (σ : zS) (n : Nat), gI σ k f = zI (n : Int) → gI (oW k b f σ n L) k f = zI ((n + L.length : Nat) : Int) := by
  induction L with
  | nil => intro σ n h; exact h
  | cons x L ih =>
    intro σ n h
    have := ih (sI (sI σ b n (zI (x : Int))) k f (zI ((n + 1 : Nat) : Int))) (n + 1) (by rw [gI_sI, if_pos ⟨rfl, rfl⟩])
    rw [show (n + (x :: L).length) = n + 1 + L.length by simp; omega]
    exact this
theorem zI_b8 {x : Nat} (h : x < 128) : (zI (x : Int)).toInt8.toInt32 = zI (x : Int) := by
  have h0 : ∀ y, y < 128 → (zI ((y : Nat) : Int)).toInt8.toInt32 = zI ((y : Nat) : Int) := by decide +kernel
  exact h0 x h
theorem zI_n8 {x : Nat} (h : x < 128) : vp_nar .byte (zI (x : Int)) = zI (x : Int) := by
  have h0 : ∀ y, y < 128 → vp_nar .byte (zI ((y : Nat) : Int)) = zI ((y : Nat) : Int) := by decide +kernel
  exact h0 x h
theorem kU_dec {a : Nat} (h : ¬ a < 10) : a / 10 < a := Nat.div_lt_self (by omega) (by decide)
/-- the digits of a number but one -/
def kU (a : Nat) : Nat := if h : a < 10 then 0 else kU (a / 10) + 1
termination_by a
decreasing_by exact kU_dec h
theorem kU_eq : ∀ (k a : Nat), (∀ i, i < k → 10 ≤ a / 10 ^ i) → a / 10 ^ k < 10 → k = kU a := by
  intro k
  induction k with
  | zero => intro a _ h; rw [kU, dif_pos (by simpa using h)]
  | succ k ih =>
    intro a h1 h2
    have h0 : 10 ≤ a := by simpa using h1 0 (by omega)
    have e : ∀ i, a / 10 / 10 ^ i = a / 10 ^ (i + 1) := fun i => by rw [Nat.div_div_eq_div_mul, Nat.pow_succ, Nat.mul_comm]
    rw [kU, dif_neg (by omega), ← ih (a / 10) (fun i hi => by rw [e]; exact h1 (i + 1) (by omega)) (by rw [e]; exact h2)]
/-- the first i digits -/
def lD (a k i : Nat) : List Nat := (List.range i).map (fun j => 48 + a / (10 ^ k / 10 ^ j) % 10)
theorem lD_s (a k i : Nat) : lD a k (i + 1) = lD a k i ++ [48 + a / (10 ^ k / 10 ^ i) % 10] := by simp [lD, List.range_succ]
theorem lD_l (a k i : Nat) : (lD a k i).length = i := by simp [lD]
def lNum (z : Int) : List Nat := (if z < 0 then [45] else []) ++ lD z.natAbs (kU z.natAbs) (kU z.natAbs + 1)
/-- the bytes of a name that are not 0, the first j of them -/
def lB (v j : Nat) : List Nat := ((List.range j).map (fun i => v / 2 ^ (56 - 8 * i) % 128)).filter (· ≠ 0)
theorem lB_s (v j : Nat) : lB v (j + 1) = lB v j ++ (if v / 2 ^ (56 - 8 * j) % 128 = 0 then [] else [v / 2 ^ (56 - 8 * j) % 128]) := by
  simp only [lB, List.range_succ, List.map_append, List.filter_append, List.map_cons, List.map_nil]
  split
  · rename_i h; simp [h]
  · rename_i h; simp [h]
theorem lB_l (v : Nat) : ∀ j, (lB v j).length ≤ j := by
  intro j
  have := List.length_filter_le (p := fun x => decide (x ≠ 0)) (l := (List.range j).map (fun i => v / 2 ^ (56 - 8 * i) % 128))
  simpa [lB] using this
theorem zL_s8 {F j : Nat} (hF : F < 2 ^ 62) (hj : j < 8) : zL (F : Int) >>> ((zI (56 - 8 * (j : Int))).toInt64 &&& 63) = zL ((F / 2 ^ (56 - 8 * j) : Nat) : Int) := by
  rcases (show j = 0 ∨ j = 1 ∨ j = 2 ∨ j = 3 ∨ j = 4 ∨ j = 5 ∨ j = 6 ∨ j = 7 by omega) with h | h | h | h | h | h | h | h <;> subst h <;> exact zL_shr (by decide +kernel) hF
theorem zL_a7 {a : Nat} (ha : a < 2 ^ 62) : zL (a : Int) &&& zL 127 = zL ((a % 128 : Nat) : Int) := by
  have h := zL_and (a := a) (b := 127) (by omega) (by decide)
  rw [show ((127 : Nat) : Int) = 127 from rfl] at h
  rw [h, show 127 = 2 ^ 7 - 1 from rfl, Nat.and_two_pow_sub_one_eq_mod]
set_option maxRecDepth 20000 in
theorem c_X2_putByte {l : Launch} (hfl : l.stackTraces = false) (E : zE) (σ : zS) (n x : Nat) (hn : gI σ 316 1 = zI (n : Int)) (hn2 : n < 1024) (hx : x < 128) : zRv l E yX2_putByte cX2_putByte 2 (zrm 0 0) [.ref (ob E 316), .int (zI (x : Int))] σ (fun τ => τ = sI (sI σ 317 n (zI (x : Int))) 316 1 (zI ((n + 1 : Nat) : Int))) := by
  refine Met.ofW (cc := cX2_putByte) (maxL := 2) (ret := none) (by decide +kernel) rfl ?_
  intro p e s m args below meth c s₁ B hml hv
  obtain ⟨rfl, hd⟩ := hv
  have C := zX_of (own := RX2) hfl B hml rfl hd rfl
  have hr := B.returns
  refine zV_go hd (Nat.le_of_ble_eq_true rfl) (lv := [(0, .ref (ob E 316)), (1, .int (zI (x : Int)))]) rfl ?_
  refine zv_aload_n C 0 dX2_putByte_0 rfl rfl ?_
  refine zG2_1 C (by decide : kd 316 = _) kX2_15 dX2_putByte_1 ?_
  refine zv_eqi (y := zI (n : Int)) (hn) ?_
  refine zv_sipush (v := zI 1024) C dX2_putByte_4 (by decide) ?_
  refine zv_icmp_geZ (tgt := 31) C (by omega) (by omega) dX2_putByte_7 (by decide) (fun h7 => ?_) (fun h7 => ?_)
  · exfalso
    omega
  · skip
    refine zv_aload_n C 0 dX2_putByte_10 rfl rfl ?_
    refine zG2_0 C (by decide : kd 316 = _) kX2_9 dX2_putByte_11 ?_
    refine zv_aload_n C 0 dX2_putByte_14 rfl rfl ?_
    refine zG2_1 C (by decide : kd 316 = _) kX2_15 dX2_putByte_15 ?_
    refine zv_eqi (y := zI (n : Int)) (hn) ?_
    refine zv_iload_n C 1 dX2_putByte_18 rfl rfl ?_
    refine zv_i2b C dX2_putByte_19 ?_
    refine zv_eqi (y := (zI (x : Int))) (zI_b8 hx) ?_
    refine zv_bast (j := n) C (by decide : kd 317 = _) (zI_ix (by omega)) (Nat.lt_of_lt_of_eq hn2 (by decide)) dX2_putByte_20 ?_
    refine zv_eqS (τ := (sI σ 317 n (zI (x : Int)))) (by rw [zI_n8 hx]) ?_
    refine zv_aload_n C 0 dX2_putByte_21 rfl rfl ?_
    refine zv_dup C dX2_putByte_22 rfl ?_
    refine zG2_1 C (by decide : kd 316 = _) kX2_15 dX2_putByte_23 ?_
    refine zv_eqi (y := (zI (n : Int))) (by rw [gI_sI, if_neg (by omega)]; exact hn) ?_
    refine zv_iconst (v := zI 1) C dX2_putByte_26 rfl ?_
    refine zv_iaddZ C dX2_putByte_27 ?_
    refine zP2_1 C (by decide : kd 316 = _) kX2_15 dX2_putByte_28 ?_
    exact zv_vret C hr dX2_putByte_31 rfl
set_option maxRecDepth 20000 in
theorem c_X2_putLetters {l : Launch} (hfl : l.stackTraces = false) (E : zE) (σ : zS) (n q : Nat) (hn : gI σ 316 1 = zI (n : Int)) (hn2 : n + 8 ≤ 1024) (hv62 : q < 2 ^ 62) : zRv l E yX2_putLetters cX2_putLetters 5 (zrm 1 21) [.ref (ob E 316), .long (zL (q : Int))] σ (fun τ => τ = oW 316 317 1 σ n (lB q 8)) := by
  refine Met.ofW (cc := cX2_putLetters) (maxL := 5) (ret := none) (by decide +kernel) rfl ?_
  intro p e s m args below meth c s₁ B hml hv
  obtain ⟨rfl, hd⟩ := hv
  have C := zX_of (own := RX2) hfl B hml rfl hd rfl
  have hr := B.returns
  refine zV_go hd (Nat.le_of_ble_eq_true rfl) (lv := [(0, .ref (ob E 316)), (1, .long (zL (q : Int)))]) rfl ?_
  refine zv_bipush (v := zI 56) C dX2_putLetters_0 (by decide) ?_
  refine zv_istore_n (lv' := [(3, .int (zI 56)), (0, .ref (ob E 316)), (1, .long (zL (q : Int)))]) C dX2_putLetters_2 rfl (by decide) rfl ?_
  have q3_2 : (56 : Int) = 56 - 8 * (0 : Int) := by first | rfl | omega
  refine zv_sub (lv' := [(0, .ref (ob E 316)), (1, .long (zL (q : Int))), (3, .int (zI (56 - 8 * (0 : Int))))]) [1, 2, 0] (zcons rfl (zcons rfl (zcons (zqI q3_2) rfl))) ?_
  refine zv_eqS (τ := (oW 316 317 1 σ n (lB q 0))) (rfl) ?_
  refine zv_while (α := Nat) (fun v => 8 - v) (fun v => v ≤ 8) (fun v => (oW 316 317 1 σ n (lB q v))) (fun v => [(0, .ref (ob E 316)), (1, .long (zL (q : Int))), (3, .int (zI (56 - 8 * (v : Int))))]) (fun v => []) (fun j hI ih => ?_) (0) (by omega)
  have hl := lB_l q j
  have hnn := oW_n (b := 317) (lB q j) σ n hn
  have hm : q / 2 ^ (56 - 8 * j) ≤ q := Nat.div_le_self _ _
  have hm2 : q / 2 ^ (56 - 8 * j) % 128 < 128 := Nat.mod_lt _ (by decide)
  refine zv_iload_n C 2 dX2_putLetters_3 rfl rfl ?_
  refine zv_if_ltZ (tgt := 34) C (by omega) dX2_putLetters_4 (by decide) (fun h4 => ?_) (fun h4 => ?_)
  · skip
    exact zv_vret C hr dX2_putLetters_34 (by rw [show j = 8 by omega])
  · skip
    refine zv_lload_n C 1 dX2_putLetters_7 rfl rfl ?_
    refine zv_iload_n C 2 dX2_putLetters_8 rfl rfl ?_
    refine zv_lshr C dX2_putLetters_9 ?_
    refine zv_eql (y := (zL ((q / 2 ^ (56 - 8 * j) : Nat) : Int))) (zL_s8 hv62 (by omega)) ?_
    refine zv_ldc2 C kX2_33 dX2_putLetters_10 ?_
    refine zv_eql (y := zL 127) (by decide) ?_
    refine zv_land C dX2_putLetters_13 ?_
    refine zv_eql (y := (zL ((q / 2 ^ (56 - 8 * j) % 128 : Nat) : Int))) (zL_a7 (by omega)) ?_
    refine zv_l2iZ C dX2_putLetters_14 ?_
    refine zv_istore (lv' := [(4, .int (zI ((q / 2 ^ (56 - 8 * j) % 128 : Nat) : Int))), (0, .ref (ob E 316)), (1, .long (zL (q : Int))), (3, .int (zI (56 - 8 * (j : Int))))]) C dX2_putLetters_15  (by decide) rfl ?_
    refine zv_iload C 0 dX2_putLetters_17 rfl ?_
    refine zv_if_eqZ (tgt := 28) C (by omega) dX2_putLetters_19 (by decide) (fun h19 => ?_) (fun h19 => ?_)
    · skip
      refine zv_iinc (v := (zI (56 - 8 * (j : Int) + (-8)))) (lv' := [(3, .int (zI (56 - 8 * (j : Int) + (-8)))), (4, .int (zI ((q / 2 ^ (56 - 8 * j) % 128 : Nat) : Int))), (0, .ref (ob E 316)), (1, .long (zL (q : Int)))]) C 3 dX2_putLetters_28 rfl (zI_add _ _) (by decide) rfl ?_
      refine zv_goto (tgt := 3) C dX2_putLetters_31 (by decide) ?_
      have q3_30 : (56 - 8 * (j : Int) + (-8) : Int) = 56 - 8 * ((j + 1 : Nat) : Int) := by omega
      refine zv_sub (lv' := [(0, .ref (ob E 316)), (1, .long (zL (q : Int))), (3, .int (zI (56 - 8 * ((j + 1 : Nat) : Int))))]) [2, 3, 0] (zcons rfl (zcons rfl (zcons (zqI q3_30) rfl))) ?_
      refine zv_eqS (τ := (oW 316 317 1 σ n (lB q (j + 1)))) (by rw [lB_s]; first | (rw [if_pos (by omega), List.append_nil]) | (rw [if_neg (by omega), oW_app]; rfl)) ?_
      exact ih (j + 1) (by omega) (by omega)
    · skip
      refine zv_aload_n C 1 dX2_putLetters_22 rfl rfl ?_
      refine zv_iload C 0 dX2_putLetters_23 rfl ?_
      refine zv_cvvD (st := []) C (c_X2_putByte hfl E (oW 316 317 1 σ n (lB q j)) (n + (lB q j).length) (q / 2 ^ (56 - 8 * j) % 128) hnn (by omega) hm2) mX2_putByte kX2_19 (by decide : kd 316 = 2) rfl rfl rfl ⟨rfl, rfl⟩ (show zfit (zrm 0 0) 2 (zrm 1 21) = true from rfl) (Nat.le_of_ble_eq_true rfl) dX2_putLetters_25 ⟨Nat.zero_le _, Nat.zero_le _⟩ ?_
      refine zv_iinc (v := (zI (56 - 8 * (j : Int) + (-8)))) (lv' := [(3, .int (zI (56 - 8 * (j : Int) + (-8)))), (4, .int (zI ((q / 2 ^ (56 - 8 * j) % 128 : Nat) : Int))), (0, .ref (ob E 316)), (1, .long (zL (q : Int)))]) C 3 dX2_putLetters_28 rfl (zI_add _ _) (by decide) rfl ?_
      refine zv_goto (tgt := 3) C dX2_putLetters_31 (by decide) ?_
      have q3_40 : (56 - 8 * (j : Int) + (-8) : Int) = 56 - 8 * ((j + 1 : Nat) : Int) := by omega
      refine zv_sub (lv' := [(0, .ref (ob E 316)), (1, .long (zL (q : Int))), (3, .int (zI (56 - 8 * ((j + 1 : Nat) : Int))))]) [2, 3, 0] (zcons rfl (zcons rfl (zcons (zqI q3_40) rfl))) ?_
      refine zv_eqS (τ := (oW 316 317 1 σ n (lB q (j + 1)))) (by rw [lB_s]; first | (rw [if_pos (by omega), List.append_nil]) | (rw [if_neg (by omega), oW_app]; rfl)) ?_
      exact ih (j + 1) (by omega) (by omega)
theorem pow_d0 {i j : Nat} (h : 10 ^ j / 10 ^ i = 0) : j < i := by
  rcases Nat.lt_or_ge j i with q | q
  · exact q
  · have h1 : 10 ^ i ≤ 10 ^ j := Nat.pow_le_pow_right (by decide) q
    have h2 : 0 < 10 ^ j / 10 ^ i := Nat.div_pos h1 (Nat.pow_pos (by decide))
    omega
theorem pow_d1 {i j : Nat} (h : 0 < 10 ^ j / 10 ^ i) : i ≤ j := by
  rcases Nat.lt_or_ge j i with q | q
  · rw [Nat.div_eq_of_lt (Nat.pow_lt_pow_right (by decide) q)] at h
    omega
  · exact q
set_option maxRecDepth 20000 in
theorem c_X2_putNumber {l : Launch} (hfl : l.stackTraces = false) (E : zE) (σ : zS) (n : Nat) (z : Int) (hn : gI σ 316 1 = zI (n : Int)) (hn2 : n + 20 ≤ 1024) (hz : -9223372036854775808 < z ∧ z < 9223372036854775808) : zRv l E yX2_putNumber cX2_putNumber 8 (zrm 1 21) [.ref (ob E 316), .long (zL z)] σ (fun τ => τ = oW 316 317 1 σ n (lNum z)) := by
  refine Met.ofW (cc := cX2_putNumber) (maxL := 8) (ret := none) (by decide +kernel) rfl ?_
  intro p e s m args below meth c s₁ B hml hv
  obtain ⟨rfl, hd⟩ := hv
  have C := zX_of (own := RX2) hfl B hml rfl hd rfl
  have hr := B.returns
  refine zV_go hd (Nat.le_of_ble_eq_true rfl) (lv := [(0, .ref (ob E 316)), (1, .long (zL z))]) rfl ?_
  obtain ⟨P, hP⟩ : ∃ P : List Nat, P = if z < 0 then [45] else [] := ⟨_, rfl⟩
  obtain ⟨A, hA⟩ : ∃ A : Nat, A = z.natAbs := ⟨_, rfl⟩
  have hP1 : P.length ≤ 1 := by rw [hP]; split <;> decide
  have hn1 := oW_n (b := 317) P σ n hn
  have hA2 : A < 9223372036854775808 := by omega
  refine zv_lload_n C 1 dX2_putNumber_0 rfl rfl ?_
  refine zv_lconst (v := zL 0) C dX2_putNumber_1 (by decide) ?_
  refine zv_lc_geZ (tgt := 12) C (by omega) (by omega) dX2_putNumber_2 dX2_putNumber_3 (by decide) (fun h2 => ?_) (fun h2 => ?_)
  · skip
    refine zv_eqS (τ := (oW 316 317 1 σ n P)) (by first | (rw [hP, if_pos (by omega)]; rfl) | (rw [hP, if_neg (by omega)]; rfl)) ?_
    refine zv_lload_n C 1 dX2_putNumber_12 rfl rfl ?_
    refine zv_cslD (st := []) C (c_J9_abs_067f4 hfl E (oW 316 317 1 σ n P) (z) (by omega)) mJ9_abs_067f4 kX2_23 rfl ⟨rfl, rfl⟩ (show zfit (zrm 0 0) 2 (zrm 1 21) = true from rfl) (Nat.le_of_ble_eq_true rfl) dX2_putNumber_13 ⟨Nat.zero_le _, Nat.zero_le _⟩ ?_
    refine zv_eql (y := (zL (A : Int))) (by rw [hA]) ?_
    refine zv_lstore_n (lv' := [(3, .long (zL (A : Int))), (0, .ref (ob E 316)), (1, .long (zL z))]) C dX2_putNumber_16 rfl (by decide) rfl ?_
    refine zv_lconst (v := zL 1) C dX2_putNumber_17 (by decide) ?_
    refine zv_lstore (lv' := [(5, .long (zL 1)), (3, .long (zL (A : Int))), (0, .ref (ob E 316)), (1, .long (zL z))]) C dX2_putNumber_18  (by decide) rfl ?_
    refine zv_iconst (v := zI 0) C dX2_putNumber_20 rfl ?_
    refine zv_istore (lv' := [(7, .int (zI 0)), (5, .long (zL 1)), (3, .long (zL (A : Int))), (0, .ref (ob E 316)), (1, .long (zL z))]) C dX2_putNumber_21  (by decide) rfl ?_
    have q23_18 : (0 : Int) = (0 : Int) := by first | rfl | omega
    have q23_19 : (1 : Int) = ((10 ^ 0 : Nat) : Int) := by first | rfl | omega
    refine zv_sub (lv' := [(0, .ref (ob E 316)), (1, .long (zL z)), (3, .long (zL (A : Int))), (5, .long (zL ((10 ^ 0 : Nat) : Int))), (7, .int (zI (0 : Int)))]) [3, 4, 2, 1, 0] (zcons rfl (zcons rfl (zcons rfl (zcons (zqL q23_19) (zcons (zqI q23_18) rfl))))) ?_
    refine zv_while (α := Nat) (fun v => 18 - v) (fun v => v ≤ 18 ∧ ∀ i, i < v → 10 ≤ A / 10 ^ i) (fun v => (oW 316 317 1 σ n P)) (fun v => [(0, .ref (ob E 316)), (1, .long (zL z)), (3, .long (zL (A : Int))), (5, .long (zL ((10 ^ v : Nat) : Int))), (7, .int (zI (v : Int)))]) (fun v => []) (fun j hI ih => ?_) (0) (⟨by omega, fun i h => absurd h (Nat.not_lt_zero _)⟩)
    obtain ⟨hI, hI2⟩ := hI
    have hp : 10 ^ j ≤ 10 ^ 18 := Nat.pow_le_pow_right (by decide) hI
    have hp0 : 0 < 10 ^ j := Nat.pow_pos (by decide)
    have hq := Nat.div_le_self A (10 ^ j)
    have hq0 : (0 : Int) ≤ ((A / 10 ^ j : Nat) : Int) := Int.natCast_nonneg _
    refine zv_iload C 4 dX2_putNumber_23 rfl ?_
    refine zv_bipush (v := zI 18) C dX2_putNumber_25 (by decide) ?_
    refine zv_icmp_geZ (tgt := 55) C (by omega) (by omega) dX2_putNumber_27 (by decide) (fun h27 => ?_) (fun h27 => ?_)
    · skip
      have hk : j = kU A := kU_eq j A hI2 (by first | omega | (rw [show j = 18 by omega]; exact Nat.div_lt_of_lt_mul (by omega)))
      refine zv_iconst (v := zI 0) C dX2_putNumber_55 rfl ?_
      refine zv_istore (lv' := [(7, .int (zI 0)), (0, .ref (ob E 316)), (1, .long (zL z)), (3, .long (zL (A : Int))), (5, .long (zL ((10 ^ j : Nat) : Int)))]) C dX2_putNumber_56  (by decide) rfl ?_
      have q58_34 : (0 : Int) = (0 : Int) := by first | rfl | omega
      have q58_35 : (((10 ^ j : Nat) : Int) : Int) = ((10 ^ j / 10 ^ 0 : Nat) : Int) := by rw [Nat.pow_zero, Nat.div_one]
      refine zv_sub (lv' := [(0, .ref (ob E 316)), (1, .long (zL z)), (3, .long (zL (A : Int))), (5, .long (zL ((10 ^ j / 10 ^ 0 : Nat) : Int))), (7, .int (zI (0 : Int)))]) [1, 2, 3, 4, 0] (zcons rfl (zcons rfl (zcons rfl (zcons (zqL q58_35) (zcons (zqI q58_34) rfl))))) ?_
      refine zv_eqS (τ := (oW 316 317 1 (oW 316 317 1 σ n P) (n + P.length) (lD A j 0))) (rfl) ?_
      refine zv_while (α := Nat) (fun v => 19 - v) (fun v => v ≤ j + 1) (fun v => (oW 316 317 1 (oW 316 317 1 σ n P) (n + P.length) (lD A j v))) (fun v => [(0, .ref (ob E 316)), (1, .long (zL z)), (3, .long (zL (A : Int))), (5, .long (zL ((10 ^ j / 10 ^ v : Nat) : Int))), (7, .int (zI (v : Int)))]) (fun v => []) (fun i hI ih58 => ?_) (0) (by omega)
      have hn3 := oW_n (b := 317) (lD A j i) _ _ hn1
      have hu := Nat.div_le_self (10 ^ j) (10 ^ i)
      have hq2 := Nat.div_le_self A (10 ^ j / 10 ^ i)
      have hu0 : (0 : Int) ≤ ((10 ^ j / 10 ^ i : Nat) : Int) := Int.natCast_nonneg _
      have hq3 : (0 : Int) ≤ ((A / (10 ^ j / 10 ^ i) : Nat) : Int) := Int.natCast_nonneg _
      refine zv_iload C 4 dX2_putNumber_58 rfl ?_
      refine zv_bipush (v := zI 19) C dX2_putNumber_60 (by decide) ?_
      refine zv_icmp_geZ (tgt := 103) C (by omega) (by omega) dX2_putNumber_62 (by decide) (fun h62 => ?_) (fun h62 => ?_)
      · skip
        have hij : j < i := by omega
        exact zv_vret C hr dX2_putNumber_103 (by rw [show i = j + 1 by omega, hk, ← oW_app, hP, hA]; rfl)
      · skip
        refine zv_lload C 3 dX2_putNumber_65 rfl ?_
        refine zv_lconst (v := zL 0) C dX2_putNumber_67 (by decide) ?_
        refine zv_lc_leZ (tgt := 103) C (by omega) (by omega) dX2_putNumber_68 dX2_putNumber_69 (by decide) (fun h68 => ?_) (fun h68 => ?_)
        · skip
          have hij : j < i := pow_d0 (j := j) (by omega)
          exact zv_vret C hr dX2_putNumber_103 (by rw [show i = j + 1 by omega, hk, ← oW_app, hP, hA]; rfl)
        · skip
          have hij : i ≤ j := pow_d1 (j := j) (by omega)
          refine zv_aload_n C 0 dX2_putNumber_72 rfl rfl ?_
          refine zv_ldc2 C kX2_31 dX2_putNumber_73 ?_
          refine zv_eql (y := zL 48) (by decide) ?_
          refine zv_lload_n C 2 dX2_putNumber_76 rfl rfl ?_
          refine zv_lload C 3 dX2_putNumber_77 rfl ?_
          refine zv_ldivP C (by omega) (by omega) dX2_putNumber_79 ?_
          refine zv_eql (y := (zL ((A / (10 ^ j / 10 ^ i) : Nat) : Int))) (by rw [Int.natCast_ediv A]) ?_
          refine zv_ldc2 C kX2_29 dX2_putNumber_80 ?_
          refine zv_eql (y := zL 10) (by decide) ?_
          refine zv_lremP C (by omega) (by omega) dX2_putNumber_83 ?_
          refine zv_laddZ C dX2_putNumber_84 ?_
          refine zv_l2iZ C dX2_putNumber_85 ?_
          refine zv_eqi (y := (zI ((48 + A / (10 ^ j / 10 ^ i) % 10 : Nat) : Int))) (congrArg zI (by omega)) ?_
          refine zv_cvvD (st := []) C (c_X2_putByte hfl E (oW 316 317 1 (oW 316 317 1 σ n P) (n + P.length) (lD A j i)) ((n + P.length) + (lD A j i).length) (48 + A / (10 ^ j / 10 ^ i) % 10) hn3 (by rw [lD_l]; omega) (by omega)) mX2_putByte kX2_19 (by decide : kd 316 = 2) rfl rfl rfl ⟨rfl, rfl⟩ (show zfit (zrm 0 0) 2 (zrm 1 21) = true from rfl) (Nat.le_of_ble_eq_true rfl) dX2_putNumber_86 ⟨Nat.zero_le _, Nat.zero_le _⟩ ?_
          refine zv_lload C 3 dX2_putNumber_89 rfl ?_
          refine zv_ldc2 C kX2_29 dX2_putNumber_91 ?_
          refine zv_eql (y := zL 10) (by decide) ?_
          refine zv_ldivP C (by omega) (by omega) dX2_putNumber_94 ?_
          refine zv_lstore (lv' := [(5, .long (zL (((10 ^ j / 10 ^ i : Nat) : Int) / 10))), (0, .ref (ob E 316)), (1, .long (zL z)), (3, .long (zL (A : Int))), (7, .int (zI (i : Int)))]) C dX2_putNumber_95  (by decide) rfl ?_
          refine zv_iinc (v := (zI ((i : Int) + 1))) (lv' := [(7, .int (zI ((i : Int) + 1))), (5, .long (zL (((10 ^ j / 10 ^ i : Nat) : Int) / 10))), (0, .ref (ob E 316)), (1, .long (zL z)), (3, .long (zL (A : Int)))]) C 4 dX2_putNumber_97 rfl (zI_add _ _) (by decide) rfl ?_
          refine zv_goto (tgt := 58) C dX2_putNumber_100 (by decide) ?_
          have q58_80 : ((i : Int) + 1 : Int) = ((i + 1 : Nat) : Int) := by first | rfl | omega
          have q58_81 : (((10 ^ j / 10 ^ i : Nat) : Int) / 10 : Int) = ((10 ^ j / 10 ^ (i + 1) : Nat) : Int) := by rw [Nat.pow_succ, ← Nat.div_div_eq_div_mul]; omega
          refine zv_sub (lv' := [(0, .ref (ob E 316)), (1, .long (zL z)), (3, .long (zL (A : Int))), (5, .long (zL ((10 ^ j / 10 ^ (i + 1) : Nat) : Int))), (7, .int (zI ((i + 1 : Nat) : Int)))]) [2, 3, 4, 1, 0] (zcons rfl (zcons rfl (zcons rfl (zcons (zqL q58_81) (zcons (zqI q58_80) rfl))))) ?_
          refine zv_eqS (τ := (oW 316 317 1 (oW 316 317 1 σ n P) (n + P.length) (lD A j (i + 1)))) (by rw [lD_s, oW_app]; rfl) ?_
          exact ih58 (i + 1) (by omega) (by omega)
    · skip
      refine zv_lload_n C 2 dX2_putNumber_30 rfl rfl ?_
      refine zv_lload C 3 dX2_putNumber_31 rfl ?_
      refine zv_ldivP C (by omega) (by omega) dX2_putNumber_33 ?_
      refine zv_eql (y := (zL ((A / 10 ^ j : Nat) : Int))) (by rw [Int.natCast_ediv A]) ?_
      refine zv_ldc2 C kX2_29 dX2_putNumber_34 ?_
      refine zv_eql (y := zL 10) (by decide) ?_
      refine zv_lc_ltZ (tgt := 55) C (by omega) (by omega) dX2_putNumber_37 dX2_putNumber_38 (by decide) (fun h37 => ?_) (fun h37 => ?_)
      · skip
        have hk : j = kU A := kU_eq j A hI2 (by first | omega | (rw [show j = 18 by omega]; exact Nat.div_lt_of_lt_mul (by omega)))
        refine zv_iconst (v := zI 0) C dX2_putNumber_55 rfl ?_
        refine zv_istore (lv' := [(7, .int (zI 0)), (0, .ref (ob E 316)), (1, .long (zL z)), (3, .long (zL (A : Int))), (5, .long (zL ((10 ^ j : Nat) : Int)))]) C dX2_putNumber_56  (by decide) rfl ?_
        have q58_97 : (0 : Int) = (0 : Int) := by first | rfl | omega
        have q58_98 : (((10 ^ j : Nat) : Int) : Int) = ((10 ^ j / 10 ^ 0 : Nat) : Int) := by rw [Nat.pow_zero, Nat.div_one]
        refine zv_sub (lv' := [(0, .ref (ob E 316)), (1, .long (zL z)), (3, .long (zL (A : Int))), (5, .long (zL ((10 ^ j / 10 ^ 0 : Nat) : Int))), (7, .int (zI (0 : Int)))]) [1, 2, 3, 4, 0] (zcons rfl (zcons rfl (zcons rfl (zcons (zqL q58_98) (zcons (zqI q58_97) rfl))))) ?_
        refine zv_eqS (τ := (oW 316 317 1 (oW 316 317 1 σ n P) (n + P.length) (lD A j 0))) (rfl) ?_
        refine zv_while (α := Nat) (fun v => 19 - v) (fun v => v ≤ j + 1) (fun v => (oW 316 317 1 (oW 316 317 1 σ n P) (n + P.length) (lD A j v))) (fun v => [(0, .ref (ob E 316)), (1, .long (zL z)), (3, .long (zL (A : Int))), (5, .long (zL ((10 ^ j / 10 ^ v : Nat) : Int))), (7, .int (zI (v : Int)))]) (fun v => []) (fun i hI ih58 => ?_) (0) (by omega)
        have hn3 := oW_n (b := 317) (lD A j i) _ _ hn1
        have hu := Nat.div_le_self (10 ^ j) (10 ^ i)
        have hq2 := Nat.div_le_self A (10 ^ j / 10 ^ i)
        have hu0 : (0 : Int) ≤ ((10 ^ j / 10 ^ i : Nat) : Int) := Int.natCast_nonneg _
        have hq3 : (0 : Int) ≤ ((A / (10 ^ j / 10 ^ i) : Nat) : Int) := Int.natCast_nonneg _
        refine zv_iload C 4 dX2_putNumber_58 rfl ?_
        refine zv_bipush (v := zI 19) C dX2_putNumber_60 (by decide) ?_
        refine zv_icmp_geZ (tgt := 103) C (by omega) (by omega) dX2_putNumber_62 (by decide) (fun h62 => ?_) (fun h62 => ?_)
        · skip
          have hij : j < i := by omega
          exact zv_vret C hr dX2_putNumber_103 (by rw [show i = j + 1 by omega, hk, ← oW_app, hP, hA]; rfl)
        · skip
          refine zv_lload C 3 dX2_putNumber_65 rfl ?_
          refine zv_lconst (v := zL 0) C dX2_putNumber_67 (by decide) ?_
          refine zv_lc_leZ (tgt := 103) C (by omega) (by omega) dX2_putNumber_68 dX2_putNumber_69 (by decide) (fun h68 => ?_) (fun h68 => ?_)
          · skip
            have hij : j < i := pow_d0 (j := j) (by omega)
            exact zv_vret C hr dX2_putNumber_103 (by rw [show i = j + 1 by omega, hk, ← oW_app, hP, hA]; rfl)
          · skip
            have hij : i ≤ j := pow_d1 (j := j) (by omega)
            refine zv_aload_n C 0 dX2_putNumber_72 rfl rfl ?_
            refine zv_ldc2 C kX2_31 dX2_putNumber_73 ?_
            refine zv_eql (y := zL 48) (by decide) ?_
            refine zv_lload_n C 2 dX2_putNumber_76 rfl rfl ?_
            refine zv_lload C 3 dX2_putNumber_77 rfl ?_
            refine zv_ldivP C (by omega) (by omega) dX2_putNumber_79 ?_
            refine zv_eql (y := (zL ((A / (10 ^ j / 10 ^ i) : Nat) : Int))) (by rw [Int.natCast_ediv A]) ?_
            refine zv_ldc2 C kX2_29 dX2_putNumber_80 ?_
            refine zv_eql (y := zL 10) (by decide) ?_
            refine zv_lremP C (by omega) (by omega) dX2_putNumber_83 ?_
            refine zv_laddZ C dX2_putNumber_84 ?_
            refine zv_l2iZ C dX2_putNumber_85 ?_
            refine zv_eqi (y := (zI ((48 + A / (10 ^ j / 10 ^ i) % 10 : Nat) : Int))) (congrArg zI (by omega)) ?_
            refine zv_cvvD (st := []) C (c_X2_putByte hfl E (oW 316 317 1 (oW 316 317 1 σ n P) (n + P.length) (lD A j i)) ((n + P.length) + (lD A j i).length) (48 + A / (10 ^ j / 10 ^ i) % 10) hn3 (by rw [lD_l]; omega) (by omega)) mX2_putByte kX2_19 (by decide : kd 316 = 2) rfl rfl rfl ⟨rfl, rfl⟩ (show zfit (zrm 0 0) 2 (zrm 1 21) = true from rfl) (Nat.le_of_ble_eq_true rfl) dX2_putNumber_86 ⟨Nat.zero_le _, Nat.zero_le _⟩ ?_
            refine zv_lload C 3 dX2_putNumber_89 rfl ?_
            refine zv_ldc2 C kX2_29 dX2_putNumber_91 ?_
            refine zv_eql (y := zL 10) (by decide) ?_
            refine zv_ldivP C (by omega) (by omega) dX2_putNumber_94 ?_
            refine zv_lstore (lv' := [(5, .long (zL (((10 ^ j / 10 ^ i : Nat) : Int) / 10))), (0, .ref (ob E 316)), (1, .long (zL z)), (3, .long (zL (A : Int))), (7, .int (zI (i : Int)))]) C dX2_putNumber_95  (by decide) rfl ?_
            refine zv_iinc (v := (zI ((i : Int) + 1))) (lv' := [(7, .int (zI ((i : Int) + 1))), (5, .long (zL (((10 ^ j / 10 ^ i : Nat) : Int) / 10))), (0, .ref (ob E 316)), (1, .long (zL z)), (3, .long (zL (A : Int)))]) C 4 dX2_putNumber_97 rfl (zI_add _ _) (by decide) rfl ?_
            refine zv_goto (tgt := 58) C dX2_putNumber_100 (by decide) ?_
            have q58_143 : ((i : Int) + 1 : Int) = ((i + 1 : Nat) : Int) := by first | rfl | omega
            have q58_144 : (((10 ^ j / 10 ^ i : Nat) : Int) / 10 : Int) = ((10 ^ j / 10 ^ (i + 1) : Nat) : Int) := by rw [Nat.pow_succ, ← Nat.div_div_eq_div_mul]; omega
            refine zv_sub (lv' := [(0, .ref (ob E 316)), (1, .long (zL z)), (3, .long (zL (A : Int))), (5, .long (zL ((10 ^ j / 10 ^ (i + 1) : Nat) : Int))), (7, .int (zI ((i + 1 : Nat) : Int)))]) [2, 3, 4, 1, 0] (zcons rfl (zcons rfl (zcons rfl (zcons (zqL q58_144) (zcons (zqI q58_143) rfl))))) ?_
            refine zv_eqS (τ := (oW 316 317 1 (oW 316 317 1 σ n P) (n + P.length) (lD A j (i + 1)))) (by rw [lD_s, oW_app]; rfl) ?_
            exact ih58 (i + 1) (by omega) (by omega)
      · skip
        refine zv_lload C 3 dX2_putNumber_41 rfl ?_
        refine zv_ldc2 C kX2_29 dX2_putNumber_43 ?_
        refine zv_eql (y := zL 10) (by decide) ?_
        refine zv_lmulZ C dX2_putNumber_46 ?_
        refine zv_lstore (lv' := [(5, .long (zL (((10 ^ j : Nat) : Int) * 10))), (0, .ref (ob E 316)), (1, .long (zL z)), (3, .long (zL (A : Int))), (7, .int (zI (j : Int)))]) C dX2_putNumber_47  (by decide) rfl ?_
        refine zv_iinc (v := (zI ((j : Int) + 1))) (lv' := [(7, .int (zI ((j : Int) + 1))), (5, .long (zL (((10 ^ j : Nat) : Int) * 10))), (0, .ref (ob E 316)), (1, .long (zL z)), (3, .long (zL (A : Int)))]) C 4 dX2_putNumber_49 rfl (zI_add _ _) (by decide) rfl ?_
        refine zv_goto (tgt := 23) C dX2_putNumber_52 (by decide) ?_
        have q23_156 : ((j : Int) + 1 : Int) = ((j + 1 : Nat) : Int) := by first | rfl | omega
        have q23_157 : (((10 ^ j : Nat) : Int) * 10 : Int) = ((10 ^ (j + 1) : Nat) : Int) := by rw [Nat.pow_succ]; omega
        refine zv_sub (lv' := [(0, .ref (ob E 316)), (1, .long (zL z)), (3, .long (zL (A : Int))), (5, .long (zL ((10 ^ (j + 1) : Nat) : Int))), (7, .int (zI ((j + 1 : Nat) : Int)))]) [2, 3, 4, 1, 0] (zcons rfl (zcons rfl (zcons rfl (zcons (zqL q23_157) (zcons (zqI q23_156) rfl))))) ?_
        exact ih (j + 1) (⟨by omega, fun i h => (by rcases Nat.lt_or_ge i j with g | g; exact hI2 i g; rw [show i = j by omega]; omega)⟩) (by omega)
  · skip
    refine zv_aload_n C 0 dX2_putNumber_6 rfl rfl ?_
    refine zv_bipush (v := zI 45) C dX2_putNumber_7 (by decide) ?_
    refine zv_cvvD (st := []) C (c_X2_putByte hfl E σ n 45 hn (by omega) (by decide)) mX2_putByte kX2_19 (by decide : kd 316 = 2) rfl rfl rfl ⟨rfl, rfl⟩ (show zfit (zrm 0 0) 2 (zrm 1 21) = true from rfl) (Nat.le_of_ble_eq_true rfl) dX2_putNumber_9 ⟨Nat.zero_le _, Nat.zero_le _⟩ ?_
    refine zv_eqS (τ := (oW 316 317 1 σ n P)) (by first | (rw [hP, if_pos (by omega)]; rfl) | (rw [hP, if_neg (by omega)]; rfl)) ?_
    refine zv_lload_n C 1 dX2_putNumber_12 rfl rfl ?_
    refine zv_cslD (st := []) C (c_J9_abs_067f4 hfl E (oW 316 317 1 σ n P) (z) (by omega)) mJ9_abs_067f4 kX2_23 rfl ⟨rfl, rfl⟩ (show zfit (zrm 0 0) 2 (zrm 1 21) = true from rfl) (Nat.le_of_ble_eq_true rfl) dX2_putNumber_13 ⟨Nat.zero_le _, Nat.zero_le _⟩ ?_
    refine zv_eql (y := (zL (A : Int))) (by rw [hA]) ?_
    refine zv_lstore_n (lv' := [(3, .long (zL (A : Int))), (0, .ref (ob E 316)), (1, .long (zL z))]) C dX2_putNumber_16 rfl (by decide) rfl ?_
    refine zv_lconst (v := zL 1) C dX2_putNumber_17 (by decide) ?_
    refine zv_lstore (lv' := [(5, .long (zL 1)), (3, .long (zL (A : Int))), (0, .ref (ob E 316)), (1, .long (zL z))]) C dX2_putNumber_18  (by decide) rfl ?_
    refine zv_iconst (v := zI 0) C dX2_putNumber_20 rfl ?_
    refine zv_istore (lv' := [(7, .int (zI 0)), (5, .long (zL 1)), (3, .long (zL (A : Int))), (0, .ref (ob E 316)), (1, .long (zL z))]) C dX2_putNumber_21  (by decide) rfl ?_
    have q23_173 : (0 : Int) = (0 : Int) := by first | rfl | omega
    have q23_174 : (1 : Int) = ((10 ^ 0 : Nat) : Int) := by first | rfl | omega
    refine zv_sub (lv' := [(0, .ref (ob E 316)), (1, .long (zL z)), (3, .long (zL (A : Int))), (5, .long (zL ((10 ^ 0 : Nat) : Int))), (7, .int (zI (0 : Int)))]) [3, 4, 2, 1, 0] (zcons rfl (zcons rfl (zcons rfl (zcons (zqL q23_174) (zcons (zqI q23_173) rfl))))) ?_
    refine zv_while (α := Nat) (fun v => 18 - v) (fun v => v ≤ 18 ∧ ∀ i, i < v → 10 ≤ A / 10 ^ i) (fun v => (oW 316 317 1 σ n P)) (fun v => [(0, .ref (ob E 316)), (1, .long (zL z)), (3, .long (zL (A : Int))), (5, .long (zL ((10 ^ v : Nat) : Int))), (7, .int (zI (v : Int)))]) (fun v => []) (fun j hI ih => ?_) (0) (⟨by omega, fun i h => absurd h (Nat.not_lt_zero _)⟩)
    obtain ⟨hI, hI2⟩ := hI
    have hp : 10 ^ j ≤ 10 ^ 18 := Nat.pow_le_pow_right (by decide) hI
    have hp0 : 0 < 10 ^ j := Nat.pow_pos (by decide)
    have hq := Nat.div_le_self A (10 ^ j)
    have hq0 : (0 : Int) ≤ ((A / 10 ^ j : Nat) : Int) := Int.natCast_nonneg _
    refine zv_iload C 4 dX2_putNumber_23 rfl ?_
    refine zv_bipush (v := zI 18) C dX2_putNumber_25 (by decide) ?_
    refine zv_icmp_geZ (tgt := 55) C (by omega) (by omega) dX2_putNumber_27 (by decide) (fun h27 => ?_) (fun h27 => ?_)
    · skip
      have hk : j = kU A := kU_eq j A hI2 (by first | omega | (rw [show j = 18 by omega]; exact Nat.div_lt_of_lt_mul (by omega)))
      refine zv_iconst (v := zI 0) C dX2_putNumber_55 rfl ?_
      refine zv_istore (lv' := [(7, .int (zI 0)), (0, .ref (ob E 316)), (1, .long (zL z)), (3, .long (zL (A : Int))), (5, .long (zL ((10 ^ j : Nat) : Int)))]) C dX2_putNumber_56  (by decide) rfl ?_
      have q58_189 : (0 : Int) = (0 : Int) := by first | rfl | omega
      have q58_190 : (((10 ^ j : Nat) : Int) : Int) = ((10 ^ j / 10 ^ 0 : Nat) : Int) := by rw [Nat.pow_zero, Nat.div_one]
      refine zv_sub (lv' := [(0, .ref (ob E 316)), (1, .long (zL z)), (3, .long (zL (A : Int))), (5, .long (zL ((10 ^ j / 10 ^ 0 : Nat) : Int))), (7, .int (zI (0 : Int)))]) [1, 2, 3, 4, 0] (zcons rfl (zcons rfl (zcons rfl (zcons (zqL q58_190) (zcons (zqI q58_189) rfl))))) ?_
      refine zv_eqS (τ := (oW 316 317 1 (oW 316 317 1 σ n P) (n + P.length) (lD A j 0))) (rfl) ?_
      refine zv_while (α := Nat) (fun v => 19 - v) (fun v => v ≤ j + 1) (fun v => (oW 316 317 1 (oW 316 317 1 σ n P) (n + P.length) (lD A j v))) (fun v => [(0, .ref (ob E 316)), (1, .long (zL z)), (3, .long (zL (A : Int))), (5, .long (zL ((10 ^ j / 10 ^ v : Nat) : Int))), (7, .int (zI (v : Int)))]) (fun v => []) (fun i hI ih58 => ?_) (0) (by omega)
      have hn3 := oW_n (b := 317) (lD A j i) _ _ hn1
      have hu := Nat.div_le_self (10 ^ j) (10 ^ i)
      have hq2 := Nat.div_le_self A (10 ^ j / 10 ^ i)
      have hu0 : (0 : Int) ≤ ((10 ^ j / 10 ^ i : Nat) : Int) := Int.natCast_nonneg _
      have hq3 : (0 : Int) ≤ ((A / (10 ^ j / 10 ^ i) : Nat) : Int) := Int.natCast_nonneg _
      refine zv_iload C 4 dX2_putNumber_58 rfl ?_
      refine zv_bipush (v := zI 19) C dX2_putNumber_60 (by decide) ?_
      refine zv_icmp_geZ (tgt := 103) C (by omega) (by omega) dX2_putNumber_62 (by decide) (fun h62 => ?_) (fun h62 => ?_)
      · skip
        have hij : j < i := by omega
        exact zv_vret C hr dX2_putNumber_103 (by rw [show i = j + 1 by omega, hk, ← oW_app, hP, hA]; rfl)
      · skip
        refine zv_lload C 3 dX2_putNumber_65 rfl ?_
        refine zv_lconst (v := zL 0) C dX2_putNumber_67 (by decide) ?_
        refine zv_lc_leZ (tgt := 103) C (by omega) (by omega) dX2_putNumber_68 dX2_putNumber_69 (by decide) (fun h68 => ?_) (fun h68 => ?_)
        · skip
          have hij : j < i := pow_d0 (j := j) (by omega)
          exact zv_vret C hr dX2_putNumber_103 (by rw [show i = j + 1 by omega, hk, ← oW_app, hP, hA]; rfl)
        · skip
          have hij : i ≤ j := pow_d1 (j := j) (by omega)
          refine zv_aload_n C 0 dX2_putNumber_72 rfl rfl ?_
          refine zv_ldc2 C kX2_31 dX2_putNumber_73 ?_
          refine zv_eql (y := zL 48) (by decide) ?_
          refine zv_lload_n C 2 dX2_putNumber_76 rfl rfl ?_
          refine zv_lload C 3 dX2_putNumber_77 rfl ?_
          refine zv_ldivP C (by omega) (by omega) dX2_putNumber_79 ?_
          refine zv_eql (y := (zL ((A / (10 ^ j / 10 ^ i) : Nat) : Int))) (by rw [Int.natCast_ediv A]) ?_
          refine zv_ldc2 C kX2_29 dX2_putNumber_80 ?_
          refine zv_eql (y := zL 10) (by decide) ?_
          refine zv_lremP C (by omega) (by omega) dX2_putNumber_83 ?_
          refine zv_laddZ C dX2_putNumber_84 ?_
          refine zv_l2iZ C dX2_putNumber_85 ?_
          refine zv_eqi (y := (zI ((48 + A / (10 ^ j / 10 ^ i) % 10 : Nat) : Int))) (congrArg zI (by omega)) ?_
          refine zv_cvvD (st := []) C (c_X2_putByte hfl E (oW 316 317 1 (oW 316 317 1 σ n P) (n + P.length) (lD A j i)) ((n + P.length) + (lD A j i).length) (48 + A / (10 ^ j / 10 ^ i) % 10) hn3 (by rw [lD_l]; omega) (by omega)) mX2_putByte kX2_19 (by decide : kd 316 = 2) rfl rfl rfl ⟨rfl, rfl⟩ (show zfit (zrm 0 0) 2 (zrm 1 21) = true from rfl) (Nat.le_of_ble_eq_true rfl) dX2_putNumber_86 ⟨Nat.zero_le _, Nat.zero_le _⟩ ?_
          refine zv_lload C 3 dX2_putNumber_89 rfl ?_
          refine zv_ldc2 C kX2_29 dX2_putNumber_91 ?_
          refine zv_eql (y := zL 10) (by decide) ?_
          refine zv_ldivP C (by omega) (by omega) dX2_putNumber_94 ?_
          refine zv_lstore (lv' := [(5, .long (zL (((10 ^ j / 10 ^ i : Nat) : Int) / 10))), (0, .ref (ob E 316)), (1, .long (zL z)), (3, .long (zL (A : Int))), (7, .int (zI (i : Int)))]) C dX2_putNumber_95  (by decide) rfl ?_
          refine zv_iinc (v := (zI ((i : Int) + 1))) (lv' := [(7, .int (zI ((i : Int) + 1))), (5, .long (zL (((10 ^ j / 10 ^ i : Nat) : Int) / 10))), (0, .ref (ob E 316)), (1, .long (zL z)), (3, .long (zL (A : Int)))]) C 4 dX2_putNumber_97 rfl (zI_add _ _) (by decide) rfl ?_
          refine zv_goto (tgt := 58) C dX2_putNumber_100 (by decide) ?_
          have q58_235 : ((i : Int) + 1 : Int) = ((i + 1 : Nat) : Int) := by first | rfl | omega
          have q58_236 : (((10 ^ j / 10 ^ i : Nat) : Int) / 10 : Int) = ((10 ^ j / 10 ^ (i + 1) : Nat) : Int) := by rw [Nat.pow_succ, ← Nat.div_div_eq_div_mul]; omega
          refine zv_sub (lv' := [(0, .ref (ob E 316)), (1, .long (zL z)), (3, .long (zL (A : Int))), (5, .long (zL ((10 ^ j / 10 ^ (i + 1) : Nat) : Int))), (7, .int (zI ((i + 1 : Nat) : Int)))]) [2, 3, 4, 1, 0] (zcons rfl (zcons rfl (zcons rfl (zcons (zqL q58_236) (zcons (zqI q58_235) rfl))))) ?_
          refine zv_eqS (τ := (oW 316 317 1 (oW 316 317 1 σ n P) (n + P.length) (lD A j (i + 1)))) (by rw [lD_s, oW_app]; rfl) ?_
          exact ih58 (i + 1) (by omega) (by omega)
    · skip
      refine zv_lload_n C 2 dX2_putNumber_30 rfl rfl ?_
      refine zv_lload C 3 dX2_putNumber_31 rfl ?_
      refine zv_ldivP C (by omega) (by omega) dX2_putNumber_33 ?_
      refine zv_eql (y := (zL ((A / 10 ^ j : Nat) : Int))) (by rw [Int.natCast_ediv A]) ?_
      refine zv_ldc2 C kX2_29 dX2_putNumber_34 ?_
      refine zv_eql (y := zL 10) (by decide) ?_
      refine zv_lc_ltZ (tgt := 55) C (by omega) (by omega) dX2_putNumber_37 dX2_putNumber_38 (by decide) (fun h37 => ?_) (fun h37 => ?_)
      · skip
        have hk : j = kU A := kU_eq j A hI2 (by first | omega | (rw [show j = 18 by omega]; exact Nat.div_lt_of_lt_mul (by omega)))
        refine zv_iconst (v := zI 0) C dX2_putNumber_55 rfl ?_
        refine zv_istore (lv' := [(7, .int (zI 0)), (0, .ref (ob E 316)), (1, .long (zL z)), (3, .long (zL (A : Int))), (5, .long (zL ((10 ^ j : Nat) : Int)))]) C dX2_putNumber_56  (by decide) rfl ?_
        have q58_252 : (0 : Int) = (0 : Int) := by first | rfl | omega
        have q58_253 : (((10 ^ j : Nat) : Int) : Int) = ((10 ^ j / 10 ^ 0 : Nat) : Int) := by rw [Nat.pow_zero, Nat.div_one]
        refine zv_sub (lv' := [(0, .ref (ob E 316)), (1, .long (zL z)), (3, .long (zL (A : Int))), (5, .long (zL ((10 ^ j / 10 ^ 0 : Nat) : Int))), (7, .int (zI (0 : Int)))]) [1, 2, 3, 4, 0] (zcons rfl (zcons rfl (zcons rfl (zcons (zqL q58_253) (zcons (zqI q58_252) rfl))))) ?_
        refine zv_eqS (τ := (oW 316 317 1 (oW 316 317 1 σ n P) (n + P.length) (lD A j 0))) (rfl) ?_
        refine zv_while (α := Nat) (fun v => 19 - v) (fun v => v ≤ j + 1) (fun v => (oW 316 317 1 (oW 316 317 1 σ n P) (n + P.length) (lD A j v))) (fun v => [(0, .ref (ob E 316)), (1, .long (zL z)), (3, .long (zL (A : Int))), (5, .long (zL ((10 ^ j / 10 ^ v : Nat) : Int))), (7, .int (zI (v : Int)))]) (fun v => []) (fun i hI ih58 => ?_) (0) (by omega)
        have hn3 := oW_n (b := 317) (lD A j i) _ _ hn1
        have hu := Nat.div_le_self (10 ^ j) (10 ^ i)
        have hq2 := Nat.div_le_self A (10 ^ j / 10 ^ i)
        have hu0 : (0 : Int) ≤ ((10 ^ j / 10 ^ i : Nat) : Int) := Int.natCast_nonneg _
        have hq3 : (0 : Int) ≤ ((A / (10 ^ j / 10 ^ i) : Nat) : Int) := Int.natCast_nonneg _
        refine zv_iload C 4 dX2_putNumber_58 rfl ?_
        refine zv_bipush (v := zI 19) C dX2_putNumber_60 (by decide) ?_
        refine zv_icmp_geZ (tgt := 103) C (by omega) (by omega) dX2_putNumber_62 (by decide) (fun h62 => ?_) (fun h62 => ?_)
        · skip
          have hij : j < i := by omega
          exact zv_vret C hr dX2_putNumber_103 (by rw [show i = j + 1 by omega, hk, ← oW_app, hP, hA]; rfl)
        · skip
          refine zv_lload C 3 dX2_putNumber_65 rfl ?_
          refine zv_lconst (v := zL 0) C dX2_putNumber_67 (by decide) ?_
          refine zv_lc_leZ (tgt := 103) C (by omega) (by omega) dX2_putNumber_68 dX2_putNumber_69 (by decide) (fun h68 => ?_) (fun h68 => ?_)
          · skip
            have hij : j < i := pow_d0 (j := j) (by omega)
            exact zv_vret C hr dX2_putNumber_103 (by rw [show i = j + 1 by omega, hk, ← oW_app, hP, hA]; rfl)
          · skip
            have hij : i ≤ j := pow_d1 (j := j) (by omega)
            refine zv_aload_n C 0 dX2_putNumber_72 rfl rfl ?_
            refine zv_ldc2 C kX2_31 dX2_putNumber_73 ?_
            refine zv_eql (y := zL 48) (by decide) ?_
            refine zv_lload_n C 2 dX2_putNumber_76 rfl rfl ?_
            refine zv_lload C 3 dX2_putNumber_77 rfl ?_
            refine zv_ldivP C (by omega) (by omega) dX2_putNumber_79 ?_
            refine zv_eql (y := (zL ((A / (10 ^ j / 10 ^ i) : Nat) : Int))) (by rw [Int.natCast_ediv A]) ?_
            refine zv_ldc2 C kX2_29 dX2_putNumber_80 ?_
            refine zv_eql (y := zL 10) (by decide) ?_
            refine zv_lremP C (by omega) (by omega) dX2_putNumber_83 ?_
            refine zv_laddZ C dX2_putNumber_84 ?_
            refine zv_l2iZ C dX2_putNumber_85 ?_
            refine zv_eqi (y := (zI ((48 + A / (10 ^ j / 10 ^ i) % 10 : Nat) : Int))) (congrArg zI (by omega)) ?_
            refine zv_cvvD (st := []) C (c_X2_putByte hfl E (oW 316 317 1 (oW 316 317 1 σ n P) (n + P.length) (lD A j i)) ((n + P.length) + (lD A j i).length) (48 + A / (10 ^ j / 10 ^ i) % 10) hn3 (by rw [lD_l]; omega) (by omega)) mX2_putByte kX2_19 (by decide : kd 316 = 2) rfl rfl rfl ⟨rfl, rfl⟩ (show zfit (zrm 0 0) 2 (zrm 1 21) = true from rfl) (Nat.le_of_ble_eq_true rfl) dX2_putNumber_86 ⟨Nat.zero_le _, Nat.zero_le _⟩ ?_
            refine zv_lload C 3 dX2_putNumber_89 rfl ?_
            refine zv_ldc2 C kX2_29 dX2_putNumber_91 ?_
            refine zv_eql (y := zL 10) (by decide) ?_
            refine zv_ldivP C (by omega) (by omega) dX2_putNumber_94 ?_
            refine zv_lstore (lv' := [(5, .long (zL (((10 ^ j / 10 ^ i : Nat) : Int) / 10))), (0, .ref (ob E 316)), (1, .long (zL z)), (3, .long (zL (A : Int))), (7, .int (zI (i : Int)))]) C dX2_putNumber_95  (by decide) rfl ?_
            refine zv_iinc (v := (zI ((i : Int) + 1))) (lv' := [(7, .int (zI ((i : Int) + 1))), (5, .long (zL (((10 ^ j / 10 ^ i : Nat) : Int) / 10))), (0, .ref (ob E 316)), (1, .long (zL z)), (3, .long (zL (A : Int)))]) C 4 dX2_putNumber_97 rfl (zI_add _ _) (by decide) rfl ?_
            refine zv_goto (tgt := 58) C dX2_putNumber_100 (by decide) ?_
            have q58_298 : ((i : Int) + 1 : Int) = ((i + 1 : Nat) : Int) := by first | rfl | omega
            have q58_299 : (((10 ^ j / 10 ^ i : Nat) : Int) / 10 : Int) = ((10 ^ j / 10 ^ (i + 1) : Nat) : Int) := by rw [Nat.pow_succ, ← Nat.div_div_eq_div_mul]; omega
            refine zv_sub (lv' := [(0, .ref (ob E 316)), (1, .long (zL z)), (3, .long (zL (A : Int))), (5, .long (zL ((10 ^ j / 10 ^ (i + 1) : Nat) : Int))), (7, .int (zI ((i + 1 : Nat) : Int)))]) [2, 3, 4, 1, 0] (zcons rfl (zcons rfl (zcons rfl (zcons (zqL q58_299) (zcons (zqI q58_298) rfl))))) ?_
            refine zv_eqS (τ := (oW 316 317 1 (oW 316 317 1 σ n P) (n + P.length) (lD A j (i + 1)))) (by rw [lD_s, oW_app]; rfl) ?_
            exact ih58 (i + 1) (by omega) (by omega)
      · skip
        refine zv_lload C 3 dX2_putNumber_41 rfl ?_
        refine zv_ldc2 C kX2_29 dX2_putNumber_43 ?_
        refine zv_eql (y := zL 10) (by decide) ?_
        refine zv_lmulZ C dX2_putNumber_46 ?_
        refine zv_lstore (lv' := [(5, .long (zL (((10 ^ j : Nat) : Int) * 10))), (0, .ref (ob E 316)), (1, .long (zL z)), (3, .long (zL (A : Int))), (7, .int (zI (j : Int)))]) C dX2_putNumber_47  (by decide) rfl ?_
        refine zv_iinc (v := (zI ((j : Int) + 1))) (lv' := [(7, .int (zI ((j : Int) + 1))), (5, .long (zL (((10 ^ j : Nat) : Int) * 10))), (0, .ref (ob E 316)), (1, .long (zL z)), (3, .long (zL (A : Int)))]) C 4 dX2_putNumber_49 rfl (zI_add _ _) (by decide) rfl ?_
        refine zv_goto (tgt := 23) C dX2_putNumber_52 (by decide) ?_
        have q23_311 : ((j : Int) + 1 : Int) = ((j + 1 : Nat) : Int) := by first | rfl | omega
        have q23_312 : (((10 ^ j : Nat) : Int) * 10 : Int) = ((10 ^ (j + 1) : Nat) : Int) := by rw [Nat.pow_succ]; omega
        refine zv_sub (lv' := [(0, .ref (ob E 316)), (1, .long (zL z)), (3, .long (zL (A : Int))), (5, .long (zL ((10 ^ (j + 1) : Nat) : Int))), (7, .int (zI ((j + 1 : Nat) : Int)))]) [2, 3, 4, 1, 0] (zcons rfl (zcons rfl (zcons rfl (zcons (zqL q23_312) (zcons (zqI q23_311) rfl))))) ?_
        exact ih (j + 1) (⟨by omega, fun i h => (by rcases Nat.lt_or_ge i j with g | g; exact hI2 i g; rw [show i = j by omega]; omega)⟩) (by omega)
