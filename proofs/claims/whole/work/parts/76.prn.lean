theorem zL_shr3 {a d : Nat} {D : Int64} (hD : (D.toBitVec.smod 64).toNat = d) (h : a < 2 ^ 63) : zL (a : Int) >>> D = zL ((a / 2 ^ d : Nat) : Int) := by
  have hd : a / 2 ^ d ≤ a := Nat.div_le_self _ _
  apply Int64.toInt_inj.mp
  have e : (zL (a : Int) >>> D).toInt = (zL (a : Int)).toInt >>> d := by
    rw [← hD]
    exact BitVec.toInt_sshiftRight ..
  have h2 : (zL ((a / 2 ^ d : Nat) : Int)).toInt = ((a / 2 ^ d : Nat) : Int) := by
    generalize a / 2 ^ d = q at hd
    exact zL_toInt (by omega)
  rw [e, Int.shiftRight_eq_div_pow, zL_toInt (by omega), h2]
  rfl
theorem zL_s83 {F j : Nat} (hF : F < 2 ^ 63) (hj : j < 8) : zL (F : Int) >>> ((zI (56 - 8 * (j : Int))).toInt64 &&& 63) = zL ((F / 2 ^ (56 - 8 * j) : Nat) : Int) := by
  rcases (show j = 0 ∨ j = 1 ∨ j = 2 ∨ j = 3 ∨ j = 4 ∨ j = 5 ∨ j = 6 ∨ j = 7 by omega) with h | h | h | h | h | h | h | h <;> subst h <;> exact zL_shr3 (by decide +kernel) hF
theorem zL_a73 {a : Nat} (ha : a < 2 ^ 63) : zL (a : Int) &&& zL 127 = zL ((a % 128 : Nat) : Int) := by
  have h := zL_and (a := a) (b := 127) ha (by decide)
  rw [show ((127 : Nat) : Int) = 127 from rfl] at h
  rw [h, show 127 = 2 ^ 7 - 1 from rfl, Nat.and_two_pow_sub_one_eq_mod]
theorem kU_le : ∀ (k a : Nat), a < 10 ^ (k + 1) → kU a ≤ k := by
  intro k
  induction k with
  | zero => intro a h; rw [kU, dif_pos (by omega)]; omega
  | succ k ih =>
    intro a h
    rw [kU]
    split
    · omega
    · have := ih (a / 10) (by rw [Nat.div_lt_iff_lt_mul (by decide)]; rw [Nat.pow_succ] at h; exact h)
      omega
theorem lNum_l {z : Int} {k : Nat} (h : z.natAbs < 10 ^ (k + 1)) : (lNum z).length ≤ k + 2 ∧ (0 ≤ z → (lNum z).length ≤ k + 1) := by
  have h1 := kU_le k z.natAbs h
  unfold lNum
  rw [List.length_append, lD_l]
  constructor
  · split
    · simp only [List.length_cons, List.length_nil]; omega
    · simp only [List.length_nil]; omega
  · intro hz
    rw [if_neg (by omega)]
    simp only [List.length_nil]
    omega
theorem oW_cat (σ : zS) (L M : List Nat) : oW 316 317 1 (oW 316 317 1 σ 0 L) L.length M = oW 316 317 1 σ 0 (L ++ M) := by rw [oW_app, Nat.zero_add]
theorem oW_n0 (σ : zS) (L : List Nat) : gI (oW 316 317 1 (sI σ 316 1 (zI 0)) 0 L) 316 1 = zI (L.length : Int) :=
  (oW_n L _ 0 (by rw [gI_sI, if_pos ⟨rfl, rfl⟩]; rfl)).trans (by rw [Nat.zero_add])
theorem oW_o (L : List Nat) : ∀ (σ : zS) (n x j : Nat), x ≠ 316 → x ≠ 317 → gI (oW 316 317 1 σ n L) x j = gI σ x j := by
  induction L with
  | nil => intro σ n x j _ _; rfl
  | cons a L ih =>
    intro σ n x j h1 h2
    show gI (oW 316 317 1 (sI (sI σ 317 n (zI (a : Int))) 316 1 (zI ((n + 1 : Nat) : Int))) (n + 1) L) x j = _
    rw [ih _ _ _ _ h1 h2, gI_sI, if_neg (by omega), gI_sI, if_neg (by omega)]
theorem oW_2 (L : List Nat) : ∀ (σ : zS) (n : Nat), (oW 316 317 1 σ n L).2 = σ.2 := by
  induction L with
  | nil => intro σ n; rfl
  | cons a L ih => intro σ n; exact ih _ _
theorem oW_lo (L : List Nat) : ∀ (σ : zS) (n i : Nat), i < n → gI (oW 316 317 1 σ n L) 317 i = gI σ 317 i := by
  induction L with
  | nil => intro σ n i _; rfl
  | cons a L ih =>
    intro σ n i h
    show gI (oW 316 317 1 (sI (sI σ 317 n (zI (a : Int))) 316 1 (zI ((n + 1 : Nat) : Int))) (n + 1) L) 317 i = _
    rw [ih _ _ _ (by omega), gI_sI, if_neg (by omega), gI_sI, if_neg (by omega)]
theorem oW_r (L : List Nat) : ∀ (σ : zS) (n i : Nat), i < L.length → gI (oW 316 317 1 σ n L) 317 (n + i) = zI ((L.getD i 0 : Nat) : Int) := by
  induction L with
  | nil => intro σ n i h; exact absurd h (Nat.not_lt_zero i)
  | cons a L ih =>
    intro σ n i h
    show gI (oW 316 317 1 (sI (sI σ 317 n (zI (a : Int))) 316 1 (zI ((n + 1 : Nat) : Int))) (n + 1) L) 317 (n + i) = _
    cases i with
    | zero =>
      rw [oW_lo _ _ _ _ (by omega), gI_sI, if_neg (by omega), gI_sI, if_pos ⟨rfl, rfl⟩]
      rfl
    | succ i =>
      rw [show n + (i + 1) = n + 1 + i by omega, ih _ _ _ (by rw [List.length_cons] at h; omega)]
      rfl
theorem zOu_oW (σ : zS) {L : List Nat} (h : L.length ≤ 1024) : zOu (oW 316 317 1 (sI σ 316 1 (zI 0)) 0 L) L :=
  ⟨oW_n0 σ L, h, fun i hi => by have := oW_r L (sI σ 316 1 (zI 0)) 0 i hi; rw [Nat.zero_add] at this; exact this⟩
/-- the output written anew -/
theorem zCP_out {σ τ : zS} {D : zDv} {L : List Nat} (h : zCP σ D) (hL : L.length ≤ 1024) (e : zFr 318 327 σ τ) : zCP (oW 316 317 1 (sI τ 316 1 (zI 0)) 0 L) (D.sO L) ∧ zFr 0 327 σ (oW 316 317 1 (sI τ 316 1 (zI 0)) 0 L) := by
  have e1 : ∀ x j, x ≠ 316 → x ≠ 317 → gI (oW 316 317 1 (sI τ 316 1 (zI 0)) 0 L) x j = gI τ x j := fun x j q1 q2 => by rw [oW_o _ _ _ _ _ q1 q2, gI_sI, if_neg (by omega)]
  have e2 : ∀ x j, gJ (oW 316 317 1 (sI τ 316 1 (zI 0)) 0 L) x j = gJ τ x j := fun x j => by unfold gJ; rw [oW_2]; rfl
  have e3 : ∀ x j, x < 316 → gI (oW 316 317 1 (sI τ 316 1 (zI 0)) 0 L) x j = gI σ x j := fun x j q => (e1 x j (by omega) (by omega)).trans (e.1 x j (by omega))
  have e4 : ∀ x j, x < 316 → gJ (oW 316 317 1 (sI τ 316 1 (zI 0)) 0 L) x j = gJ σ x j := fun x j q => (e2 x j).trans (e.2.1 x j (by omega))
  obtain ⟨h1, h2, h3, h4, h5, h6, h7⟩ := h
  refine ⟨⟨zTx_w h1 (e3 2 1 (by omega)) (fun i => e3 3 i (by omega)), ⟨(e3 1 3 (by omega)).trans h2.1, (e3 1 4 (by omega)).trans h2.2⟩, zSUp_w h3 (fun x y a b => ⟨e3 x y (by omega), e4 x y (by omega)⟩),
    ⟨zSTp_w h4.1 (fun x y a b => e3 x y (by omega)), h4.2⟩, zHi_w h5 (fun x y a b => e3 x y (by omega)), zKq_w h6 (fun x y a b => e3 x y (by omega)), zOu_oW τ hL⟩, ⟨fun x j q => (e1 x j (by omega) (by omega)).trans (e.1 x j (by omega)), fun x j q => (e2 x j).trans (e.2.1 x j (by omega)), fun x j => ?_⟩⟩
  have : gD (oW 316 317 1 (sI τ 316 1 (zI 0)) 0 L) x j = gD τ x j := by unfold gD; rw [oW_2]; rfl
  exact this.trans (e.2.2 x j)
set_option maxRecDepth 20000 in
theorem c2_X2_putLetters {l : Launch} (hfl : l.stackTraces = false) (E : zE) (σ : zS) (n q : Nat) (hn : gI σ 316 1 = zI (n : Int)) (hn2 : n + 8 ≤ 1024) (hv62 : q < 2 ^ 63) : zRv l E yX2_putLetters cX2_putLetters 5 (zrm 1 21) [.ref (ob E 316), .long (zL (q : Int))] σ (fun τ => τ = oW 316 317 1 σ n (lB q 8)) := by
  refine Met.ofW (cc := cX2_putLetters) (maxL := 5) (ret := none) (by decide +kernel) rfl ?_
  intro p e s m args below meth c s₁ B hml hv
  obtain ⟨rfl, hd⟩ := hv
  have C := zX_of (own := RX2) hfl B hml rfl hd rfl
  have hr := B.returns
  refine zV_go hd (Nat.le_of_ble_eq_true rfl) (lv := [(0, .ref (ob E 316)), (1, .long (zL (q : Int)))]) rfl ?_
  refine zv_bipush (v := zI 56) C dX2_putLetters_0 (by decide) ?_
  refine zv_istore_n (lv' := [(3, .int (zI 56)), (0, .ref (ob E 316)), (1, .long (zL (q : Int)))]) C dX2_putLetters_2 rfl (by decide) rfl ?_
  have q3_2 : (56 : Int) = 56 - 8 * (0 : Int) := by first | rfl | omega
  refine zv_sub (lv' := [(0, .ref (ob E 316)), (1, .long (zL (q : Int))), (3, .int (zI (56 - 8 * (0 : Int))))]) [1, 2, 0] (zcons rfl (zcons rfl (zcons (zqI q3_2) rfl))) ?_
  refine zv_eqS (τ := (oW 316 317 1 σ n (lB q 0))) (rfl) ?_
  refine zv_while (α := Nat) (fun v => 8 - v) (fun v => v ≤ 8) (fun v => (oW 316 317 1 σ n (lB q v))) (fun v => [(0, .ref (ob E 316)), (1, .long (zL (q : Int))), (3, .int (zI (56 - 8 * (v : Int))))]) (fun v => []) (fun j hI ih => ?_) (0) (by omega)
  have hl := lB_l q j
  have hnn := oW_n (b := 317) (lB q j) σ n hn
  have hm : q / 2 ^ (56 - 8 * j) ≤ q := Nat.div_le_self _ _
  have hm2 : q / 2 ^ (56 - 8 * j) % 128 < 128 := Nat.mod_lt _ (by decide)
  refine zv_iload_n C 2 dX2_putLetters_3 rfl rfl ?_
  refine zv_if_ltZ (tgt := 34) C (by omega) dX2_putLetters_4 (by decide) (fun h4 => ?_) (fun h4 => ?_)
  · skip
    exact zv_vret C hr dX2_putLetters_34 (by rw [show j = 8 by omega])
  · skip
    refine zv_lload_n C 1 dX2_putLetters_7 rfl rfl ?_
    refine zv_iload_n C 2 dX2_putLetters_8 rfl rfl ?_
    refine zv_lshr C dX2_putLetters_9 ?_
    refine zv_eql (y := (zL ((q / 2 ^ (56 - 8 * j) : Nat) : Int))) (zL_s83 hv62 (by omega)) ?_
    refine zv_ldc2 C kX2_33 dX2_putLetters_10 ?_
    refine zv_eql (y := zL 127) (by decide) ?_
    refine zv_land C dX2_putLetters_13 ?_
    refine zv_eql (y := (zL ((q / 2 ^ (56 - 8 * j) % 128 : Nat) : Int))) (zL_a73 (by omega)) ?_
    refine zv_l2iZ C dX2_putLetters_14 ?_
    refine zv_istore (lv' := [(4, .int (zI ((q / 2 ^ (56 - 8 * j) % 128 : Nat) : Int))), (0, .ref (ob E 316)), (1, .long (zL (q : Int))), (3, .int (zI (56 - 8 * (j : Int))))]) C dX2_putLetters_15  (by decide) rfl ?_
    refine zv_iload C 0 dX2_putLetters_17 rfl ?_
    refine zv_if_eqZ (tgt := 28) C (by omega) dX2_putLetters_19 (by decide) (fun h19 => ?_) (fun h19 => ?_)
    · skip
      refine zv_iinc (v := (zI (56 - 8 * (j : Int) + (-8)))) (lv' := [(3, .int (zI (56 - 8 * (j : Int) + (-8)))), (4, .int (zI ((q / 2 ^ (56 - 8 * j) % 128 : Nat) : Int))), (0, .ref (ob E 316)), (1, .long (zL (q : Int)))]) C 3 dX2_putLetters_28 rfl (zI_add _ _) (by decide) rfl ?_
      refine zv_goto (tgt := 3) C dX2_putLetters_31 (by decide) ?_
      have q3_30 : (56 - 8 * (j : Int) + (-8) : Int) = 56 - 8 * ((j + 1 : Nat) : Int) := by omega
      refine zv_sub (lv' := [(0, .ref (ob E 316)), (1, .long (zL (q : Int))), (3, .int (zI (56 - 8 * ((j + 1 : Nat) : Int))))]) [2, 3, 0] (zcons rfl (zcons rfl (zcons (zqI q3_30) rfl))) ?_
      refine zv_eqS (τ := (oW 316 317 1 σ n (lB q (j + 1)))) (by rw [lB_s]; first | (rw [if_pos (by omega), List.append_nil]) | (rw [if_neg (by omega), oW_app]; rfl)) ?_
      exact ih (j + 1) (by omega) (by omega)
    · skip
      refine zv_aload_n C 1 dX2_putLetters_22 rfl rfl ?_
      refine zv_iload C 0 dX2_putLetters_23 rfl ?_
      refine zv_cvvD (st := []) C (c_X2_putByte hfl E (oW 316 317 1 σ n (lB q j)) (n + (lB q j).length) (q / 2 ^ (56 - 8 * j) % 128) hnn (by omega) hm2) mX2_putByte kX2_19 (by decide : kd 316 = 2) rfl rfl rfl ⟨rfl, rfl⟩ (show zfit (zrm 0 0) 2 (zrm 1 21) = true from rfl) (Nat.le_of_ble_eq_true rfl) dX2_putLetters_25 ⟨Nat.zero_le _, Nat.zero_le _⟩ ?_
      refine zv_iinc (v := (zI (56 - 8 * (j : Int) + (-8)))) (lv' := [(3, .int (zI (56 - 8 * (j : Int) + (-8)))), (4, .int (zI ((q / 2 ^ (56 - 8 * j) % 128 : Nat) : Int))), (0, .ref (ob E 316)), (1, .long (zL (q : Int)))]) C 3 dX2_putLetters_28 rfl (zI_add _ _) (by decide) rfl ?_
      refine zv_goto (tgt := 3) C dX2_putLetters_31 (by decide) ?_
      have q3_40 : (56 - 8 * (j : Int) + (-8) : Int) = 56 - 8 * ((j + 1 : Nat) : Int) := by omega
      refine zv_sub (lv' := [(0, .ref (ob E 316)), (1, .long (zL (q : Int))), (3, .int (zI (56 - 8 * ((j + 1 : Nat) : Int))))]) [2, 3, 0] (zcons rfl (zcons rfl (zcons (zqI q3_40) rfl))) ?_
      refine zv_eqS (τ := (oW 316 317 1 σ n (lB q (j + 1)))) (by rw [lB_s]; first | (rw [if_pos (by omega), List.append_nil]) | (rw [if_neg (by omega), oW_app]; rfl)) ?_
      exact ih (j + 1) (by omega) (by omega)
def peL (U : zSU) (S : zST) (i : Nat) (a b st : Int) : Nat → List Nat
  | 0 => []
  | j + 1 => if a + st * (j : Int) ≤ b then peL U S i a b st j ++ lNum (a + st * (j : Int)) ++ [58] ++ lNum (qErr U S i (a + st * (j : Int))) ++ [59] else peL U S i a b st j
theorem peL_end {U : zSU} {S : zST} {i : Nat} {a b st : Int} (hst : 0 ≤ st) {j : Nat} (h : ¬ a + st * (j : Int) ≤ b) : ∀ m, j ≤ m → peL U S i a b st m = peL U S i a b st j := by
  intro m
  induction m with
  | zero => intro q; rw [show j = 0 by omega]
  | succ m ih =>
    intro q
    rcases Nat.lt_or_ge m j with z | z
    · rw [show m + 1 = j by omega]
    · have h1 : st * (j : Int) ≤ st * (m : Int) := Int.mul_le_mul_of_nonneg_left (by omega) hst
      rw [peL, if_neg (by omega), ih z]
theorem peL_l {σ σ' : zS} {k k' : Nat} {U : zSU} {S : zST} (h : zSUp σ k U) (hS : zSTp σ' k' S) {i : Nat} (hi : i < U.nb) {a b st : Int} (ha : U.s0 ≤ a) (hb : b ≤ U.s0 + 999) (hst : 0 ≤ st) : ∀ j, (peL U S i a b st j).length ≤ 24 * j := by
  have hs := h.2.2.2.1
  intro j
  induction j with
  | zero => exact Nat.le_refl _
  | succ j ih =>
    simp only [peL]
    split
    · rename_i hle
      have h0 : 0 ≤ st * (j : Int) := Int.mul_nonneg hst (by omega)
      have h1 := qErr_b h hS hi (y := a + st * (j : Int)) (by omega)
      have h2 := (lNum_l (z := a + st * (j : Int)) (k := 3) (by omega)).2 (by omega)
      have h3 := (lNum_l (z := qErr U S i (a + st * (j : Int))) (k := 16) (by omega)).1
      simp only [List.length_append, List.length_cons, List.length_nil]
      omega
    · omega
set_option maxRecDepth 20000 in
theorem c_X10_printErrors {l : Launch} (hfl : l.stackTraces = false) (E : zE) (σ : zS) (ni : Nat) (tx : Nat → Int) (ec : Nat) (eo : Int) (U : zSU) (S : zST) (hh : List zST) (kp : Option zST) (ou : List Nat) (i : Nat) (a b st : Int) (h : zCP σ (zDv.mk ni tx ec eo U S hh kp ou)) (hi : i < U.nb) (ha : U.s0 ≤ a ∧ a ≤ U.s0 + 999) (hb : U.s0 ≤ b ∧ b ≤ U.s0 + 999) (hle : a ≤ b) (hst : 1 ≤ st ∧ st ≤ 999) : zRi l E yX10_printErrors cX10_printErrors 8 .int (zrm 5 126) [.ref (ob E 0), .int (zI (i : Int)), .int (zI a), .int (zI b), .int (zI st)] σ (fun r τ => r = zI ((peL U S i a b st 40).length : Int) ∧ zCP τ ((zDv.mk ni tx ec eo U S hh kp ou).sO (peL U S i a b st 40)) ∧ zFr 0 327 σ τ) := by
  refine Met.ofW (cc := cX10_printErrors) (maxL := 8) (ret := (some .int)) (by decide +kernel) rfl ?_
  intro p e s m args below meth c s₁ B hml hv
  obtain ⟨rfl, hd⟩ := hv
  have C := zX_of (own := RX10) hfl B hml rfl hd rfl
  have hr := B.returns
  refine zV_go hd (Nat.le_of_ble_eq_true rfl) (lv := [(0, .ref (ob E 0)), (1, .int (zI (i : Int))), (2, .int (zI a)), (3, .int (zI b)), (4, .int (zI st))]) rfl ?_
  have hU : zSUp σ 29 U := h.2.2.1
  have hS : zSTp σ 34 S := h.2.2.2.1.1
  have hnb : U.nb ≤ 8 := hU.2.2.1
  have hs0 := hU.2.2.2.1
  have hdb := qDrift_b hU hS hi
  have hU2 : zSUp (rW σ 322 (qDrift U S i).1 (qDrift U S i).2) 29 U := zSUp_rW hU (by decide)
  
  refine zv_aload_n C 0 dX10_printErrors_0 rfl rfl ?_
  refine zv_iload_n C 1 dX10_printErrors_1 rfl rfl ?_
  refine zv_cvvD (st := []) C (c_X10_needBody hfl E σ U (i : Int) hU (by omega) (by omega)) mX10_needBody kX10_140 (by decide : kd 0 = 9) rfl rfl rfl ⟨rfl, rfl⟩ (show zfit (zrm 0 0) 2 (zrm 5 126) = true from rfl) (Nat.le_of_ble_eq_true rfl) dX10_printErrors_2 ⟨Nat.zero_le _, Nat.zero_le _⟩ ?_
  refine zv_aload_n C 0 dX10_printErrors_5 rfl rfl ?_
  refine zv_iload_n C 2 dX10_printErrors_6 rfl rfl ?_
  refine zv_iload_n C 3 dX10_printErrors_7 rfl rfl ?_
  refine zv_cvvD (st := []) C (c_X10_needYears hfl E σ U a b hU (by omega) (by omega) ha hb hle) mX10_needYears kX10_203 (by decide : kd 0 = 9) rfl rfl rfl ⟨rfl, rfl⟩ (show zfit (zrm 2 43) 3 (zrm 5 126) = true from rfl) (Nat.le_of_ble_eq_true rfl) dX10_printErrors_8 ⟨Nat.zero_le _, Nat.zero_le _⟩ ?_
  refine zv_iload C 4 dX10_printErrors_11 rfl ?_
  refine zv_iconst (v := zI 1) C dX10_printErrors_13 rfl ?_
  refine zv_sipush (v := zI 999) C dX10_printErrors_14 (by decide) ?_
  refine zv_csvD (st := []) C (c_X10_needWithin hfl E σ st 1 999 (by omega) (by omega) (by omega) hst) mX10_needWithin kX10_117 rfl ⟨rfl, rfl⟩ (show zfit (zrm 0 0) 3 (zrm 5 126) = true from rfl) (Nat.le_of_ble_eq_true rfl) dX10_printErrors_17 ⟨Nat.zero_le _, Nat.zero_le _⟩ ?_
  refine zv_aload_n C 0 dX10_printErrors_20 rfl rfl ?_
  refine zv_iload_n C 1 dX10_printErrors_21 rfl rfl ?_
  refine zv_cvrD (st := []) C (c_X10_driftOf hfl E σ U S i hU hS hi) mX10_driftOf kX10_210 (by decide : kd 0 = 9) rfl rfl rfl ⟨rfl, rfl⟩ (show zfit (zrm 4 105) 2 (zrm 5 126) = true from rfl) (Nat.le_of_ble_eq_true rfl) dX10_printErrors_22 ⟨Nat.zero_le _, Nat.zero_le _⟩ ?_
  refine zv_astore (lv' := [(5, .ref (ob E 322)), (0, .ref (ob E 0)), (1, .int (zI (i : Int))), (2, .int (zI a)), (3, .int (zI b)), (4, .int (zI st))]) C dX10_printErrors_25  (by decide) rfl ?_
  refine zv_aload_n C 1 dX10_printErrors_27 rfl rfl ?_
  refine zG9_4 C (by decide : kd 0 = _) kX10_40 dX10_printErrors_28 ?_
  refine zv_iconst (v := zI 0) C dX10_printErrors_31 rfl ?_
  refine zP2_1 C (by decide : kd 316 = _) kX10_380 dX10_printErrors_32 ?_
  refine zv_eqS (τ := (oW 316 317 1 (sI (rW σ 322 (qDrift U S i).1 (qDrift U S i).2) 316 1 (zI 0)) 0 ([]))) rfl ?_
  refine zv_iload_n C 3 dX10_printErrors_35 rfl rfl ?_
  refine zv_istore (lv' := [(6, .int (zI a)), (5, .ref (ob E 322)), (0, .ref (ob E 0)), (1, .int (zI (i : Int))), (2, .int (zI a)), (3, .int (zI b)), (4, .int (zI st))]) C dX10_printErrors_36  (by decide) rfl ?_
  refine zv_iconst (v := zI 0) C dX10_printErrors_38 rfl ?_
  refine zv_istore (lv' := [(7, .int (zI 0)), (6, .int (zI a)), (5, .ref (ob E 322)), (0, .ref (ob E 0)), (1, .int (zI (i : Int))), (2, .int (zI a)), (3, .int (zI b)), (4, .int (zI st))]) C dX10_printErrors_39  (by decide) rfl ?_
  have q41_31 : (0 : Int) = (0 : Int) := by first | rfl | omega
  have q41_32 : (a : Int) = a + st * (0 : Int) := by rw [Int.mul_zero, Int.add_zero]
  refine zv_sub (lv' := [(0, .ref (ob E 0)), (3, .int (zI b)), (4, .int (zI st)), (5, .ref (ob E 322)), (6, .int (zI (a + st * (0 : Int)))), (7, .int (zI (0 : Int)))]) [3, 6, 7, 2, 1, 0] (zcons rfl (zcons rfl (zcons rfl (zcons rfl (zcons (zqI q41_32) (zcons (zqI q41_31) rfl)))))) ?_
  refine zv_eqS (τ := (oW 316 317 1 (sI (rW σ 322 (qDrift U S i).1 (qDrift U S i).2) 316 1 (zI 0)) 0 (peL U S i a b st 0))) (rfl) ?_
  refine zv_while (α := Nat) (fun v => 41 - v) (fun v => v ≤ 40) (fun v => (oW 316 317 1 (sI (rW σ 322 (qDrift U S i).1 (qDrift U S i).2) 316 1 (zI 0)) 0 (peL U S i a b st v))) (fun v => [(0, .ref (ob E 0)), (3, .int (zI b)), (4, .int (zI st)), (5, .ref (ob E 322)), (6, .int (zI (a + st * (v : Int)))), (7, .int (zI (v : Int)))]) (fun v => []) (fun j hI ih => ?_) (0) (by omega)
  have hpl := peL_l hU hS hi ha.1 hb.2 (show 0 ≤ st by omega) j
  have hm : 0 ≤ st * (j : Int) := Int.mul_nonneg (by omega) (by omega)
  have hm2 : st * (j : Int) ≤ 999 * 40 := Int.mul_le_mul (by omega) (by omega) (by omega) (by omega)
  refine zv_iload C 5 dX10_printErrors_41 rfl ?_
  refine zv_bipush (v := zI 40) C dX10_printErrors_43 (by decide) ?_
  refine zv_icmp_geZ (tgt := 116) C (by omega) (by omega) dX10_printErrors_45 (by decide) (fun h45 => ?_) (fun h45 => ?_)
  · skip
    refine zv_aload_n C 0 dX10_printErrors_116 rfl rfl ?_
    refine zG9_4 C (by decide : kd 0 = _) kX10_40 dX10_printErrors_117 ?_
    refine zG2_1 C (by decide : kd 316 = _) kX10_380 dX10_printErrors_120 ?_
    refine zv_eqi (y := (zI ((peL U S i a b st j).length : Int))) (oW_n0 _ _) ?_
    exact zv_iret C hr rfl dX10_printErrors_123 (by first | (rw [hjx]; exact ⟨rfl, zCP_out h (by omega) (zFr_rW (zFr_refl _ _ _) (by omega))⟩) | (rw [show (40 : Nat) = j by omega]; exact ⟨rfl, zCP_out h (by omega) (zFr_rW (zFr_refl _ _ _) (by omega))⟩))
  · skip
    
    refine zv_iload C 4 dX10_printErrors_48 rfl ?_
    refine zv_iload_n C 1 dX10_printErrors_50 rfl rfl ?_
    refine zv_icmp_gtZ (tgt := 116) C (by omega) (by omega) dX10_printErrors_51 (by decide) (fun h51 => ?_) (fun h51 => ?_)
    · skip
      have hjx := peL_end (U := U) (S := S) (i := i) (show 0 ≤ st by omega) (show ¬ a + st * (j : Int) ≤ b by omega) 40 (by omega)
      refine zv_aload_n C 0 dX10_printErrors_116 rfl rfl ?_
      refine zG9_4 C (by decide : kd 0 = _) kX10_40 dX10_printErrors_117 ?_
      refine zG2_1 C (by decide : kd 316 = _) kX10_380 dX10_printErrors_120 ?_
      refine zv_eqi (y := (zI ((peL U S i a b st j).length : Int))) (oW_n0 _ _) ?_
      exact zv_iret C hr rfl dX10_printErrors_123 (by first | (rw [hjx]; exact ⟨rfl, zCP_out h (by omega) (zFr_rW (zFr_refl _ _ _) (by omega))⟩) | (rw [show (40 : Nat) = j by omega]; exact ⟨rfl, zCP_out h (by omega) (zFr_rW (zFr_refl _ _ _) (by omega))⟩))
    · skip
      have hye := yEnd_in hs0 (y := a + st * (j : Int)) (by omega)
      obtain ⟨f, hf⟩ : ∃ f : Nat, yEnd U.s0 (a + st * (j : Int)) = (f : Int) := ⟨(yEnd U.s0 (a + st * (j : Int))).toNat, by omega⟩
      have hF := zF_e hf
      have hqb := qErr_b hU hS hi (y := a + st * (j : Int)) (by omega)
      have hl1 := (lNum_l (z := a + st * (j : Int)) (k := 3) (by omega)).2 (by omega)
      have hl2 := (lNum_l (z := qErr U S i (a + st * (j : Int))) (k := 16) (by omega)).1
      have hU3 : zSUp (oW 316 317 1 (sI (rW σ 322 (qDrift U S i).1 (qDrift U S i).2) 316 1 (zI 0)) 0 (peL U S i a b st j ++ lNum (a + st * (j : Int)) ++ [58])) 29 U := zSUp_w hU2 (fun x y _ _ => ⟨by rw [oW_o _ _ _ _ _ (by omega) (by omega), gI_sI, if_neg (by omega)], by unfold gJ; rw [oW_2]; rfl⟩)
      have hR3 : zRt (oW 316 317 1 (sI (rW σ 322 (qDrift U S i).1 (qDrift U S i).2) 316 1 (zI 0)) 0 (peL U S i a b st j ++ lNum (a + st * (j : Int)) ++ [58])) 322 (qDrift U S i).1 (qDrift U S i).2 := by
        have hz := rW_R σ 322 (qDrift U S i).1 (qDrift U S i).2
        exact ⟨by unfold gJ; rw [oW_2]; exact hz.1, by unfold gJ; rw [oW_2]; exact hz.2⟩
      refine zv_aload_n C 0 dX10_printErrors_54 rfl rfl ?_
      refine zG9_4 C (by decide : kd 0 = _) kX10_40 dX10_printErrors_55 ?_
      refine zv_iload C 4 dX10_printErrors_58 rfl ?_
      refine zv_i2lZ C (by omega) dX10_printErrors_60 ?_
      refine zv_cvvD (st := []) C (c_X2_putNumber hfl E (oW 316 317 1 (sI (rW σ 322 (qDrift U S i).1 (qDrift U S i).2) 316 1 (zI 0)) 0 (peL U S i a b st j)) (peL U S i a b st j).length (a + st * (j : Int)) (oW_n0 _ _) (by first | omega | (simp only [List.length_append, List.length_cons, List.length_nil]; omega)) (by omega)) mX2_putNumber kX10_381 (by decide : kd 316 = 2) rfl rfl rfl ⟨rfl, rfl⟩ (show zfit (zrm 1 21) 8 (zrm 5 126) = true from rfl) (Nat.le_of_ble_eq_true rfl) dX10_printErrors_61 ⟨Nat.zero_le _, Nat.zero_le _⟩ ?_
      refine zv_eqS (τ := (oW 316 317 1 (sI (rW σ 322 (qDrift U S i).1 (qDrift U S i).2) 316 1 (zI 0)) 0 (peL U S i a b st j ++ lNum (a + st * (j : Int))))) (oW_cat (sI (rW σ 322 (qDrift U S i).1 (qDrift U S i).2) 316 1 (zI 0)) (peL U S i a b st j) (lNum (a + st * (j : Int)))) ?_
      refine zv_aload_n C 0 dX10_printErrors_64 rfl rfl ?_
      refine zG9_4 C (by decide : kd 0 = _) kX10_40 dX10_printErrors_65 ?_
      refine zv_bipush (v := zI 58) C dX10_printErrors_68 (by decide) ?_
      refine zv_cvvD (st := []) C (c_X2_putByte hfl E (oW 316 317 1 (sI (rW σ 322 (qDrift U S i).1 (qDrift U S i).2) 316 1 (zI 0)) 0 (peL U S i a b st j ++ lNum (a + st * (j : Int)))) (peL U S i a b st j ++ lNum (a + st * (j : Int))).length 58 (oW_n0 _ _) (by first | omega | (simp only [List.length_append, List.length_cons, List.length_nil]; omega)) (by omega)) mX2_putByte kX10_385 (by decide : kd 316 = 2) rfl rfl rfl ⟨rfl, rfl⟩ (show zfit (zrm 0 0) 2 (zrm 5 126) = true from rfl) (Nat.le_of_ble_eq_true rfl) dX10_printErrors_70 ⟨Nat.zero_le _, Nat.zero_le _⟩ ?_
      refine zv_eqS (τ := (oW 316 317 1 (sI (rW σ 322 (qDrift U S i).1 (qDrift U S i).2) 316 1 (zI 0)) 0 (peL U S i a b st j ++ lNum (a + st * (j : Int)) ++ [58]))) (oW_cat (sI (rW σ 322 (qDrift U S i).1 (qDrift U S i).2) 316 1 (zI 0)) (peL U S i a b st j ++ lNum (a + st * (j : Int))) ([58])) ?_
      refine zv_aload_n C 0 dX10_printErrors_73 rfl rfl ?_
      refine zG9_4 C (by decide : kd 0 = _) kX10_40 dX10_printErrors_74 ?_
      refine zv_aload C 3 dX10_printErrors_77 rfl ?_
      refine zv_aload_n C 0 dX10_printErrors_79 rfl rfl ?_
      refine zG9_1 C (by decide : kd 0 = _) kX10_19 dX10_printErrors_80 ?_
      refine zv_iload C 4 dX10_printErrors_83 rfl ?_
      refine zv_cviD (st := [.ref (ob E 322), .ref (ob E 316)]) C (c_X4_endDay hfl E (oW 316 317 1 (sI (rW σ 322 (qDrift U S i).1 (qDrift U S i).2) 316 1 (zI 0)) 0 (peL U S i a b st j ++ lNum (a + st * (j : Int)) ++ [58])) 29 U.s0 U.nb U.nm U.pe U.re U.ca (a + st * (j : Int)) (by decide) hU3 (by omega)) mX4_endDay kX10_195 (by decide : kd 29 = 4) rfl rfl rfl ⟨rfl, rfl⟩ (show zfit (zrm 1 20) 2 (zrm 5 126) = true from rfl) (Nat.le_of_ble_eq_true rfl) dX10_printErrors_85 ⟨Nat.zero_le _, Nat.zero_le _⟩ ?_
      refine zv_eqi (y := (zI (f : Int))) (by rw [hf]) ?_
      refine zv_cvlD (st := [.ref (ob E 316)]) C (c_X3_arcBy hfl E (oW 316 317 1 (sI (rW σ 322 (qDrift U S i).1 (qDrift U S i).2) 316 1 (zI 0)) 0 (peL U S i a b st j ++ lNum (a + st * (j : Int)) ++ [58])) 322 (qDrift U S i).1 (qDrift U S i).2 f (f * 1296000) rfl (by decide) hR3 (by omega) (by omega) (by omega)) mX3_arcBy kX10_214 (by decide : kd 322 = 3) rfl rfl rfl ⟨rfl, rfl⟩ (show zfit (zrm 1 21) 14 (zrm 5 126) = true from rfl) (Nat.le_of_ble_eq_true rfl) dX10_printErrors_88 ⟨Nat.zero_le _, Nat.zero_le _⟩ ?_
      refine zv_eql (y := (zL (qErr U S i (a + st * (j : Int))))) (by rw [hF]; rfl) ?_
      refine zv_cvvD (st := []) C (c_X2_putNumber hfl E (oW 316 317 1 (sI (rW σ 322 (qDrift U S i).1 (qDrift U S i).2) 316 1 (zI 0)) 0 (peL U S i a b st j ++ lNum (a + st * (j : Int)) ++ [58])) (peL U S i a b st j ++ lNum (a + st * (j : Int)) ++ [58]).length (qErr U S i (a + st * (j : Int))) (oW_n0 _ _) (by first | omega | (simp only [List.length_append, List.length_cons, List.length_nil]; omega)) (by omega)) mX2_putNumber kX10_381 (by decide : kd 316 = 2) rfl rfl rfl ⟨rfl, rfl⟩ (show zfit (zrm 1 21) 8 (zrm 5 126) = true from rfl) (Nat.le_of_ble_eq_true rfl) dX10_printErrors_91 ⟨Nat.zero_le _, Nat.zero_le _⟩ ?_
      refine zv_eqS (τ := (oW 316 317 1 (sI (rW σ 322 (qDrift U S i).1 (qDrift U S i).2) 316 1 (zI 0)) 0 (peL U S i a b st j ++ lNum (a + st * (j : Int)) ++ [58] ++ lNum (qErr U S i (a + st * (j : Int)))))) (oW_cat (sI (rW σ 322 (qDrift U S i).1 (qDrift U S i).2) 316 1 (zI 0)) (peL U S i a b st j ++ lNum (a + st * (j : Int)) ++ [58]) (lNum (qErr U S i (a + st * (j : Int))))) ?_
      refine zv_aload_n C 0 dX10_printErrors_94 rfl rfl ?_
      refine zG9_4 C (by decide : kd 0 = _) kX10_40 dX10_printErrors_95 ?_
      refine zv_bipush (v := zI 59) C dX10_printErrors_98 (by decide) ?_
      refine zv_cvvD (st := []) C (c_X2_putByte hfl E (oW 316 317 1 (sI (rW σ 322 (qDrift U S i).1 (qDrift U S i).2) 316 1 (zI 0)) 0 (peL U S i a b st j ++ lNum (a + st * (j : Int)) ++ [58] ++ lNum (qErr U S i (a + st * (j : Int))))) (peL U S i a b st j ++ lNum (a + st * (j : Int)) ++ [58] ++ lNum (qErr U S i (a + st * (j : Int)))).length 59 (oW_n0 _ _) (by first | omega | (simp only [List.length_append, List.length_cons, List.length_nil]; omega)) (by omega)) mX2_putByte kX10_385 (by decide : kd 316 = 2) rfl rfl rfl ⟨rfl, rfl⟩ (show zfit (zrm 0 0) 2 (zrm 5 126) = true from rfl) (Nat.le_of_ble_eq_true rfl) dX10_printErrors_100 ⟨Nat.zero_le _, Nat.zero_le _⟩ ?_
      refine zv_eqS (τ := (oW 316 317 1 (sI (rW σ 322 (qDrift U S i).1 (qDrift U S i).2) 316 1 (zI 0)) 0 (peL U S i a b st j ++ lNum (a + st * (j : Int)) ++ [58] ++ lNum (qErr U S i (a + st * (j : Int))) ++ [59]))) (oW_cat (sI (rW σ 322 (qDrift U S i).1 (qDrift U S i).2) 316 1 (zI 0)) (peL U S i a b st j ++ lNum (a + st * (j : Int)) ++ [58] ++ lNum (qErr U S i (a + st * (j : Int)))) ([59])) ?_
      refine zv_iload C 4 dX10_printErrors_103 rfl ?_
      refine zv_iload C 2 dX10_printErrors_105 rfl ?_
      refine zv_iaddZ C dX10_printErrors_107 ?_
      refine zv_istore (lv' := [(6, .int (zI ((a + st * (j : Int)) + st))), (0, .ref (ob E 0)), (3, .int (zI b)), (4, .int (zI st)), (5, .ref (ob E 322)), (7, .int (zI (j : Int)))]) C dX10_printErrors_108  (by decide) rfl ?_
      refine zv_iinc (v := (zI ((j : Int) + 1))) (lv' := [(7, .int (zI ((j : Int) + 1))), (6, .int (zI ((a + st * (j : Int)) + st))), (0, .ref (ob E 0)), (3, .int (zI b)), (4, .int (zI st)), (5, .ref (ob E 322))]) C 5 dX10_printErrors_110 rfl (zI_add _ _) (by decide) rfl ?_
      refine zv_goto (tgt := 41) C dX10_printErrors_113 (by decide) ?_
      have q41_105 : ((j : Int) + 1 : Int) = ((j + 1 : Nat) : Int) := by first | rfl | omega
      have q41_106 : ((a + st * (j : Int)) + st : Int) = a + st * ((j + 1 : Nat) : Int) := by rw [Int.natCast_succ, Int.mul_add, Int.mul_one, Int.add_assoc]
      refine zv_sub (lv' := [(0, .ref (ob E 0)), (3, .int (zI b)), (4, .int (zI st)), (5, .ref (ob E 322)), (6, .int (zI (a + st * ((j + 1 : Nat) : Int)))), (7, .int (zI ((j + 1 : Nat) : Int)))]) [2, 3, 4, 5, 1, 0] (zcons rfl (zcons rfl (zcons rfl (zcons rfl (zcons (zqI q41_106) (zcons (zqI q41_105) rfl)))))) ?_
      refine zv_eqS (τ := (oW 316 317 1 (sI (rW σ 322 (qDrift U S i).1 (qDrift U S i).2) 316 1 (zI 0)) 0 (peL U S i a b st (j + 1)))) (by rw [peL, if_pos (by omega)]) ?_
      exact ih (j + 1) (by omega) (by omega)
set_option maxRecDepth 20000 in
theorem x1_X10_printErrors {l : Launch} (hfl : l.stackTraces = false) (E : zE) (σ : zS) (U : zSU) (b : Int) (y : Int) (z : Int) (w : Int) (hU : zSUp σ 29 U) (hbi : -2147483648 ≤ b ∧ b < 2147483648) (hno : ¬ (0 ≤ b ∧ b < U.nb)) : zRx l E yX10_printErrors cX10_printErrors 8 (some .int) (zrx 12 300) [.ref (ob E 0), .int (zI b), .int (zI y), .int (zI z), .int (zI w)] σ "java/lang/IndexOutOfBoundsException" := by
  refine vx_ofW (cc := cX10_printErrors) (maxL := 8) (ret := (some .int)) (by decide) rfl ?_
  intro p e s m args below meth c s₁ B hml hout hv
  obtain ⟨rfl, hd⟩ := hv
  have C := zX_of (own := RX10) hfl B hml rfl hd rfl
  have hr := B.returns
  refine zV_go hd (Nat.le_of_ble_eq_true rfl) (lv := [(0, .ref (ob E 0)), (1, .int (zI b)), (2, .int (zI y)), (3, .int (zI z)), (4, .int (zI w))]) rfl ?_
  have hnb : U.nb ≤ 8 := hU.2.2.1
  have hs0 := hU.2.2.2.1
  
  refine zv_aload_n C 0 dX10_printErrors_0 rfl rfl ?_
  refine zv_iload_n C 1 dX10_printErrors_1 rfl rfl ?_
  exact zv_xcv (st := []) C (x_X10_needBody hfl E σ U b hU hbi hno) hout mX10_needBody kX10_140 (by decide : kd 0 = 9) rfl rfl rfl ⟨rfl, rfl⟩ (show zfit (zrx 6 100) 2 (zrx 12 300) = true from rfl) (Nat.le_of_ble_eq_true rfl) dX10_printErrors_2
set_option maxRecDepth 20000 in
theorem x2_X10_printErrors {l : Launch} (hfl : l.stackTraces = false) (E : zE) (σ : zS) (U : zSU) (i : Nat) (y z : Int) (w : Int) (hU : zSUp σ 29 U) (hi : i < U.nb) (hyi : -2147483648 ≤ y ∧ y < 2147483648) (hzi : -2147483648 ≤ z ∧ z < 2147483648) (hno : ¬ (U.s0 ≤ y ∧ y ≤ U.s0 + 999)) : zRx l E yX10_printErrors cX10_printErrors 8 (some .int) (zrx 12 300) [.ref (ob E 0), .int (zI (i : Int)), .int (zI y), .int (zI z), .int (zI w)] σ "java/lang/IllegalArgumentException" := by
  refine vx_ofW (cc := cX10_printErrors) (maxL := 8) (ret := (some .int)) (by decide) rfl ?_
  intro p e s m args below meth c s₁ B hml hout hv
  obtain ⟨rfl, hd⟩ := hv
  have C := zX_of (own := RX10) hfl B hml rfl hd rfl
  have hr := B.returns
  refine zV_go hd (Nat.le_of_ble_eq_true rfl) (lv := [(0, .ref (ob E 0)), (1, .int (zI (i : Int))), (2, .int (zI y)), (3, .int (zI z)), (4, .int (zI w))]) rfl ?_
  have hnb : U.nb ≤ 8 := hU.2.2.1
  have hs0 := hU.2.2.2.1
  
  refine zv_aload_n C 0 dX10_printErrors_0 rfl rfl ?_
  refine zv_iload_n C 1 dX10_printErrors_1 rfl rfl ?_
  refine zv_cvvD (st := []) C (c_X10_needBody hfl E σ U (i : Int) hU (by omega) (by omega)) mX10_needBody kX10_140 (by decide : kd 0 = 9) rfl rfl rfl ⟨rfl, rfl⟩ (show zfit (zrm 0 0) 2 (zrx 12 300) = true from rfl) (Nat.le_of_ble_eq_true rfl) dX10_printErrors_2 ⟨Nat.zero_le _, Nat.zero_le _⟩ ?_
  refine zv_aload_n C 0 dX10_printErrors_5 rfl rfl ?_
  refine zv_iload_n C 2 dX10_printErrors_6 rfl rfl ?_
  refine zv_iload_n C 3 dX10_printErrors_7 rfl rfl ?_
  exact zv_xcv (st := []) C (x1_X10_needYears hfl E σ U y z hU hyi hzi hno) hout mX10_needYears kX10_203 (by decide : kd 0 = 9) rfl rfl rfl ⟨rfl, rfl⟩ (show zfit (zrx 10 220) 3 (zrx 12 300) = true from rfl) (Nat.le_of_ble_eq_true rfl) dX10_printErrors_8
set_option maxRecDepth 20000 in
theorem x3_X10_printErrors {l : Launch} (hfl : l.stackTraces = false) (E : zE) (σ : zS) (U : zSU) (i : Nat) (y z : Int) (w : Int) (hU : zSUp σ 29 U) (hi : i < U.nb) (hyi : -2147483648 ≤ y ∧ y < 2147483648) (hzi : -2147483648 ≤ z ∧ z < 2147483648) (hy : U.s0 ≤ y ∧ y ≤ U.s0 + 999) (hno : ¬ (U.s0 ≤ z ∧ z ≤ U.s0 + 999)) : zRx l E yX10_printErrors cX10_printErrors 8 (some .int) (zrx 12 300) [.ref (ob E 0), .int (zI (i : Int)), .int (zI y), .int (zI z), .int (zI w)] σ "java/lang/IllegalArgumentException" := by
  refine vx_ofW (cc := cX10_printErrors) (maxL := 8) (ret := (some .int)) (by decide) rfl ?_
  intro p e s m args below meth c s₁ B hml hout hv
  obtain ⟨rfl, hd⟩ := hv
  have C := zX_of (own := RX10) hfl B hml rfl hd rfl
  have hr := B.returns
  refine zV_go hd (Nat.le_of_ble_eq_true rfl) (lv := [(0, .ref (ob E 0)), (1, .int (zI (i : Int))), (2, .int (zI y)), (3, .int (zI z)), (4, .int (zI w))]) rfl ?_
  have hnb : U.nb ≤ 8 := hU.2.2.1
  have hs0 := hU.2.2.2.1
  
  refine zv_aload_n C 0 dX10_printErrors_0 rfl rfl ?_
  refine zv_iload_n C 1 dX10_printErrors_1 rfl rfl ?_
  refine zv_cvvD (st := []) C (c_X10_needBody hfl E σ U (i : Int) hU (by omega) (by omega)) mX10_needBody kX10_140 (by decide : kd 0 = 9) rfl rfl rfl ⟨rfl, rfl⟩ (show zfit (zrm 0 0) 2 (zrx 12 300) = true from rfl) (Nat.le_of_ble_eq_true rfl) dX10_printErrors_2 ⟨Nat.zero_le _, Nat.zero_le _⟩ ?_
  refine zv_aload_n C 0 dX10_printErrors_5 rfl rfl ?_
  refine zv_iload_n C 2 dX10_printErrors_6 rfl rfl ?_
  refine zv_iload_n C 3 dX10_printErrors_7 rfl rfl ?_
  exact zv_xcv (st := []) C (x2_X10_needYears hfl E σ U y z hU hyi hzi hy hno) hout mX10_needYears kX10_203 (by decide : kd 0 = 9) rfl rfl rfl ⟨rfl, rfl⟩ (show zfit (zrx 10 220) 3 (zrx 12 300) = true from rfl) (Nat.le_of_ble_eq_true rfl) dX10_printErrors_8
set_option maxRecDepth 20000 in
theorem x4_X10_printErrors {l : Launch} (hfl : l.stackTraces = false) (E : zE) (σ : zS) (U : zSU) (i : Nat) (y z : Int) (w : Int) (hU : zSUp σ 29 U) (hi : i < U.nb) (hyi : -2147483648 ≤ y ∧ y < 2147483648) (hzi : -2147483648 ≤ z ∧ z < 2147483648) (hy : U.s0 ≤ y ∧ y ≤ U.s0 + 999) (hz : U.s0 ≤ z ∧ z ≤ U.s0 + 999) (hno : z < y) : zRx l E yX10_printErrors cX10_printErrors 8 (some .int) (zrx 12 300) [.ref (ob E 0), .int (zI (i : Int)), .int (zI y), .int (zI z), .int (zI w)] σ "java/lang/IllegalArgumentException" := by
  refine vx_ofW (cc := cX10_printErrors) (maxL := 8) (ret := (some .int)) (by decide) rfl ?_
  intro p e s m args below meth c s₁ B hml hout hv
  obtain ⟨rfl, hd⟩ := hv
  have C := zX_of (own := RX10) hfl B hml rfl hd rfl
  have hr := B.returns
  refine zV_go hd (Nat.le_of_ble_eq_true rfl) (lv := [(0, .ref (ob E 0)), (1, .int (zI (i : Int))), (2, .int (zI y)), (3, .int (zI z)), (4, .int (zI w))]) rfl ?_
  have hnb : U.nb ≤ 8 := hU.2.2.1
  have hs0 := hU.2.2.2.1
  
  refine zv_aload_n C 0 dX10_printErrors_0 rfl rfl ?_
  refine zv_iload_n C 1 dX10_printErrors_1 rfl rfl ?_
  refine zv_cvvD (st := []) C (c_X10_needBody hfl E σ U (i : Int) hU (by omega) (by omega)) mX10_needBody kX10_140 (by decide : kd 0 = 9) rfl rfl rfl ⟨rfl, rfl⟩ (show zfit (zrm 0 0) 2 (zrx 12 300) = true from rfl) (Nat.le_of_ble_eq_true rfl) dX10_printErrors_2 ⟨Nat.zero_le _, Nat.zero_le _⟩ ?_
  refine zv_aload_n C 0 dX10_printErrors_5 rfl rfl ?_
  refine zv_iload_n C 2 dX10_printErrors_6 rfl rfl ?_
  refine zv_iload_n C 3 dX10_printErrors_7 rfl rfl ?_
  exact zv_xcv (st := []) C (x3_X10_needYears hfl E σ U y z hU hyi hzi hy hz hno) hout mX10_needYears kX10_203 (by decide : kd 0 = 9) rfl rfl rfl ⟨rfl, rfl⟩ (show zfit (zrx 10 220) 3 (zrx 12 300) = true from rfl) (Nat.le_of_ble_eq_true rfl) dX10_printErrors_8
set_option maxRecDepth 20000 in
theorem x5_X10_printErrors {l : Launch} (hfl : l.stackTraces = false) (E : zE) (σ : zS) (U : zSU) (i : Nat) (a b w : Int) (hU : zSUp σ 29 U) (hi : i < U.nb) (ha : U.s0 ≤ a ∧ a ≤ U.s0 + 999) (hb : U.s0 ≤ b ∧ b ≤ U.s0 + 999) (hle : a ≤ b) (hwi : -2147483648 ≤ w ∧ w < 2147483648) (hno : ¬ (1 ≤ w ∧ w ≤ 999)) : zRx l E yX10_printErrors cX10_printErrors 8 (some .int) (zrx 12 300) [.ref (ob E 0), .int (zI (i : Int)), .int (zI a), .int (zI b), .int (zI w)] σ "java/lang/IllegalArgumentException" := by
  refine vx_ofW (cc := cX10_printErrors) (maxL := 8) (ret := (some .int)) (by decide) rfl ?_
  intro p e s m args below meth c s₁ B hml hout hv
  obtain ⟨rfl, hd⟩ := hv
  have C := zX_of (own := RX10) hfl B hml rfl hd rfl
  have hr := B.returns
  refine zV_go hd (Nat.le_of_ble_eq_true rfl) (lv := [(0, .ref (ob E 0)), (1, .int (zI (i : Int))), (2, .int (zI a)), (3, .int (zI b)), (4, .int (zI w))]) rfl ?_
  have hnb : U.nb ≤ 8 := hU.2.2.1
  have hs0 := hU.2.2.2.1
  
  refine zv_aload_n C 0 dX10_printErrors_0 rfl rfl ?_
  refine zv_iload_n C 1 dX10_printErrors_1 rfl rfl ?_
  refine zv_cvvD (st := []) C (c_X10_needBody hfl E σ U (i : Int) hU (by omega) (by omega)) mX10_needBody kX10_140 (by decide : kd 0 = 9) rfl rfl rfl ⟨rfl, rfl⟩ (show zfit (zrm 0 0) 2 (zrx 12 300) = true from rfl) (Nat.le_of_ble_eq_true rfl) dX10_printErrors_2 ⟨Nat.zero_le _, Nat.zero_le _⟩ ?_
  refine zv_aload_n C 0 dX10_printErrors_5 rfl rfl ?_
  refine zv_iload_n C 2 dX10_printErrors_6 rfl rfl ?_
  refine zv_iload_n C 3 dX10_printErrors_7 rfl rfl ?_
  refine zv_cvvD (st := []) C (c_X10_needYears hfl E σ U a b hU (by omega) (by omega) ha hb hle) mX10_needYears kX10_203 (by decide : kd 0 = 9) rfl rfl rfl ⟨rfl, rfl⟩ (show zfit (zrm 2 43) 3 (zrx 12 300) = true from rfl) (Nat.le_of_ble_eq_true rfl) dX10_printErrors_8 ⟨Nat.zero_le _, Nat.zero_le _⟩ ?_
  refine zv_iload C 4 dX10_printErrors_11 rfl ?_
  refine zv_iconst (v := zI 1) C dX10_printErrors_13 rfl ?_
  refine zv_sipush (v := zI 999) C dX10_printErrors_14 (by decide) ?_
  exact zv_xcs (st := []) C (x_X10_needWithin hfl E σ w 1 999 hwi (by omega) (by omega) hno) hout mX10_needWithin kX10_117 rfl ⟨rfl, rfl⟩ (show zfit (zrx 6 100) 3 (zrx 12 300) = true from rfl) (Nat.le_of_ble_eq_true rfl) dX10_printErrors_17
