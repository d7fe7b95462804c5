theorem oW_1 (L : List Nat) : ∀ (x : Nat → Nat → Int32) (y z : (Nat → Nat → Int64) × (Nat → Nat → UInt64)) (n : Nat), (oW 316 317 1 (x, y) n L).1 = (oW 316 317 1 (x, z) n L).1 := by
  induction L with
  | nil => intro x y z n; rfl
  | cons a L ih => intro x y z n; exact ih _ _ _ _
/-- a ratio put down behind the output, or before it -/
theorem oW_rW (σ : zS) (L : List Nat) (k : Nat) (t b : Int) : rW (oW 316 317 1 (sI σ 316 1 (zI 0)) 0 L) k t b = oW 316 317 1 (sI (rW σ k t b) 316 1 (zI 0)) 0 L := by
  refine Prod.ext ?_ ?_
  · exact oW_1 L _ _ _ _
  · rw [oW_2]
    show (sJ (sJ (oW 316 317 1 (sI σ 316 1 (zI 0)) 0 L) k 0 (zL t)) k 1 (zL b)).2 = (sJ (sJ σ k 0 (zL t)) k 1 (zL b)).2
    unfold sJ
    simp only [oW_2]
    rfl
theorem zSUp_oW {σ : zS} {U : zSU} (h : zSUp σ 29 U) (L : List Nat) : zSUp (oW 316 317 1 (sI σ 316 1 (zI 0)) 0 L) 29 U := zSUp_w h (fun x y _ _ => ⟨by rw [oW_o _ _ _ _ _ (by omega) (by omega), gI_sI, if_neg (by omega)], by unfold gJ; rw [oW_2]; rfl⟩)
theorem zSTp_oW {σ : zS} {S : zST} (h : zSTp σ 34 S) (L : List Nat) : zSTp (oW 316 317 1 (sI σ 316 1 (zI 0)) 0 L) 34 S := zSTp_w h (fun x y _ _ => by rw [oW_o _ _ _ _ _ (by omega) (by omega), gI_sI, if_neg (by omega)])
def nq (U : zSU) (j : Nat) : Nat := (U.nm j).toInt.toNat
def zNq (U : zSU) : Prop := ∀ j, j < U.nb → 0 ≤ (U.nm j).toInt
theorem nq_e {U : zSU} (h : zNq U) {j : Nat} (hj : j < U.nb) : U.nm j = zL (nq U j : Int) ∧ nq U j < 2 ^ 63 := by
  have h1 := h j hj
  have h2 : (U.nm j).toInt < 9223372036854775808 := Int64.toInt_lt (U.nm j)
  unfold nq
  refine ⟨?_, by omega⟩
  rw [Int.toNat_of_nonneg h1, zL_of]
def rpL (U : zSU) (S : zST) (y : Int) : Nat → List Nat
  | 0 => []
  | j + 1 => rpL U S y j ++ lB (nq U j) 8 ++ [58] ++ lNum (qErr U S j y) ++ [10]
theorem rpL_l {σ σ' : zS} {k k' : Nat} {U : zSU} {S : zST} (h : zSUp σ k U) (hS : zSTp σ' k' S) {y : Int} (hy : U.s0 - 1 ≤ y ∧ y ≤ U.s0 + 999) : ∀ j, j ≤ U.nb → (rpL U S y j).length ≤ 28 * j := by
  intro j
  induction j with
  | zero => intro _; exact Nat.le_refl _
  | succ j ih =>
    intro hj
    have h0 := ih (by omega)
    have h1 := qErr_b h hS (i := j) (by omega) hy
    have h2 := lB_l (nq U j) 8
    have h3 := (lNum_l (z := qErr U S j y) (k := 16) (by omega)).1
    simp only [rpL, List.length_append, List.length_cons, List.length_nil]
    omega
def ppL (S : zST) (i j : Nat) : List Nat := lNum (S.tr i j 1 : Int) ++ (if S.tr i j 0 = 2 then [105] else [if S.tr i j 0 = 1 then 111 else 47] ++ lNum (S.tr i j 2 : Int))
def ptL (S : zST) (i : Nat) : Nat → List Nat
  | 0 => []
  | j + 1 => ptL S i j ++ (if 0 < j then [42] else []) ++ ppL S i j
theorem ppL_l {σ : zS} {k : Nat} {S : zST} (h : zSTp σ k S) {i j : Nat} (hi : i < 8) (hj : j < S.tn i) : (ppL S i j).length ≤ 7 := by
  have hT := (h.2.2.2.2.2.2 i hi).1
  have a1 := hT.2.2.2 j 1 hj (by omega)
  have a2 := hT.2.2.2 j 2 hj (by omega)
  have h1 := (lNum_l (z := (S.tr i j 1 : Int)) (k := 2) (by omega)).2 (by omega)
  have h2 := (lNum_l (z := (S.tr i j 2 : Int)) (k := 2) (by omega)).2 (by omega)
  unfold ppL
  rw [List.length_append]
  split
  · simp only [List.length_cons, List.length_nil]; omega
  · simp only [List.length_append, List.length_cons, List.length_nil]; omega
theorem ptL_l {σ : zS} {k : Nat} {S : zST} (h : zSTp σ k S) {i : Nat} (hi : i < 8) : ∀ j, j ≤ S.tn i → (ptL S i j).length ≤ 8 * j := by
  intro j
  induction j with
  | zero => intro _; exact Nat.le_refl _
  | succ j ih =>
    intro hj
    have h0 := ih (by omega)
    have h1 := ppL_l h hi (show j < S.tn i by omega)
    simp only [ptL, List.length_append]
    split
    · simp only [List.length_cons, List.length_nil]; omega
    · simp only [List.length_nil]; omega
theorem qW_f (σ : zS) (U : zSU) (S : zST) (i : Nat) : zFr 318 327 σ (qW σ U S i) := by
  cases i with
  | zero => exact zFr_refl _ _ _
  | succ i => exact zFr_rW (zFr_refl _ _ _) (by omega)
set_option maxRecDepth 20000 in
theorem c_X10_report {l : Launch} (hfl : l.stackTraces = false) (E : zE) (σ : zS) (ni : Nat) (tx : Nat → Int) (ec : Nat) (eo : Int) (U : zSU) (S : zST) (hh : List zST) (kp : Option zST) (ou : List Nat) (y : Int) (h : zCP σ (zDv.mk ni tx ec eo U S hh kp ou)) (hnq : zNq U) (hy : U.s0 ≤ y ∧ y ≤ U.s0 + 999) : zRi l E yX10_report cX10_report 3 .int (zrm 6 148) [.ref (ob E 0), .int (zI y)] σ (fun r τ => r = zI ((rpL U S y U.nb).length : Int) ∧ zCP τ ((zDv.mk ni tx ec eo U S hh kp ou).sO (rpL U S y U.nb)) ∧ zFr 0 327 σ τ) := by
  refine Met.ofW (cc := cX10_report) (maxL := 3) (ret := (some .int)) (by decide +kernel) rfl ?_
  intro p e s m args below meth c s₁ B hml hv
  obtain ⟨rfl, hd⟩ := hv
  have C := zX_of (own := RX10) hfl B hml rfl hd rfl
  have hr := B.returns
  refine zV_go hd (Nat.le_of_ble_eq_true rfl) (lv := [(0, .ref (ob E 0)), (1, .int (zI y))]) rfl ?_
  have hU : zSUp σ 29 U := h.2.2.1
  have hS : zSTp σ 34 S := h.2.2.2.1.1
  have hnb : U.nb ≤ 8 := hU.2.2.1
  have hs0 := hU.2.2.2.1
  
  refine zv_aload_n C 0 dX10_report_0 rfl rfl ?_
  refine zv_iload_n C 1 dX10_report_1 rfl rfl ?_
  refine zv_cvvD (st := []) C (c_X10_needYear hfl E σ U y hU (by omega) hy) mX10_needYear kX10_192 (by decide : kd 0 = 9) rfl rfl rfl ⟨rfl, rfl⟩ (show zfit (zrm 1 22) 2 (zrm 6 148) = true from rfl) (Nat.le_of_ble_eq_true rfl) dX10_report_2 ⟨Nat.zero_le _, Nat.zero_le _⟩ ?_
  refine zv_aload_n C 0 dX10_report_5 rfl rfl ?_
  refine zG9_4 C (by decide : kd 0 = _) kX10_40 dX10_report_6 ?_
  refine zv_iconst (v := zI 0) C dX10_report_9 rfl ?_
  refine zP2_1 C (by decide : kd 316 = _) kX10_380 dX10_report_10 ?_
  refine zv_eqS (τ := (oW 316 317 1 (sI σ 316 1 (zI 0)) 0 ([]))) rfl ?_
  refine zv_iconst (v := zI 0) C dX10_report_13 rfl ?_
  refine zv_istore_n (lv' := [(2, .int (zI 0)), (0, .ref (ob E 0)), (1, .int (zI y))]) C dX10_report_14 rfl (by decide) rfl ?_
  have q15_15 : (0 : Int) = (0 : Int) := by first | rfl | omega
  refine zv_sub (lv' := [(0, .ref (ob E 0)), (1, .int (zI y)), (2, .int (zI (0 : Int)))]) [1, 2, 0] (zcons rfl (zcons rfl (zcons (zqI q15_15) rfl))) ?_
  refine zv_eqS (τ := (oW 316 317 1 (sI (qW σ U S 0) 316 1 (zI 0)) 0 (rpL U S y 0))) (rfl) ?_
  refine zv_while (α := Nat) (fun v => U.nb - v) (fun v => v ≤ U.nb) (fun v => (oW 316 317 1 (sI (qW σ U S v) 316 1 (zI 0)) 0 (rpL U S y v))) (fun v => [(0, .ref (ob E 0)), (1, .int (zI y)), (2, .int (zI (v : Int)))]) (fun v => []) (fun j hI ih => ?_) (0) (by omega)
  have hrl := rpL_l hU hS (y := y) (by omega) j hI
  have hUj := zSUp_oW (qW_U (S := S) hU j) (rpL U S y j)
  refine zv_iload_n C 2 dX10_report_15 rfl rfl ?_
  refine zv_aload_n C 0 dX10_report_16 rfl rfl ?_
  refine zG9_1 C (by decide : kd 0 = _) kX10_19 dX10_report_17 ?_
  refine zG4_1 C (by decide : kd 29 = _) kX10_108 dX10_report_20 ?_
  refine zv_eqi (y := zI (U.nb : Int)) (hUj.2.1) ?_
  refine zv_icmp_geZ (tgt := 79) C (by omega) (by omega) dX10_report_23 (by decide) (fun h23 => ?_) (fun h23 => ?_)
  · skip
    refine zv_aload_n C 0 dX10_report_79 rfl rfl ?_
    refine zG9_4 C (by decide : kd 0 = _) kX10_40 dX10_report_80 ?_
    refine zG2_1 C (by decide : kd 316 = _) kX10_380 dX10_report_83 ?_
    refine zv_eqi (y := (zI ((rpL U S y j).length : Int))) (oW_n0 _ _) ?_
    exact zv_iret C hr rfl dX10_report_86 (by rw [show j = U.nb by omega] at hrl ⊢; exact ⟨rfl, zCP_out h (by omega) (qW_f _ _ _ _)⟩)
  · skip
    have hqb := qErr_b hU hS (i := j) (by omega) (y := y) (by omega)
    have hl1 := lB_l (nq U j) 8
    have hl2 := (lNum_l (z := qErr U S j y) (k := 16) (by omega)).1
    have hUk := zSUp_oW (qW_U (S := S) hU j) (rpL U S y j ++ lB (nq U j) 8 ++ [58])
    have hSk := zSTp_oW (qW_S (U := U) hS j) (rpL U S y j ++ lB (nq U j) 8 ++ [58])
    
    refine zv_aload_n C 0 dX10_report_26 rfl rfl ?_
    refine zG9_4 C (by decide : kd 0 = _) kX10_40 dX10_report_27 ?_
    refine zv_aload_n C 0 dX10_report_30 rfl rfl ?_
    refine zG9_1 C (by decide : kd 0 = _) kX10_19 dX10_report_31 ?_
    refine zG4_2 C (by decide : kd 29 = _) kX10_388 dX10_report_34 ?_
    refine zv_iload_n C 2 dX10_report_37 rfl rfl ?_
    refine zv_lald (j := j) C (by decide : kd 30 = _) (zI_ix rfl) (Nat.lt_of_lt_of_eq (show j < 8 by omega) (by decide)) dX10_report_38 ?_
    refine zv_eql (y := (zL (nq U j : Int))) ((hUj.2.2.2.2 j (by omega)).1.trans (nq_e hnq (by omega)).1) ?_
    refine zv_cvvD (st := []) C (c2_X2_putLetters hfl E (oW 316 317 1 (sI (qW σ U S j) 316 1 (zI 0)) 0 (rpL U S y j)) (rpL U S y j).length (nq U j) (oW_n0 _ _) (by first | omega | (simp only [List.length_append, List.length_cons, List.length_nil]; omega)) (nq_e hnq (show j < U.nb by omega)).2) mX2_putLetters kX10_391 (by decide : kd 316 = 2) rfl rfl rfl ⟨rfl, rfl⟩ (show zfit (zrm 1 21) 5 (zrm 6 148) = true from rfl) (Nat.le_of_ble_eq_true rfl) dX10_report_39 ⟨Nat.zero_le _, Nat.zero_le _⟩ ?_
    refine zv_eqS (τ := (oW 316 317 1 (sI (qW σ U S j) 316 1 (zI 0)) 0 (rpL U S y j ++ lB (nq U j) 8))) (oW_cat (sI (qW σ U S j) 316 1 (zI 0)) (rpL U S y j) (lB (nq U j) 8)) ?_
    refine zv_aload_n C 0 dX10_report_42 rfl rfl ?_
    refine zG9_4 C (by decide : kd 0 = _) kX10_40 dX10_report_43 ?_
    refine zv_bipush (v := zI 58) C dX10_report_46 (by decide) ?_
    refine zv_cvvD (st := []) C (c_X2_putByte hfl E (oW 316 317 1 (sI (qW σ U S j) 316 1 (zI 0)) 0 (rpL U S y j ++ lB (nq U j) 8)) (rpL U S y j ++ lB (nq U j) 8).length 58 (oW_n0 _ _) (by first | omega | (simp only [List.length_append, List.length_cons, List.length_nil]; omega)) (by omega)) mX2_putByte kX10_385 (by decide : kd 316 = 2) rfl rfl rfl ⟨rfl, rfl⟩ (show zfit (zrm 0 0) 2 (zrm 6 148) = true from rfl) (Nat.le_of_ble_eq_true rfl) dX10_report_48 ⟨Nat.zero_le _, Nat.zero_le _⟩ ?_
    refine zv_eqS (τ := (oW 316 317 1 (sI (qW σ U S j) 316 1 (zI 0)) 0 (rpL U S y j ++ lB (nq U j) 8 ++ [58]))) (oW_cat (sI (qW σ U S j) 316 1 (zI 0)) (rpL U S y j ++ lB (nq U j) 8) ([58])) ?_
    refine zv_aload_n C 0 dX10_report_51 rfl rfl ?_
    refine zG9_4 C (by decide : kd 0 = _) kX10_40 dX10_report_52 ?_
    refine zv_aload_n C 0 dX10_report_55 rfl rfl ?_
    refine zv_iload_n C 2 dX10_report_56 rfl rfl ?_
    refine zv_iload_n C 1 dX10_report_57 rfl rfl ?_
    refine zv_cvlD (st := [.ref (ob E 316)]) C (c_X10_yearEndError hfl E (oW 316 317 1 (sI (qW σ U S j) 316 1 (zI 0)) 0 (rpL U S y j ++ lB (nq U j) 8 ++ [58])) U S j y hUk hSk (by omega) hy) mX10_yearEndError kX10_218 (by decide : kd 0 = 9) rfl rfl rfl ⟨rfl, rfl⟩ (show zfit (zrm 5 126) 3 (zrm 6 148) = true from rfl) (Nat.le_of_ble_eq_true rfl) dX10_report_58 ⟨Nat.zero_le _, Nat.zero_le _⟩ ?_
    refine zv_eqS (τ := (oW 316 317 1 (sI (qW σ U S (j + 1)) 316 1 (zI 0)) 0 (rpL U S y j ++ lB (nq U j) 8 ++ [58]))) (by rw [oW_rW, qW_s]) ?_
    refine zv_cvvD (st := []) C (c_X2_putNumber hfl E (oW 316 317 1 (sI (qW σ U S (j + 1)) 316 1 (zI 0)) 0 (rpL U S y j ++ lB (nq U j) 8 ++ [58])) (rpL U S y j ++ lB (nq U j) 8 ++ [58]).length (qErr U S j y) (oW_n0 _ _) (by first | omega | (simp only [List.length_append, List.length_cons, List.length_nil]; omega)) (by omega)) mX2_putNumber kX10_381 (by decide : kd 316 = 2) rfl rfl rfl ⟨rfl, rfl⟩ (show zfit (zrm 1 21) 8 (zrm 6 148) = true from rfl) (Nat.le_of_ble_eq_true rfl) dX10_report_61 ⟨Nat.zero_le _, Nat.zero_le _⟩ ?_
    refine zv_eqS (τ := (oW 316 317 1 (sI (qW σ U S (j + 1)) 316 1 (zI 0)) 0 (rpL U S y j ++ lB (nq U j) 8 ++ [58] ++ lNum (qErr U S j y)))) (oW_cat (sI (qW σ U S (j + 1)) 316 1 (zI 0)) (rpL U S y j ++ lB (nq U j) 8 ++ [58]) (lNum (qErr U S j y))) ?_
    refine zv_aload_n C 0 dX10_report_64 rfl rfl ?_
    refine zG9_4 C (by decide : kd 0 = _) kX10_40 dX10_report_65 ?_
    refine zv_bipush (v := zI 10) C dX10_report_68 (by decide) ?_
    refine zv_cvvD (st := []) C (c_X2_putByte hfl E (oW 316 317 1 (sI (qW σ U S (j + 1)) 316 1 (zI 0)) 0 (rpL U S y j ++ lB (nq U j) 8 ++ [58] ++ lNum (qErr U S j y))) (rpL U S y j ++ lB (nq U j) 8 ++ [58] ++ lNum (qErr U S j y)).length 10 (oW_n0 _ _) (by first | omega | (simp only [List.length_append, List.length_cons, List.length_nil]; omega)) (by omega)) mX2_putByte kX10_385 (by decide : kd 316 = 2) rfl rfl rfl ⟨rfl, rfl⟩ (show zfit (zrm 0 0) 2 (zrm 6 148) = true from rfl) (Nat.le_of_ble_eq_true rfl) dX10_report_70 ⟨Nat.zero_le _, Nat.zero_le _⟩ ?_
    refine zv_eqS (τ := (oW 316 317 1 (sI (qW σ U S (j + 1)) 316 1 (zI 0)) 0 (rpL U S y j ++ lB (nq U j) 8 ++ [58] ++ lNum (qErr U S j y) ++ [10]))) (oW_cat (sI (qW σ U S (j + 1)) 316 1 (zI 0)) (rpL U S y j ++ lB (nq U j) 8 ++ [58] ++ lNum (qErr U S j y)) ([10])) ?_
    refine zv_iinc (v := (zI ((j : Int) + 1))) (lv' := [(2, .int (zI ((j : Int) + 1))), (0, .ref (ob E 0)), (1, .int (zI y))]) C 2 dX10_report_73 rfl (zI_add _ _) (by decide) rfl ?_
    refine zv_goto (tgt := 15) C dX10_report_76 (by decide) ?_
    have q15_71 : ((j : Int) + 1 : Int) = ((j + 1 : Nat) : Int) := by first | rfl | omega
    refine zv_sub (lv' := [(0, .ref (ob E 0)), (1, .int (zI y)), (2, .int (zI ((j + 1 : Nat) : Int)))]) [1, 2, 0] (zcons rfl (zcons rfl (zcons (zqI q15_71) rfl))) ?_
    refine zv_eqS (τ := (oW 316 317 1 (sI (qW σ U S (j + 1)) 316 1 (zI 0)) 0 (rpL U S y (j + 1)))) (rfl) ?_
    exact ih (j + 1) (by omega) (by omega)
set_option maxRecDepth 20000 in
theorem x1_X10_report {l : Launch} (hfl : l.stackTraces = false) (E : zE) (σ : zS) (U : zSU) (y : Int) (hU : zSUp σ 29 U) (hyi : -2147483648 ≤ y ∧ y < 2147483648) (hno : ¬ (U.s0 ≤ y ∧ y ≤ U.s0 + 999)) : zRx l E yX10_report cX10_report 3 (some .int) (zrx 9 200) [.ref (ob E 0), .int (zI y)] σ "java/lang/IllegalArgumentException" := by
  refine vx_ofW (cc := cX10_report) (maxL := 3) (ret := (some .int)) (by decide) rfl ?_
  intro p e s m args below meth c s₁ B hml hout hv
  obtain ⟨rfl, hd⟩ := hv
  have C := zX_of (own := RX10) hfl B hml rfl hd rfl
  have hr := B.returns
  refine zV_go hd (Nat.le_of_ble_eq_true rfl) (lv := [(0, .ref (ob E 0)), (1, .int (zI y))]) rfl ?_
  have hnb : U.nb ≤ 8 := hU.2.2.1
  have hs0 := hU.2.2.2.1
  
  refine zv_aload_n C 0 dX10_report_0 rfl rfl ?_
  refine zv_iload_n C 1 dX10_report_1 rfl rfl ?_
  exact zv_xcv (st := []) C (x_X10_needYear hfl E σ U y hU hyi hno) hout mX10_needYear kX10_192 (by decide : kd 0 = 9) rfl rfl rfl ⟨rfl, rfl⟩ (show zfit (zrx 8 170) 2 (zrx 9 200) = true from rfl) (Nat.le_of_ble_eq_true rfl) dX10_report_2
set_option maxRecDepth 20000 in
theorem c_X10_putPart {l : Launch} (hfl : l.stackTraces = false) (E : zE) (σ : zS) (S : zST) (i j : Nat) (L : List Nat) (hS : zSTp σ 34 S) (hi8 : i < 8) (hj : j < S.tn i) (hL : L.length + 60 ≤ 1024) : zRv l E yX10_putPart cX10_putPart 3 (zrm 2 48) [.ref (ob E 0), .ref (ob E (34 + 4 + 2 * i)), .int (zI (j : Int))] (oW 316 317 1 (sI σ 316 1 (zI 0)) 0 (L)) (fun τ => τ = (oW 316 317 1 (sI σ 316 1 (zI 0)) 0 (L ++ ppL S i j))) := by
  refine Met.ofW (cc := cX10_putPart) (maxL := 3) (ret := none) (by decide +kernel) rfl ?_
  intro p e s m args below meth c s₁ B hml hv
  obtain ⟨rfl, hd⟩ := hv
  have C := zX_of (own := RX10) hfl B hml rfl hd rfl
  have hr := B.returns
  refine zV_go hd (Nat.le_of_ble_eq_true rfl) (lv := [(0, .ref (ob E 0)), (1, .ref (ob E (34 + 4 + 2 * i))), (2, .int (zI (j : Int)))]) rfl ?_
  have hki := kd_KI i hi8
  have hT := (hS.2.2.2.2.2.2 i hi8).1
  have ht4 := hT.2.1
  have hTo : ∀ M, zTr (oW 316 317 1 (sI σ 316 1 (zI 0)) 0 (M)) (34 + 4 + 2 * i) (S.tn i) (S.tr i) := fun M => ((zSTp_oW hS M).2.2.2.2.2.2 i hi8).1
  have a1 := hT.2.2.2 j 1 hj (by omega)
  have a2 := hT.2.2.2 j 2 hj (by omega)
  have hl1 := (lNum_l (z := (S.tr i j 1 : Int)) (k := 2) (by omega)).2 (by omega)
  have hl2 := (lNum_l (z := (S.tr i j 2 : Int)) (k := 2) (by omega)).2 (by omega)
  have a0 := hT.2.2.2 j 0 hj (by omega)
  
  refine zv_aload_n C 0 dX10_putPart_0 rfl rfl ?_
  refine zG9_4 C (by decide : kd 0 = _) kX10_40 dX10_putPart_1 ?_
  refine zv_aload_n C 1 dX10_putPart_4 rfl rfl ?_
  refine zv_iload_n C 2 dX10_putPart_5 rfl rfl ?_
  refine zv_iconst (v := zI 1) C dX10_putPart_6 rfl ?_
  refine zv_cviD (st := [.ref (ob E 316)]) C (c_X8_cell hfl E (oW 316 317 1 (sI σ 316 1 (zI 0)) 0 (L)) (34 + 4 + 2 * i) j 1 hki (by omega) (by omega)) mX8_cell kX10_172 hki rfl rfl rfl ⟨rfl, rfl⟩ (show zfit (zrm 0 0) 4 (zrm 2 48) = true from rfl) (Nat.le_of_ble_eq_true rfl) dX10_putPart_7 ⟨Nat.zero_le _, Nat.zero_le _⟩ ?_
  refine zv_eqi (y := (zI (S.tr i j 1 : Int))) ((hTo _).2.2.1 j 1 hj (by omega)) ?_
  refine zv_i2lZ C (by omega) dX10_putPart_10 ?_
  refine zv_cvvD (st := []) C (c_X2_putNumber hfl E (oW 316 317 1 (sI σ 316 1 (zI 0)) 0 (L)) (L).length ((S.tr i j 1 : Int)) (oW_n0 _ _) (by first | omega | (simp only [List.length_append, List.length_cons, List.length_nil]; omega)) (by omega)) mX2_putNumber kX10_381 (by decide : kd 316 = 2) rfl rfl rfl ⟨rfl, rfl⟩ (show zfit (zrm 1 21) 8 (zrm 2 48) = true from rfl) (Nat.le_of_ble_eq_true rfl) dX10_putPart_11 ⟨Nat.zero_le _, Nat.zero_le _⟩ ?_
  refine zv_eqS (τ := (oW 316 317 1 (sI σ 316 1 (zI 0)) 0 (L ++ lNum ((S.tr i j 1 : Int))))) (oW_cat (sI σ 316 1 (zI 0)) (L) (lNum ((S.tr i j 1 : Int)))) ?_
  refine zv_aload_n C 1 dX10_putPart_14 rfl rfl ?_
  refine zv_iload_n C 2 dX10_putPart_15 rfl rfl ?_
  refine zv_cviD (st := []) C (c_X8_isGeared hfl E (oW 316 317 1 (sI σ 316 1 (zI 0)) 0 (L ++ lNum ((S.tr i j 1 : Int)))) (34 + 4 + 2 * i) (S.tn i) (S.tr i) j hki (hTo _) hj) mX8_isGeared kX10_293 hki rfl rfl rfl ⟨rfl, rfl⟩ (show zfit (zrm 1 23) 2 (zrm 2 48) = true from rfl) (Nat.le_of_ble_eq_true rfl) dX10_putPart_16 ⟨Nat.zero_le _, Nat.zero_le _⟩ ?_
  refine zv_if_neB (tgt := 32) C dX10_putPart_19 (by decide) (fun h19 => ?_) (fun h19 => ?_)
  · skip
    refine zv_aload_n C 0 dX10_putPart_32 rfl rfl ?_
    refine zG9_4 C (by decide : kd 0 = _) kX10_40 dX10_putPart_33 ?_
    refine zv_aload_n C 1 dX10_putPart_36 rfl rfl ?_
    refine zv_iload_n C 2 dX10_putPart_37 rfl rfl ?_
    refine zv_iconst (v := zI 0) C dX10_putPart_38 rfl ?_
    refine zv_cviD (st := [.ref (ob E 316)]) C (c_X8_cell hfl E (oW 316 317 1 (sI σ 316 1 (zI 0)) 0 (L ++ lNum ((S.tr i j 1 : Int)))) (34 + 4 + 2 * i) j 0 hki (by omega) (by omega)) mX8_cell kX10_172 hki rfl rfl rfl ⟨rfl, rfl⟩ (show zfit (zrm 0 0) 4 (zrm 2 48) = true from rfl) (Nat.le_of_ble_eq_true rfl) dX10_putPart_39 ⟨Nat.zero_le _, Nat.zero_le _⟩ ?_
    refine zv_eqi (y := (zI (S.tr i j 0 : Int))) ((hTo _).2.2.1 j 0 hj (by omega)) ?_
    refine zv_iconst (v := zI 1) C dX10_putPart_42 rfl ?_
    refine zv_icmp_neZ (tgt := 51) C (by omega) (by omega) dX10_putPart_43 (by decide) (fun h43 => ?_) (fun h43 => ?_)
    · skip
      refine zv_bipush (v := zI 47) C dX10_putPart_51 (by decide) ?_
      refine zv_cvvD (st := []) C (c_X2_putByte hfl E (oW 316 317 1 (sI σ 316 1 (zI 0)) 0 (L ++ lNum ((S.tr i j 1 : Int)))) (L ++ lNum ((S.tr i j 1 : Int))).length 47 (oW_n0 _ _) (by first | omega | (simp only [List.length_append, List.length_cons, List.length_nil]; omega)) (by omega)) mX2_putByte kX10_385 (by decide : kd 316 = 2) rfl rfl rfl ⟨rfl, rfl⟩ (show zfit (zrm 0 0) 2 (zrm 2 48) = true from rfl) (Nat.le_of_ble_eq_true rfl) dX10_putPart_53 ⟨Nat.zero_le _, Nat.zero_le _⟩ ?_
      refine zv_eqS (τ := (oW 316 317 1 (sI σ 316 1 (zI 0)) 0 (L ++ lNum ((S.tr i j 1 : Int)) ++ [47]))) (oW_cat (sI σ 316 1 (zI 0)) (L ++ lNum ((S.tr i j 1 : Int))) ([47])) ?_
      refine zv_aload_n C 0 dX10_putPart_56 rfl rfl ?_
      refine zG9_4 C (by decide : kd 0 = _) kX10_40 dX10_putPart_57 ?_
      refine zv_aload_n C 1 dX10_putPart_60 rfl rfl ?_
      refine zv_iload_n C 2 dX10_putPart_61 rfl rfl ?_
      refine zv_iconst (v := zI 2) C dX10_putPart_62 rfl ?_
      refine zv_cviD (st := [.ref (ob E 316)]) C (c_X8_cell hfl E (oW 316 317 1 (sI σ 316 1 (zI 0)) 0 (L ++ lNum ((S.tr i j 1 : Int)) ++ [47])) (34 + 4 + 2 * i) j 2 hki (by omega) (by omega)) mX8_cell kX10_172 hki rfl rfl rfl ⟨rfl, rfl⟩ (show zfit (zrm 0 0) 4 (zrm 2 48) = true from rfl) (Nat.le_of_ble_eq_true rfl) dX10_putPart_63 ⟨Nat.zero_le _, Nat.zero_le _⟩ ?_
      refine zv_eqi (y := (zI (S.tr i j 2 : Int))) ((hTo _).2.2.1 j 2 hj (by omega)) ?_
      refine zv_i2lZ C (by omega) dX10_putPart_66 ?_
      refine zv_cvvD (st := []) C (c_X2_putNumber hfl E (oW 316 317 1 (sI σ 316 1 (zI 0)) 0 (L ++ lNum ((S.tr i j 1 : Int)) ++ [47])) (L ++ lNum ((S.tr i j 1 : Int)) ++ [47]).length ((S.tr i j 2 : Int)) (oW_n0 _ _) (by first | omega | (simp only [List.length_append, List.length_cons, List.length_nil]; omega)) (by omega)) mX2_putNumber kX10_381 (by decide : kd 316 = 2) rfl rfl rfl ⟨rfl, rfl⟩ (show zfit (zrm 1 21) 8 (zrm 2 48) = true from rfl) (Nat.le_of_ble_eq_true rfl) dX10_putPart_67 ⟨Nat.zero_le _, Nat.zero_le _⟩ ?_
      refine zv_eqS (τ := (oW 316 317 1 (sI σ 316 1 (zI 0)) 0 (L ++ lNum ((S.tr i j 1 : Int)) ++ [47] ++ lNum ((S.tr i j 2 : Int))))) (oW_cat (sI σ 316 1 (zI 0)) (L ++ lNum ((S.tr i j 1 : Int)) ++ [47]) (lNum ((S.tr i j 2 : Int)))) ?_
      exact zv_vret C hr dX10_putPart_70 (by rw [ppL, if_neg h19, if_neg (by omega)]; simp only [List.append_assoc])
    · skip
      refine zv_bipush (v := zI 111) C dX10_putPart_46 (by decide) ?_
      refine zv_goto (tgt := 53) C dX10_putPart_48 (by decide) ?_
      refine zv_cvvD (st := []) C (c_X2_putByte hfl E (oW 316 317 1 (sI σ 316 1 (zI 0)) 0 (L ++ lNum ((S.tr i j 1 : Int)))) (L ++ lNum ((S.tr i j 1 : Int))).length 111 (oW_n0 _ _) (by first | omega | (simp only [List.length_append, List.length_cons, List.length_nil]; omega)) (by omega)) mX2_putByte kX10_385 (by decide : kd 316 = 2) rfl rfl rfl ⟨rfl, rfl⟩ (show zfit (zrm 0 0) 2 (zrm 2 48) = true from rfl) (Nat.le_of_ble_eq_true rfl) dX10_putPart_53 ⟨Nat.zero_le _, Nat.zero_le _⟩ ?_
      refine zv_eqS (τ := (oW 316 317 1 (sI σ 316 1 (zI 0)) 0 (L ++ lNum ((S.tr i j 1 : Int)) ++ [111]))) (oW_cat (sI σ 316 1 (zI 0)) (L ++ lNum ((S.tr i j 1 : Int))) ([111])) ?_
      refine zv_aload_n C 0 dX10_putPart_56 rfl rfl ?_
      refine zG9_4 C (by decide : kd 0 = _) kX10_40 dX10_putPart_57 ?_
      refine zv_aload_n C 1 dX10_putPart_60 rfl rfl ?_
      refine zv_iload_n C 2 dX10_putPart_61 rfl rfl ?_
      refine zv_iconst (v := zI 2) C dX10_putPart_62 rfl ?_
      refine zv_cviD (st := [.ref (ob E 316)]) C (c_X8_cell hfl E (oW 316 317 1 (sI σ 316 1 (zI 0)) 0 (L ++ lNum ((S.tr i j 1 : Int)) ++ [111])) (34 + 4 + 2 * i) j 2 hki (by omega) (by omega)) mX8_cell kX10_172 hki rfl rfl rfl ⟨rfl, rfl⟩ (show zfit (zrm 0 0) 4 (zrm 2 48) = true from rfl) (Nat.le_of_ble_eq_true rfl) dX10_putPart_63 ⟨Nat.zero_le _, Nat.zero_le _⟩ ?_
      refine zv_eqi (y := (zI (S.tr i j 2 : Int))) ((hTo _).2.2.1 j 2 hj (by omega)) ?_
      refine zv_i2lZ C (by omega) dX10_putPart_66 ?_
      refine zv_cvvD (st := []) C (c_X2_putNumber hfl E (oW 316 317 1 (sI σ 316 1 (zI 0)) 0 (L ++ lNum ((S.tr i j 1 : Int)) ++ [111])) (L ++ lNum ((S.tr i j 1 : Int)) ++ [111]).length ((S.tr i j 2 : Int)) (oW_n0 _ _) (by first | omega | (simp only [List.length_append, List.length_cons, List.length_nil]; omega)) (by omega)) mX2_putNumber kX10_381 (by decide : kd 316 = 2) rfl rfl rfl ⟨rfl, rfl⟩ (show zfit (zrm 1 21) 8 (zrm 2 48) = true from rfl) (Nat.le_of_ble_eq_true rfl) dX10_putPart_67 ⟨Nat.zero_le _, Nat.zero_le _⟩ ?_
      refine zv_eqS (τ := (oW 316 317 1 (sI σ 316 1 (zI 0)) 0 (L ++ lNum ((S.tr i j 1 : Int)) ++ [111] ++ lNum ((S.tr i j 2 : Int))))) (oW_cat (sI σ 316 1 (zI 0)) (L ++ lNum ((S.tr i j 1 : Int)) ++ [111]) (lNum ((S.tr i j 2 : Int)))) ?_
      exact zv_vret C hr dX10_putPart_70 (by rw [ppL, if_neg h19, if_pos (by omega)]; simp only [List.append_assoc])
  · skip
    refine zv_aload_n C 0 dX10_putPart_22 rfl rfl ?_
    refine zG9_4 C (by decide : kd 0 = _) kX10_40 dX10_putPart_23 ?_
    refine zv_bipush (v := zI 105) C dX10_putPart_26 (by decide) ?_
    refine zv_cvvD (st := []) C (c_X2_putByte hfl E (oW 316 317 1 (sI σ 316 1 (zI 0)) 0 (L ++ lNum ((S.tr i j 1 : Int)))) (L ++ lNum ((S.tr i j 1 : Int))).length 105 (oW_n0 _ _) (by first | omega | (simp only [List.length_append, List.length_cons, List.length_nil]; omega)) (by omega)) mX2_putByte kX10_385 (by decide : kd 316 = 2) rfl rfl rfl ⟨rfl, rfl⟩ (show zfit (zrm 0 0) 2 (zrm 2 48) = true from rfl) (Nat.le_of_ble_eq_true rfl) dX10_putPart_28 ⟨Nat.zero_le _, Nat.zero_le _⟩ ?_
    refine zv_eqS (τ := (oW 316 317 1 (sI σ 316 1 (zI 0)) 0 (L ++ lNum ((S.tr i j 1 : Int)) ++ [105]))) (oW_cat (sI σ 316 1 (zI 0)) (L ++ lNum ((S.tr i j 1 : Int))) ([105])) ?_
    exact zv_vret C hr dX10_putPart_31 (by rw [ppL, if_pos (Decidable.not_not.mp h19), List.append_assoc])
def ptF (U : zSU) (S : zST) (i : Nat) : List Nat := ptL S i (S.tn i) ++ [61] ++ lNum (qPtr U S i).1 ++ [58] ++ lNum (qPtr U S i).2
set_option maxRecDepth 20000 in
theorem c_X10_printTrain {l : Launch} (hfl : l.stackTraces = false) (E : zE) (σ : zS) (ni : Nat) (tx : Nat → Int) (ec : Nat) (eo : Int) (U : zSU) (S : zST) (hh : List zST) (kp : Option zST) (ou : List Nat) (i : Nat) (h : zCP σ (zDv.mk ni tx ec eo U S hh kp ou)) (hi : i < U.nb) : zRi l E yX10_printTrain cX10_printTrain 4 .int (zrm 4 105) [.ref (ob E 0), .int (zI (i : Int))] σ (fun r τ => r = zI ((ptF U S i).length : Int) ∧ zCP τ ((zDv.mk ni tx ec eo U S hh kp ou).sO (ptF U S i)) ∧ zFr 0 327 σ τ) := by
  refine Met.ofW (cc := cX10_printTrain) (maxL := 4) (ret := (some .int)) (by decide +kernel) rfl ?_
  intro p e s m args below meth c s₁ B hml hv
  obtain ⟨rfl, hd⟩ := hv
  have C := zX_of (own := RX10) hfl B hml rfl hd rfl
  have hr := B.returns
  refine zV_go hd (Nat.le_of_ble_eq_true rfl) (lv := [(0, .ref (ob E 0)), (1, .int (zI (i : Int)))]) rfl ?_
  have hU : zSUp σ 29 U := h.2.2.1
  have hS : zSTp σ 34 S := h.2.2.2.1.1
  have hnb : U.nb ≤ 8 := hU.2.2.1
  have hs0 := hU.2.2.2.1
  have hi8 : i < 8 := by omega
  have hki : kd (34 + 4 + 2 * i) = 8 := ((zst (show kd 34 = 6 by decide)).2.2.2 i hi8).1
  have hT := (hS.2.2.2.2.2.2 i hi8).1
  have hTw := (hS.2.2.2.2.2.2 i hi8).2
  have ht4 := hT.2.1
  have hq := qPtr_b hU hS hi
  have hn1 := (lNum_l (z := (qPtr U S i).1) (k := 8) (by omega)).1
  have hn2 := (lNum_l (z := (qPtr U S i).2) (k := 8) (by omega)).1
  refine zv_aload_n C 0 dX10_printTrain_0 rfl rfl ?_
  refine zv_iload_n C 1 dX10_printTrain_1 rfl rfl ?_
  refine zv_cvvD (st := []) C (c_X10_needBody hfl E σ U (i : Int) hU (by omega) (by omega)) mX10_needBody kX10_140 (by decide : kd 0 = 9) rfl rfl rfl ⟨rfl, rfl⟩ (show zfit (zrm 0 0) 2 (zrm 4 105) = true from rfl) (Nat.le_of_ble_eq_true rfl) dX10_printTrain_2 ⟨Nat.zero_le _, Nat.zero_le _⟩ ?_
  refine zv_aload_n C 0 dX10_printTrain_5 rfl rfl ?_
  refine zG9_2 C (by decide : kd 0 = _) kX10_26 dX10_printTrain_6 ?_
  refine zG6_5 C (by decide : kd 34 = _) kX10_154 dX10_printTrain_9 ?_
  refine zv_iload_n C 1 dX10_printTrain_12 rfl rfl ?_
  refine zv_tald (j := i) C (by decide : kd 37 = _) (zI_ix (by omega)) (Nat.lt_of_lt_of_eq (show i < 8 by omega) (by decide)) dX10_printTrain_13 ?_
  refine zv_astore_n (lv' := [(2, .ref (ob E (34 + 4 + 2 * i))), (0, .ref (ob E 0)), (1, .int (zI (i : Int)))]) C dX10_printTrain_14 rfl (by decide) rfl ?_
  refine zv_aload_n C 1 dX10_printTrain_15 rfl rfl ?_
  refine zG9_4 C (by decide : kd 0 = _) kX10_40 dX10_printTrain_16 ?_
  refine zv_iconst (v := zI 0) C dX10_printTrain_19 rfl ?_
  refine zP2_1 C (by decide : kd 316 = _) kX10_380 dX10_printTrain_20 ?_
  refine zv_eqS (τ := (oW 316 317 1 (sI σ 316 1 (zI 0)) 0 ([]))) rfl ?_
  refine zv_iconst (v := zI 0) C dX10_printTrain_23 rfl ?_
  refine zv_istore_n (lv' := [(3, .int (zI 0)), (2, .ref (ob E (34 + 4 + 2 * i))), (0, .ref (ob E 0)), (1, .int (zI (i : Int)))]) C dX10_printTrain_24 rfl (by decide) rfl ?_
  have q25_28 : (0 : Int) = (0 : Int) := by first | rfl | omega
  refine zv_sub (lv' := [(0, .ref (ob E 0)), (1, .int (zI (i : Int))), (2, .ref (ob E (34 + 4 + 2 * i))), (3, .int (zI (0 : Int)))]) [2, 3, 1, 0] (zcons rfl (zcons rfl (zcons rfl (zcons (zqI q25_28) rfl)))) ?_
  refine zv_eqS (τ := (oW 316 317 1 (sI σ 316 1 (zI 0)) 0 (ptL S i 0))) (rfl) ?_
  refine zv_while (α := Nat) (fun v => S.tn i - v) (fun v => v ≤ S.tn i) (fun v => (oW 316 317 1 (sI σ 316 1 (zI 0)) 0 (ptL S i v))) (fun v => [(0, .ref (ob E 0)), (1, .int (zI (i : Int))), (2, .ref (ob E (34 + 4 + 2 * i))), (3, .int (zI (v : Int)))]) (fun v => []) (fun j hI ih => ?_) (0) (by omega)
  have hpl := ptL_l hS hi8 j hI
  have hTj := ((zSTp_oW hS (ptL S i j)).2.2.2.2.2.2 i hi8).1
  refine zv_iload_n C 3 dX10_printTrain_25 rfl rfl ?_
  refine zv_aload_n C 2 dX10_printTrain_26 rfl rfl ?_
  refine zG8_1 C hki kX10_158 dX10_printTrain_27 ?_
  refine zv_eqi (y := zI (S.tn i : Int)) (hTj.1) ?_
  refine zv_icmp_geZ (tgt := 58) C (by omega) (by omega) dX10_printTrain_30 (by decide) (fun h30 => ?_) (fun h30 => ?_)
  · skip
    
    refine zv_aload_n C 0 dX10_printTrain_58 rfl rfl ?_
    refine zv_iload_n C 1 dX10_printTrain_59 rfl rfl ?_
    refine zv_aload_n C 0 dX10_printTrain_60 rfl rfl ?_
    refine zG9_6 C (by decide : kd 0 = _) kX10_54 dX10_printTrain_61 ?_
    refine zv_cvrD (st := []) C (c_X10_pointerOf hfl E (oW 316 317 1 (sI σ 316 1 (zI 0)) 0 (ptL S i j)) U S i 320 (zSUp_oW hU _) (zSTp_oW hS _) hi (by decide)) mX10_pointerOf kX10_181 (by decide : kd 0 = 9) rfl rfl rfl ⟨rfl, rfl⟩ (show zfit (zrm 3 80) 6 (zrm 4 105) = true from rfl) (Nat.le_of_ble_eq_true rfl) dX10_printTrain_64 ⟨Nat.zero_le _, Nat.zero_le _⟩ ?_
    refine zv_eqS (τ := (oW 316 317 1 (sI (rW σ 320 (qPtr U S i).1 (qPtr U S i).2) 316 1 (zI 0)) 0 (ptL S i j))) (oW_rW _ _ _ _ _) ?_
    refine zv_astore_n (lv' := [(3, .ref (ob E 320)), (0, .ref (ob E 0)), (1, .int (zI (i : Int))), (2, .ref (ob E (34 + 4 + 2 * i)))]) C dX10_printTrain_67 rfl (by decide) rfl ?_
    refine zv_aload_n C 1 dX10_printTrain_68 rfl rfl ?_
    refine zG9_4 C (by decide : kd 0 = _) kX10_40 dX10_printTrain_69 ?_
    refine zv_bipush (v := zI 61) C dX10_printTrain_72 (by decide) ?_
    refine zv_cvvD (st := []) C (c_X2_putByte hfl E (oW 316 317 1 (sI (rW σ 320 (qPtr U S i).1 (qPtr U S i).2) 316 1 (zI 0)) 0 (ptL S i j)) (ptL S i j).length 61 (oW_n0 _ _) (by first | omega | (simp only [List.length_append, List.length_cons, List.length_nil]; omega)) (by omega)) mX2_putByte kX10_385 (by decide : kd 316 = 2) rfl rfl rfl ⟨rfl, rfl⟩ (show zfit (zrm 0 0) 2 (zrm 4 105) = true from rfl) (Nat.le_of_ble_eq_true rfl) dX10_printTrain_74 ⟨Nat.zero_le _, Nat.zero_le _⟩ ?_
    refine zv_eqS (τ := (oW 316 317 1 (sI (rW σ 320 (qPtr U S i).1 (qPtr U S i).2) 316 1 (zI 0)) 0 (ptL S i j ++ [61]))) (oW_cat (sI (rW σ 320 (qPtr U S i).1 (qPtr U S i).2) 316 1 (zI 0)) (ptL S i j) ([61])) ?_
    refine zv_aload_n C 1 dX10_printTrain_77 rfl rfl ?_
    refine zG9_4 C (by decide : kd 0 = _) kX10_40 dX10_printTrain_78 ?_
    refine zv_aload_n C 0 dX10_printTrain_81 rfl rfl ?_
    refine zG3_0 C (by decide : kd 320 = _) kX10_185 dX10_printTrain_82 ?_
    refine zv_eql (y := (zL ((qPtr U S i).1))) ((by have hz := rW_R σ 320 (qPtr U S i).1 (qPtr U S i).2; unfold gJ; rw [oW_2]; exact hz.1)) ?_
    refine zv_cvvD (st := []) C (c_X2_putNumber hfl E (oW 316 317 1 (sI (rW σ 320 (qPtr U S i).1 (qPtr U S i).2) 316 1 (zI 0)) 0 (ptL S i j ++ [61])) (ptL S i j ++ [61]).length ((qPtr U S i).1) (oW_n0 _ _) (by first | omega | (simp only [List.length_append, List.length_cons, List.length_nil]; omega)) (by omega)) mX2_putNumber kX10_381 (by decide : kd 316 = 2) rfl rfl rfl ⟨rfl, rfl⟩ (show zfit (zrm 1 21) 8 (zrm 4 105) = true from rfl) (Nat.le_of_ble_eq_true rfl) dX10_printTrain_85 ⟨Nat.zero_le _, Nat.zero_le _⟩ ?_
    refine zv_eqS (τ := (oW 316 317 1 (sI (rW σ 320 (qPtr U S i).1 (qPtr U S i).2) 316 1 (zI 0)) 0 (ptL S i j ++ [61] ++ lNum ((qPtr U S i).1)))) (oW_cat (sI (rW σ 320 (qPtr U S i).1 (qPtr U S i).2) 316 1 (zI 0)) (ptL S i j ++ [61]) (lNum ((qPtr U S i).1))) ?_
    refine zv_aload_n C 1 dX10_printTrain_88 rfl rfl ?_
    refine zG9_4 C (by decide : kd 0 = _) kX10_40 dX10_printTrain_89 ?_
    refine zv_bipush (v := zI 58) C dX10_printTrain_92 (by decide) ?_
    refine zv_cvvD (st := []) C (c_X2_putByte hfl E (oW 316 317 1 (sI (rW σ 320 (qPtr U S i).1 (qPtr U S i).2) 316 1 (zI 0)) 0 (ptL S i j ++ [61] ++ lNum ((qPtr U S i).1))) (ptL S i j ++ [61] ++ lNum ((qPtr U S i).1)).length 58 (oW_n0 _ _) (by first | omega | (simp only [List.length_append, List.length_cons, List.length_nil]; omega)) (by omega)) mX2_putByte kX10_385 (by decide : kd 316 = 2) rfl rfl rfl ⟨rfl, rfl⟩ (show zfit (zrm 0 0) 2 (zrm 4 105) = true from rfl) (Nat.le_of_ble_eq_true rfl) dX10_printTrain_94 ⟨Nat.zero_le _, Nat.zero_le _⟩ ?_
    refine zv_eqS (τ := (oW 316 317 1 (sI (rW σ 320 (qPtr U S i).1 (qPtr U S i).2) 316 1 (zI 0)) 0 (ptL S i j ++ [61] ++ lNum ((qPtr U S i).1) ++ [58]))) (oW_cat (sI (rW σ 320 (qPtr U S i).1 (qPtr U S i).2) 316 1 (zI 0)) (ptL S i j ++ [61] ++ lNum ((qPtr U S i).1)) ([58])) ?_
    refine zv_aload_n C 1 dX10_printTrain_97 rfl rfl ?_
    refine zG9_4 C (by decide : kd 0 = _) kX10_40 dX10_printTrain_98 ?_
    refine zv_aload_n C 0 dX10_printTrain_101 rfl rfl ?_
    refine zG3_1 C (by decide : kd 320 = _) kX10_189 dX10_printTrain_102 ?_
    refine zv_eql (y := (zL ((qPtr U S i).2))) ((by have hz := rW_R σ 320 (qPtr U S i).1 (qPtr U S i).2; unfold gJ; rw [oW_2]; exact hz.2)) ?_
    refine zv_cvvD (st := []) C (c_X2_putNumber hfl E (oW 316 317 1 (sI (rW σ 320 (qPtr U S i).1 (qPtr U S i).2) 316 1 (zI 0)) 0 (ptL S i j ++ [61] ++ lNum ((qPtr U S i).1) ++ [58])) (ptL S i j ++ [61] ++ lNum ((qPtr U S i).1) ++ [58]).length ((qPtr U S i).2) (oW_n0 _ _) (by first | omega | (simp only [List.length_append, List.length_cons, List.length_nil]; omega)) (by omega)) mX2_putNumber kX10_381 (by decide : kd 316 = 2) rfl rfl rfl ⟨rfl, rfl⟩ (show zfit (zrm 1 21) 8 (zrm 4 105) = true from rfl) (Nat.le_of_ble_eq_true rfl) dX10_printTrain_105 ⟨Nat.zero_le _, Nat.zero_le _⟩ ?_
    refine zv_eqS (τ := (oW 316 317 1 (sI (rW σ 320 (qPtr U S i).1 (qPtr U S i).2) 316 1 (zI 0)) 0 (ptL S i j ++ [61] ++ lNum ((qPtr U S i).1) ++ [58] ++ lNum ((qPtr U S i).2)))) (oW_cat (sI (rW σ 320 (qPtr U S i).1 (qPtr U S i).2) 316 1 (zI 0)) (ptL S i j ++ [61] ++ lNum ((qPtr U S i).1) ++ [58]) (lNum ((qPtr U S i).2))) ?_
    refine zv_aload_n C 1 dX10_printTrain_108 rfl rfl ?_
    refine zG9_4 C (by decide : kd 0 = _) kX10_40 dX10_printTrain_109 ?_
    refine zG2_1 C (by decide : kd 316 = _) kX10_380 dX10_printTrain_112 ?_
    refine zv_eqi (y := (zI ((ptL S i j ++ [61] ++ lNum (qPtr U S i).1 ++ [58] ++ lNum (qPtr U S i).2).length : Int))) (oW_n0 _ _) ?_
    exact zv_iret C hr rfl dX10_printTrain_115 (by rw [show j = S.tn i by omega] at hpl ⊢; exact ⟨rfl, zCP_out h (L := ptF U S i) (by unfold ptF; simp only [List.length_append, List.length_cons, List.length_nil]; omega) (zFr_rW (zFr_refl _ _ _) (by omega))⟩)
  · skip
    have hpp := ppL_l hS hi8 (show j < S.tn i by omega)
    
    refine zv_iload_n C 3 dX10_printTrain_33 rfl rfl ?_
    refine zv_if_leZ (tgt := 46) C (by omega) dX10_printTrain_34 (by decide) (fun h34 => ?_) (fun h34 => ?_)
    · skip
      
      refine zv_aload_n C 0 dX10_printTrain_46 rfl rfl ?_
      refine zv_aload_n C 2 dX10_printTrain_47 rfl rfl ?_
      refine zv_iload_n C 3 dX10_printTrain_48 rfl rfl ?_
      refine zv_cvvD (st := []) C (c_X10_putPart hfl E σ S i j (ptL S i j) hS hi8 (by omega) (by first | omega | (simp only [List.length_append, List.length_cons, List.length_nil]; omega))) mX10_putPart kX10_394 (by decide : kd 0 = 9) rfl rfl rfl ⟨rfl, rfl⟩ (show zfit (zrm 2 48) 3 (zrm 4 105) = true from rfl) (Nat.le_of_ble_eq_true rfl) dX10_printTrain_49 ⟨Nat.zero_le _, Nat.zero_le _⟩ ?_
      refine zv_iinc (v := (zI ((j : Int) + 1))) (lv' := [(3, .int (zI ((j : Int) + 1))), (0, .ref (ob E 0)), (1, .int (zI (i : Int))), (2, .ref (ob E (34 + 4 + 2 * i)))]) C 3 dX10_printTrain_52 rfl (zI_add _ _) (by decide) rfl ?_
      refine zv_goto (tgt := 25) C dX10_printTrain_55 (by decide) ?_
      have q25_90 : ((j : Int) + 1 : Int) = ((j + 1 : Nat) : Int) := by first | rfl | omega
      refine zv_sub (lv' := [(0, .ref (ob E 0)), (1, .int (zI (i : Int))), (2, .ref (ob E (34 + 4 + 2 * i))), (3, .int (zI ((j + 1 : Nat) : Int)))]) [1, 2, 3, 0] (zcons rfl (zcons rfl (zcons rfl (zcons (zqI q25_90) rfl)))) ?_
      refine zv_eqS (τ := (oW 316 317 1 (sI σ 316 1 (zI 0)) 0 (ptL S i (j + 1)))) (by rw [ptL]; first | rw [if_pos (by omega)] | rw [if_neg (by omega), List.append_nil]) ?_
      exact ih (j + 1) (by omega) (by omega)
    · skip
      refine zv_aload_n C 0 dX10_printTrain_37 rfl rfl ?_
      refine zG9_4 C (by decide : kd 0 = _) kX10_40 dX10_printTrain_38 ?_
      refine zv_bipush (v := zI 42) C dX10_printTrain_41 (by decide) ?_
      refine zv_cvvD (st := []) C (c_X2_putByte hfl E (oW 316 317 1 (sI σ 316 1 (zI 0)) 0 (ptL S i j)) (ptL S i j).length 42 (oW_n0 _ _) (by first | omega | (simp only [List.length_append, List.length_cons, List.length_nil]; omega)) (by omega)) mX2_putByte kX10_385 (by decide : kd 316 = 2) rfl rfl rfl ⟨rfl, rfl⟩ (show zfit (zrm 0 0) 2 (zrm 4 105) = true from rfl) (Nat.le_of_ble_eq_true rfl) dX10_printTrain_43 ⟨Nat.zero_le _, Nat.zero_le _⟩ ?_
      refine zv_eqS (τ := (oW 316 317 1 (sI σ 316 1 (zI 0)) 0 (ptL S i j ++ [42]))) (oW_cat (sI σ 316 1 (zI 0)) (ptL S i j) ([42])) ?_
      refine zv_aload_n C 0 dX10_printTrain_46 rfl rfl ?_
      refine zv_aload_n C 2 dX10_printTrain_47 rfl rfl ?_
      refine zv_iload_n C 3 dX10_printTrain_48 rfl rfl ?_
      refine zv_cvvD (st := []) C (c_X10_putPart hfl E σ S i j (ptL S i j ++ [42]) hS hi8 (by omega) (by first | omega | (simp only [List.length_append, List.length_cons, List.length_nil]; omega))) mX10_putPart kX10_394 (by decide : kd 0 = 9) rfl rfl rfl ⟨rfl, rfl⟩ (show zfit (zrm 2 48) 3 (zrm 4 105) = true from rfl) (Nat.le_of_ble_eq_true rfl) dX10_printTrain_49 ⟨Nat.zero_le _, Nat.zero_le _⟩ ?_
      refine zv_iinc (v := (zI ((j : Int) + 1))) (lv' := [(3, .int (zI ((j : Int) + 1))), (0, .ref (ob E 0)), (1, .int (zI (i : Int))), (2, .ref (ob E (34 + 4 + 2 * i)))]) C 3 dX10_printTrain_52 rfl (zI_add _ _) (by decide) rfl ?_
      refine zv_goto (tgt := 25) C dX10_printTrain_55 (by decide) ?_
      have q25_106 : ((j : Int) + 1 : Int) = ((j + 1 : Nat) : Int) := by first | rfl | omega
      refine zv_sub (lv' := [(0, .ref (ob E 0)), (1, .int (zI (i : Int))), (2, .ref (ob E (34 + 4 + 2 * i))), (3, .int (zI ((j + 1 : Nat) : Int)))]) [1, 2, 3, 0] (zcons rfl (zcons rfl (zcons rfl (zcons (zqI q25_106) rfl)))) ?_
      refine zv_eqS (τ := (oW 316 317 1 (sI σ 316 1 (zI 0)) 0 (ptL S i (j + 1)))) (by rw [ptL]; first | rw [if_pos (by omega)] | rw [if_neg (by omega), List.append_nil]) ?_
      exact ih (j + 1) (by omega) (by omega)
set_option maxRecDepth 20000 in
theorem x1_X10_printTrain {l : Launch} (hfl : l.stackTraces = false) (E : zE) (σ : zS) (U : zSU) (b : Int) (hU : zSUp σ 29 U) (hbi : -2147483648 ≤ b ∧ b < 2147483648) (hno : ¬ (0 ≤ b ∧ b < U.nb)) : zRx l E yX10_printTrain cX10_printTrain 4 (some .int) (zrx 12 300) [.ref (ob E 0), .int (zI b)] σ "java/lang/IndexOutOfBoundsException" := by
  refine vx_ofW (cc := cX10_printTrain) (maxL := 4) (ret := (some .int)) (by decide) rfl ?_
  intro p e s m args below meth c s₁ B hml hout hv
  obtain ⟨rfl, hd⟩ := hv
  have C := zX_of (own := RX10) hfl B hml rfl hd rfl
  have hr := B.returns
  refine zV_go hd (Nat.le_of_ble_eq_true rfl) (lv := [(0, .ref (ob E 0)), (1, .int (zI b))]) rfl ?_
  have hnb : U.nb ≤ 8 := hU.2.2.1
  have hs0 := hU.2.2.2.1
  
  refine zv_aload_n C 0 dX10_printTrain_0 rfl rfl ?_
  refine zv_iload_n C 1 dX10_printTrain_1 rfl rfl ?_
  exact zv_xcv (st := []) C (x_X10_needBody hfl E σ U b hU hbi hno) hout mX10_needBody kX10_140 (by decide : kd 0 = 9) rfl rfl rfl ⟨rfl, rfl⟩ (show zfit (zrx 6 100) 2 (zrx 12 300) = true from rfl) (Nat.le_of_ble_eq_true rfl) dX10_printTrain_2
