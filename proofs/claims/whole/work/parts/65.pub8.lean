/-- a contract of a method that throws and leaves another world -/
def zRxp (l : Launch) (E : zE) (y : MethodName) (cc : ByteArray) (nL : Nat) (rt : Option FieldType) (rm : Room) (As : List Value) (σ : zS) (X : String) (post : zS → Prop) : Prop := vx_Met l y (zws y cc nL rt) rm (va_Pc As (zWd E σ)) (fun _ _ _ _ => False) (vx_X post (fun Y u t => Y = X ∧ zWp E u t) (zA E)) 1 6 (zA E)
theorem zxm {below : List Frame} {s : State} {args : Array Value} {E : zE} {X : String} {P1 P2 : zS → Prop} (h : ∀ u, P1 u → P2 u) : ∀ t, vx_MQ below (fun _ _ _ _ => False) (vx_X P1 (fun Y u t => Y = X ∧ zWp E u t) (zA E)) args s 1 6 (zA E) t → vx_MQ below (fun _ _ _ _ => False) (vx_X P2 (fun Y u t => Y = X ∧ zWp E u t) (zA E)) args s 1 6 (zA E) t := by
  intro t ht
  obtain ⟨o, h1, h2, h3⟩ := ht
  refine ⟨o, h1, h2, ?_⟩
  rcases h3 with h3 | ⟨q, h4, Ec, ce, L, ⟨u, h5, h6⟩, h7⟩
  · exact Or.inl h3
  · exact Or.inr ⟨q, h4, Ec, ce, L, ⟨u, h u h5, h6⟩, h7⟩
def qMs (U : zSU) (S : zST) (y : Int) (i : Nat) : Int := ((qErr U S i y).natAbs : Int)
/-- the errors of the bodies, put down in the row of misses -/
def qM (σ : zS) (U : zSU) (S : zST) (y : Int) : Nat → zS
  | 0 => σ
  | j + 1 => sJ (rW (qM σ U S y j) 322 (qDrift U S j).1 (qDrift U S j).2) 326 j (zL (qMs U S y j))
theorem qM_I (σ : zS) (U : zSU) (S : zST) (y : Int) : ∀ j x i, gI (qM σ U S y j) x i = gI σ x i := by
  intro j
  induction j with
  | zero => intro x i; rfl
  | succ j ih => intro x i; exact ih x i
theorem qM_J (σ : zS) (U : zSU) (S : zST) (y : Int) : ∀ j x i, x ≠ 322 → x ≠ 326 → gJ (qM σ U S y j) x i = gJ σ x i := by
  intro j
  induction j with
  | zero => intro x i _ _; rfl
  | succ j ih =>
    intro x i h1 h2
    simp only [qM]
    rw [gJ_sJ, if_neg (by omega), gJ_rW _ _ _ _ _ _ h1]
    exact ih x i h1 h2
theorem qM_r (σ : zS) (U : zSU) (S : zST) (y : Int) : ∀ j i, i < j → gJ (qM σ U S y j) 326 i = zL (qMs U S y i) := by
  intro j
  induction j with
  | zero => intro i h; omega
  | succ j ih =>
    intro i h
    simp only [qM]
    rw [gJ_sJ]
    by_cases e : i = j
    · subst e; rw [if_pos ⟨rfl, rfl⟩]
    · rw [if_neg (by omega), gJ_rW _ _ _ _ _ _ (by omega)]; exact ih i (by omega)
theorem qM_U {σ : zS} {U : zSU} {S : zST} {y : Int} (h : zSUp σ 29 U) (j : Nat) : zSUp (qM σ U S y j) 29 U := zSUp_w h (fun a b _ _ => ⟨qM_I _ _ _ _ _ _ _, qM_J _ _ _ _ _ _ _ (by omega) (by omega)⟩)
theorem qM_S {σ : zS} {U : zSU} {S : zST} {y : Int} (h : zSTp σ 34 S) (j : Nat) : zSTp (qM σ U S y j) 34 S := zSTp_w h (fun a b _ _ => qM_I _ _ _ _ _ _ _)
/-- a body's place among n misses -/
def dPl (ms : Nat → Int) (i : Nat) : Nat → Nat
  | 0 => 0
  | o + 1 => dPl ms i o + (if ms o < ms i ∨ (ms o = ms i ∧ o < i) then 1 else 0)
theorem dPl_le (ms : Nat → Int) (i n : Nat) : dPl ms i n ≤ n := by
  induction n with
  | zero => exact Nat.le_refl _
  | succ n ih => simp only [dPl]; split <;> omega
set_option maxRecDepth 20000 in
theorem c_X10_placeAmongMisses {l : Launch} (hfl : l.stackTraces = false) (E : zE) (σ : zS) (U : zSU) (ms : Nat → Int) (i : Nat) (hU : zSUp σ 29 U) (hM : ∀ o, o < U.nb → gJ σ 326 o = zL (ms o)) (hmb : ∀ o, o < U.nb → 0 ≤ ms o ∧ ms o < 9223372036854775808) (hi : i < U.nb) : zRi l E yX10_placeAmongMisses cX10_placeAmongMisses 4 .int (zrm 0 0) [.ref (ob E 0), .int (zI (i : Int))] σ (fun r τ => r = zI (dPl ms i U.nb : Int) ∧ τ = σ) := by
  refine Met.ofW (cc := cX10_placeAmongMisses) (maxL := 4) (ret := (some .int)) (by decide +kernel) rfl ?_
  intro p e s m args below meth c s₁ B hml hv
  obtain ⟨rfl, hd⟩ := hv
  have C := zX_of (own := RX10) hfl B hml rfl hd rfl
  have hr := B.returns
  refine zV_go hd (Nat.le_of_ble_eq_true rfl) (lv := [(0, .ref (ob E 0)), (1, .int (zI (i : Int)))]) rfl ?_
  have hnb : U.nb ≤ 8 := hU.2.2.1
  have hmi := hmb i hi
  refine zv_iconst (v := zI 0) C dX10_placeAmongMisses_0 rfl ?_
  refine zv_istore_n (lv' := [(2, .int (zI 0)), (0, .ref (ob E 0)), (1, .int (zI (i : Int)))]) C dX10_placeAmongMisses_1 rfl (by decide) rfl ?_
  refine zv_iconst (v := zI 0) C dX10_placeAmongMisses_2 rfl ?_
  refine zv_istore_n (lv' := [(3, .int (zI 0)), (2, .int (zI 0)), (0, .ref (ob E 0)), (1, .int (zI (i : Int)))]) C dX10_placeAmongMisses_3 rfl (by decide) rfl ?_
  have q4_6 : (0 : Int) = (0 : Int) := by first | rfl | omega
  have q4_7 : (0 : Int) = (dPl ms i 0 : Int) := by first | rfl | omega
  refine zv_sub (lv' := [(0, .ref (ob E 0)), (1, .int (zI (i : Int))), (2, .int (zI (dPl ms i 0 : Int))), (3, .int (zI (0 : Int)))]) [2, 3, 1, 0] (zcons rfl (zcons rfl (zcons (zqI q4_7) (zcons (zqI q4_6) rfl)))) ?_
  refine zv_while (α := Nat) (fun v => U.nb - v) (fun v => v ≤ U.nb) (fun v => σ) (fun v => [(0, .ref (ob E 0)), (1, .int (zI (i : Int))), (2, .int (zI (dPl ms i v : Int))), (3, .int (zI (v : Int)))]) (fun v => []) (fun j hI ih => ?_) (0) (by omega)
  refine zv_iload_n C 3 dX10_placeAmongMisses_4 rfl rfl ?_
  refine zv_aload_n C 0 dX10_placeAmongMisses_5 rfl rfl ?_
  refine zG9_1 C (by decide : kd 0 = _) kX10_19 dX10_placeAmongMisses_6 ?_
  refine zG4_1 C (by decide : kd 29 = _) kX10_108 dX10_placeAmongMisses_9 ?_
  refine zv_eqi (y := zI (U.nb : Int)) (hU.2.1) ?_
  refine zv_icmp_geZ (tgt := 61) C (by omega) (by omega) dX10_placeAmongMisses_12 (by decide) (fun h12 => ?_) (fun h12 => ?_)
  · skip
    refine zv_iload_n C 2 dX10_placeAmongMisses_61 rfl rfl ?_
    exact zv_iret C hr rfl dX10_placeAmongMisses_62 ⟨by rw [show j = U.nb by omega], rfl⟩
  · skip
    have hmj := hmb j (by omega)
    refine zv_aload_n C 0 dX10_placeAmongMisses_15 rfl rfl ?_
    refine zG9_11 C (by decide : kd 0 = _) kX10_74 dX10_placeAmongMisses_16 ?_
    refine zv_iload_n C 3 dX10_placeAmongMisses_19 rfl rfl ?_
    refine zv_lald (j := j) C (by decide : kd 326 = _) (zI_ix rfl) (Nat.lt_of_lt_of_eq (show j < 8 by omega) (by decide)) dX10_placeAmongMisses_20 ?_
    refine zv_eql (y := (zL (ms j))) (hM j (by omega)) ?_
    refine zv_aload_n C 0 dX10_placeAmongMisses_21 rfl rfl ?_
    refine zG9_11 C (by decide : kd 0 = _) kX10_74 dX10_placeAmongMisses_22 ?_
    refine zv_iload_n C 1 dX10_placeAmongMisses_25 rfl rfl ?_
    refine zv_lald (j := i) C (by decide : kd 326 = _) (zI_ix rfl) (Nat.lt_of_lt_of_eq (show i < 8 by omega) (by decide)) dX10_placeAmongMisses_26 ?_
    refine zv_eql (y := (zL (ms i))) (hM i hi) ?_
    refine zv_lc_ltZ (tgt := 52) C (by omega) (by omega) dX10_placeAmongMisses_27 dX10_placeAmongMisses_28 (by decide) (fun h27 => ?_) (fun h27 => ?_)
    · skip
      refine zv_iinc (v := (zI ((dPl ms i j : Int) + 1))) (lv' := [(2, .int (zI ((dPl ms i j : Int) + 1))), (0, .ref (ob E 0)), (1, .int (zI (i : Int))), (3, .int (zI (j : Int)))]) C 2 dX10_placeAmongMisses_52 rfl (zI_add _ _) (by decide) rfl ?_
      refine zv_iinc (v := (zI ((j : Int) + 1))) (lv' := [(3, .int (zI ((j : Int) + 1))), (2, .int (zI ((dPl ms i j : Int) + 1))), (0, .ref (ob E 0)), (1, .int (zI (i : Int)))]) C 3 dX10_placeAmongMisses_55 rfl (zI_add _ _) (by decide) rfl ?_
      refine zv_goto (tgt := 4) C dX10_placeAmongMisses_58 (by decide) ?_
      have q4_36 : ((j : Int) + 1 : Int) = ((j + 1 : Nat) : Int) := by first | rfl | omega
      have q4_37 : ((dPl ms i j : Int) + 1 : Int) = (dPl ms i (j + 1) : Int) := by simp only [dPl]; split <;> omega
      refine zv_sub (lv' := [(0, .ref (ob E 0)), (1, .int (zI (i : Int))), (2, .int (zI (dPl ms i (j + 1) : Int))), (3, .int (zI ((j + 1 : Nat) : Int)))]) [2, 3, 1, 0] (zcons rfl (zcons rfl (zcons (zqI q4_37) (zcons (zqI q4_36) rfl)))) ?_
      exact ih (j + 1) (by omega) (by omega)
    · skip
      refine zv_aload_n C 0 dX10_placeAmongMisses_31 rfl rfl ?_
      refine zG9_11 C (by decide : kd 0 = _) kX10_74 dX10_placeAmongMisses_32 ?_
      refine zv_iload_n C 3 dX10_placeAmongMisses_35 rfl rfl ?_
      refine zv_lald (j := j) C (by decide : kd 326 = _) (zI_ix rfl) (Nat.lt_of_lt_of_eq (show j < 8 by omega) (by decide)) dX10_placeAmongMisses_36 ?_
      refine zv_eql (y := (zL (ms j))) (hM j (by omega)) ?_
      refine zv_aload_n C 0 dX10_placeAmongMisses_37 rfl rfl ?_
      refine zG9_11 C (by decide : kd 0 = _) kX10_74 dX10_placeAmongMisses_38 ?_
      refine zv_iload_n C 1 dX10_placeAmongMisses_41 rfl rfl ?_
      refine zv_lald (j := i) C (by decide : kd 326 = _) (zI_ix rfl) (Nat.lt_of_lt_of_eq (show i < 8 by omega) (by decide)) dX10_placeAmongMisses_42 ?_
      refine zv_eql (y := (zL (ms i))) (hM i hi) ?_
      refine zv_lc_neZ (tgt := 55) C (by omega) (by omega) dX10_placeAmongMisses_43 dX10_placeAmongMisses_44 (by decide) (fun h43 => ?_) (fun h43 => ?_)
      · skip
        refine zv_iinc (v := (zI ((j : Int) + 1))) (lv' := [(3, .int (zI ((j : Int) + 1))), (0, .ref (ob E 0)), (1, .int (zI (i : Int))), (2, .int (zI (dPl ms i j : Int)))]) C 3 dX10_placeAmongMisses_55 rfl (zI_add _ _) (by decide) rfl ?_
        refine zv_goto (tgt := 4) C dX10_placeAmongMisses_58 (by decide) ?_
        have q4_55 : ((j : Int) + 1 : Int) = ((j + 1 : Nat) : Int) := by first | rfl | omega
        have q4_56 : ((dPl ms i j : Int) : Int) = (dPl ms i (j + 1) : Int) := by simp only [dPl]; split <;> omega
        refine zv_sub (lv' := [(0, .ref (ob E 0)), (1, .int (zI (i : Int))), (2, .int (zI (dPl ms i (j + 1) : Int))), (3, .int (zI ((j + 1 : Nat) : Int)))]) [1, 2, 3, 0] (zcons rfl (zcons rfl (zcons (zqI q4_56) (zcons (zqI q4_55) rfl)))) ?_
        exact ih (j + 1) (by omega) (by omega)
      · skip
        refine zv_iload_n C 3 dX10_placeAmongMisses_47 rfl rfl ?_
        refine zv_iload_n C 1 dX10_placeAmongMisses_48 rfl rfl ?_
        refine zv_icmp_geZ (tgt := 55) C (by omega) (by omega) dX10_placeAmongMisses_49 (by decide) (fun h49 => ?_) (fun h49 => ?_)
        · skip
          refine zv_iinc (v := (zI ((j : Int) + 1))) (lv' := [(3, .int (zI ((j : Int) + 1))), (0, .ref (ob E 0)), (1, .int (zI (i : Int))), (2, .int (zI (dPl ms i j : Int)))]) C 3 dX10_placeAmongMisses_55 rfl (zI_add _ _) (by decide) rfl ?_
          refine zv_goto (tgt := 4) C dX10_placeAmongMisses_58 (by decide) ?_
          have q4_66 : ((j : Int) + 1 : Int) = ((j + 1 : Nat) : Int) := by first | rfl | omega
          have q4_67 : ((dPl ms i j : Int) : Int) = (dPl ms i (j + 1) : Int) := by simp only [dPl]; split <;> omega
          refine zv_sub (lv' := [(0, .ref (ob E 0)), (1, .int (zI (i : Int))), (2, .int (zI (dPl ms i (j + 1) : Int))), (3, .int (zI ((j + 1 : Nat) : Int)))]) [1, 2, 3, 0] (zcons rfl (zcons rfl (zcons (zqI q4_67) (zcons (zqI q4_66) rfl)))) ?_
          exact ih (j + 1) (by omega) (by omega)
        · skip
          refine zv_iinc (v := (zI ((dPl ms i j : Int) + 1))) (lv' := [(2, .int (zI ((dPl ms i j : Int) + 1))), (0, .ref (ob E 0)), (1, .int (zI (i : Int))), (3, .int (zI (j : Int)))]) C 2 dX10_placeAmongMisses_52 rfl (zI_add _ _) (by decide) rfl ?_
          refine zv_iinc (v := (zI ((j : Int) + 1))) (lv' := [(3, .int (zI ((j : Int) + 1))), (2, .int (zI ((dPl ms i j : Int) + 1))), (0, .ref (ob E 0)), (1, .int (zI (i : Int)))]) C 3 dX10_placeAmongMisses_55 rfl (zI_add _ _) (by decide) rfl ?_
          refine zv_goto (tgt := 4) C dX10_placeAmongMisses_58 (by decide) ?_
          have q4_74 : ((j : Int) + 1 : Int) = ((j + 1 : Nat) : Int) := by first | rfl | omega
          have q4_75 : ((dPl ms i j : Int) + 1 : Int) = (dPl ms i (j + 1) : Int) := by simp only [dPl]; split <;> omega
          refine zv_sub (lv' := [(0, .ref (ob E 0)), (1, .int (zI (i : Int))), (2, .int (zI (dPl ms i (j + 1) : Int))), (3, .int (zI ((j + 1 : Nat) : Int)))]) [2, 3, 1, 0] (zcons rfl (zcons rfl (zcons (zqI q4_75) (zcons (zqI q4_74) rfl)))) ?_
          exact ih (j + 1) (by omega) (by omega)
def dRk (U : zSU) (S : zST) (y rk : Int) (b : Nat) : Bool := decide ((dPl (qMs U S y) b U.nb : Int) = rk)
theorem qMs_b {σ σ' : zS} {k k' : Nat} {U : zSU} {S : zST} (h : zSUp σ k U) (hS : zSTp σ' k' S) {y : Int} (hy : U.s0 - 1 ≤ y ∧ y ≤ U.s0 + 999) : ∀ o, o < U.nb → 0 ≤ qMs U S y o ∧ qMs U S y o < 9223372036854775808 := by
  intro o ho
  have := qErr_b h hS ho hy
  unfold qMs
  omega
set_option maxRecDepth 20000 in
theorem c_X10_ranked {l : Launch} (hfl : l.stackTraces = false) (E : zE) (σ : zS) (U : zSU) (S : zST) (y : Int) (rk : Int) (hU : zSUp σ 29 U) (hS : zSTp σ 34 S) (hy : U.s0 ≤ y ∧ y ≤ U.s0 + 999) (hrk : -2147483648 ≤ rk ∧ rk < 2147483648) (hfi : 0 ≤ fi (dRk U S y rk) U.nb) : zRi l E yX10_ranked cX10_ranked 4 .int (zrm 6 148) [.ref (ob E 0), .int (zI y), .int (zI rk)] σ (fun r τ => r = zI (fi (dRk U S y rk) U.nb) ∧ τ = qM σ U S y U.nb) := by
  refine Met.ofW (cc := cX10_ranked) (maxL := 4) (ret := (some .int)) (by decide +kernel) rfl ?_
  intro p e s m args below meth c s₁ B hml hv
  obtain ⟨rfl, hd⟩ := hv
  have C := zX_of (own := RX10) hfl B hml rfl hd rfl
  have hr := B.returns
  refine zV_go hd (Nat.le_of_ble_eq_true rfl) (lv := [(0, .ref (ob E 0)), (1, .int (zI y)), (2, .int (zI rk))]) rfl ?_
  have hnb : U.nb ≤ 8 := hU.2.2.1
  have hs0 := hU.2.2.2.1
  
  refine zv_aload_n C 0 dX10_ranked_0 rfl rfl ?_
  refine zv_iload_n C 1 dX10_ranked_1 rfl rfl ?_
  refine zv_cvvD (st := []) C (c_X10_needYear hfl E σ U y hU (by omega) hy) mX10_needYear kX10_192 (by decide : kd 0 = 9) rfl rfl rfl ⟨rfl, rfl⟩ (show zfit (zrm 1 22) 2 (zrm 6 148) = true from rfl) (Nat.le_of_ble_eq_true rfl) dX10_ranked_2 ⟨Nat.zero_le _, Nat.zero_le _⟩ ?_
  refine zv_iconst (v := zI 0) C dX10_ranked_5 rfl ?_
  refine zv_istore_n (lv' := [(3, .int (zI 0)), (0, .ref (ob E 0)), (1, .int (zI y)), (2, .int (zI rk))]) C dX10_ranked_6 rfl (by decide) rfl ?_
  have q7_8 : (0 : Int) = (0 : Int) := by first | rfl | omega
  refine zv_sub (lv' := [(0, .ref (ob E 0)), (1, .int (zI y)), (2, .int (zI rk)), (3, .int (zI (0 : Int)))]) [1, 2, 3, 0] (zcons rfl (zcons rfl (zcons rfl (zcons (zqI q7_8) rfl)))) ?_
  refine zv_eqS (τ := (qM σ U S y 0)) (rfl) ?_
  refine zv_while (α := Nat) (fun v => U.nb - v) (fun v => v ≤ U.nb) (fun v => (qM σ U S y v)) (fun v => [(0, .ref (ob E 0)), (1, .int (zI y)), (2, .int (zI rk)), (3, .int (zI (v : Int)))]) (fun v => []) (fun j hI ih => ?_) (0) (by omega)
  refine zv_iload_n C 3 dX10_ranked_7 rfl rfl ?_
  refine zv_aload_n C 0 dX10_ranked_8 rfl rfl ?_
  refine zG9_1 C (by decide : kd 0 = _) kX10_19 dX10_ranked_9 ?_
  refine zG4_1 C (by decide : kd 29 = _) kX10_108 dX10_ranked_12 ?_
  refine zv_eqi (y := zI (U.nb : Int)) ((qM_U hU j).2.1) ?_
  refine zv_icmp_geZ (tgt := 36) C (by omega) (by omega) dX10_ranked_15 (by decide) (fun h15 => ?_) (fun h15 => ?_)
  · skip
    refine zv_iconst (v := zI 0) C dX10_ranked_36 rfl ?_
    refine zv_istore_n (lv' := [(3, .int (zI 0)), (0, .ref (ob E 0)), (1, .int (zI y)), (2, .int (zI rk))]) C dX10_ranked_37 rfl (by decide) rfl ?_
    have q38_21 : (0 : Int) = (0 : Int) := by first | rfl | omega
    refine zv_sub (lv' := [(0, .ref (ob E 0)), (2, .int (zI rk)), (3, .int (zI (0 : Int)))]) [1, 3, 0] (zcons rfl (zcons rfl (zcons (zqI q38_21) rfl))) ?_
    refine zv_eqS (τ := (qM σ U S y U.nb)) (by rw [show j = U.nb by omega]) ?_
    refine zv_while (α := Nat) (fun v => U.nb - v) (fun v => v ≤ U.nb ∧ fi (dRk U S y rk) v = -1) (fun v => (qM σ U S y U.nb)) (fun v => [(0, .ref (ob E 0)), (2, .int (zI rk)), (3, .int (zI (v : Int)))]) (fun v => []) (fun j hI ih38 => ?_) (0) (⟨by omega, rfl⟩)
    obtain ⟨hI, hI2⟩ := hI
    refine zv_iload_n C 2 dX10_ranked_38 rfl rfl ?_
    refine zv_aload_n C 0 dX10_ranked_39 rfl rfl ?_
    refine zG9_1 C (by decide : kd 0 = _) kX10_19 dX10_ranked_40 ?_
    refine zG4_1 C (by decide : kd 29 = _) kX10_108 dX10_ranked_43 ?_
    refine zv_eqi (y := zI (U.nb : Int)) ((qM_U hU U.nb).2.1) ?_
    refine zv_icmp_geZ (tgt := 66) C (by omega) (by omega) dX10_ranked_46 (by decide) (fun h46 => ?_) (fun h46 => ?_)
    · exfalso
      rw [show j = U.nb by omega] at hI2; omega
    · skip
      have hdp := dPl_le (qMs U S y) j U.nb
      refine zv_aload_n C 0 dX10_ranked_49 rfl rfl ?_
      refine zv_iload_n C 2 dX10_ranked_50 rfl rfl ?_
      refine zv_cviD (st := []) C (c_X10_placeAmongMisses hfl E (qM σ U S y U.nb) U (qMs U S y) j (qM_U hU _) (fun o ho => qM_r _ _ _ _ _ _ ho) (qMs_b hU hS (by omega)) (by omega)) mX10_placeAmongMisses kX10_233 (by decide : kd 0 = 9) rfl rfl rfl ⟨rfl, rfl⟩ (show zfit (zrm 0 0) 4 (zrm 6 148) = true from rfl) (Nat.le_of_ble_eq_true rfl) dX10_ranked_51 ⟨Nat.zero_le _, Nat.zero_le _⟩ ?_
      refine zv_iload_n C 1 dX10_ranked_54 rfl rfl ?_
      refine zv_icmp_neZ (tgt := 60) C (by omega) (by omega) dX10_ranked_55 (by decide) (fun h55 => ?_) (fun h55 => ?_)
      · skip
        refine zv_iinc (v := (zI ((j : Int) + 1))) (lv' := [(3, .int (zI ((j : Int) + 1))), (0, .ref (ob E 0)), (2, .int (zI rk))]) C 2 dX10_ranked_60 rfl (zI_add _ _) (by decide) rfl ?_
        refine zv_goto (tgt := 38) C dX10_ranked_63 (by decide) ?_
        have q38_44 : ((j : Int) + 1 : Int) = ((j + 1 : Nat) : Int) := by first | rfl | omega
        refine zv_sub (lv' := [(0, .ref (ob E 0)), (2, .int (zI rk)), (3, .int (zI ((j + 1 : Nat) : Int)))]) [1, 2, 0] (zcons rfl (zcons rfl (zcons (zqI q38_44) rfl))) ?_
        refine zv_eqS (τ := (qM σ U S y U.nb)) (rfl) ?_
        exact ih38 (j + 1) (⟨by omega, fi_s hI2 (by simp only [dRk, decide_eq_true_eq]; omega)⟩) (by omega)
      · skip
        refine zv_iload_n C 2 dX10_ranked_58 rfl rfl ?_
        exact zv_iret C hr rfl dX10_ranked_59 ⟨by rw [fi_of hI2 (by simp only [dRk, decide_eq_true_eq]; omega) U.nb (by omega)], rfl⟩
  · skip
    have hqb := qErr_b hU hS (i := j) (by omega) (y := y) (by omega)
    refine zv_aload_n C 0 dX10_ranked_18 rfl rfl ?_
    refine zG9_11 C (by decide : kd 0 = _) kX10_74 dX10_ranked_19 ?_
    refine zv_iload_n C 3 dX10_ranked_22 rfl rfl ?_
    refine zv_aload_n C 0 dX10_ranked_23 rfl rfl ?_
    refine zv_iload_n C 3 dX10_ranked_24 rfl rfl ?_
    refine zv_iload_n C 1 dX10_ranked_25 rfl rfl ?_
    refine zv_cvlD (st := [.int (zI (j : Int)), .ref (ob E 326)]) C (c_X10_yearEndMiss hfl E (qM σ U S y j) U S j y (qM_U hU j) (qM_S hS j) (by omega) hy (by omega)) mX10_yearEndMiss kX10_230 (by decide : kd 0 = 9) rfl rfl rfl ⟨rfl, rfl⟩ (show zfit (zrm 5 126) 3 (zrm 6 148) = true from rfl) (Nat.le_of_ble_eq_true rfl) dX10_ranked_26 ⟨Nat.zero_le _, Nat.zero_le _⟩ ?_
    refine zv_last (j := j) C (by decide : kd 326 = _) (zI_ix rfl) (Nat.lt_of_lt_of_eq (show j < 8 by omega) (by decide)) dX10_ranked_29 ?_
    refine zv_iinc (v := (zI ((j : Int) + 1))) (lv' := [(3, .int (zI ((j : Int) + 1))), (0, .ref (ob E 0)), (1, .int (zI y)), (2, .int (zI rk))]) C 3 dX10_ranked_30 rfl (zI_add _ _) (by decide) rfl ?_
    refine zv_goto (tgt := 7) C dX10_ranked_33 (by decide) ?_
    have q7_63 : ((j : Int) + 1 : Int) = ((j + 1 : Nat) : Int) := by first | rfl | omega
    refine zv_sub (lv' := [(0, .ref (ob E 0)), (1, .int (zI y)), (2, .int (zI rk)), (3, .int (zI ((j + 1 : Nat) : Int)))]) [1, 2, 3, 0] (zcons rfl (zcons rfl (zcons rfl (zcons (zqI q7_63) rfl)))) ?_
    refine zv_eqS (τ := (qM σ U S y (j + 1))) (rfl) ?_
    exact ih (j + 1) (by omega) (by omega)
set_option maxRecDepth 20000 in
theorem x1_X10_ranked {l : Launch} (hfl : l.stackTraces = false) (E : zE) (σ : zS) (U : zSU) (y rk : Int) (hU : zSUp σ 29 U) (hyi : -2147483648 ≤ y ∧ y < 2147483648) (hno : ¬ (U.s0 ≤ y ∧ y ≤ U.s0 + 999)) : zRx l E yX10_ranked cX10_ranked 4 (some .int) (zrx 10 210) [.ref (ob E 0), .int (zI y), .int (zI rk)] σ "java/lang/IllegalArgumentException" := by
  refine vx_ofW (cc := cX10_ranked) (maxL := 4) (ret := (some .int)) (by decide) rfl ?_
  intro p e s m args below meth c s₁ B hml hout hv
  obtain ⟨rfl, hd⟩ := hv
  have C := zX_of (own := RX10) hfl B hml rfl hd rfl
  have hr := B.returns
  refine zV_go hd (Nat.le_of_ble_eq_true rfl) (lv := [(0, .ref (ob E 0)), (1, .int (zI y)), (2, .int (zI rk))]) rfl ?_
  have hnb : U.nb ≤ 8 := hU.2.2.1
  have hs0 := hU.2.2.2.1
  
  refine zv_aload_n C 0 dX10_ranked_0 rfl rfl ?_
  refine zv_iload_n C 1 dX10_ranked_1 rfl rfl ?_
  exact zv_xcv (st := []) C (x_X10_needYear hfl E σ U y hU hyi hno) hout mX10_needYear kX10_192 (by decide : kd 0 = 9) rfl rfl rfl ⟨rfl, rfl⟩ (show zfit (zrx 8 170) 2 (zrx 10 210) = true from rfl) (Nat.le_of_ble_eq_true rfl) dX10_ranked_2
set_option maxRecDepth 20000 in
theorem x2_X10_ranked {l : Launch} (hfl : l.stackTraces = false) (E : zE) (σ : zS) (U : zSU) (S : zST) (y : Int) (rk : Int) (hU : zSUp σ 29 U) (hS : zSTp σ 34 S) (hy : U.s0 ≤ y ∧ y ≤ U.s0 + 999) (hrk : -2147483648 ≤ rk ∧ rk < 2147483648) (hfi : fi (dRk U S y rk) U.nb = -1) : zRxp l E yX10_ranked cX10_ranked 4 (some .int) (zrx 10 210) [.ref (ob E 0), .int (zI y), .int (zI rk)] σ "java/util/NoSuchElementException" (fun u => u = qM σ U S y U.nb) := by
  refine vx_ofW (cc := cX10_ranked) (maxL := 4) (ret := (some .int)) (by decide) rfl ?_
  intro p e s m args below meth c s₁ B hml hout hv
  obtain ⟨rfl, hd⟩ := hv
  have C := zX_of (own := RX10) hfl B hml rfl hd rfl
  have hr := B.returns
  refine zV_go hd (Nat.le_of_ble_eq_true rfl) (lv := [(0, .ref (ob E 0)), (1, .int (zI y)), (2, .int (zI rk))]) rfl ?_
  have hnb : U.nb ≤ 8 := hU.2.2.1
  have hs0 := hU.2.2.2.1
  
  refine zv_aload_n C 0 dX10_ranked_0 rfl rfl ?_
  refine zv_iload_n C 1 dX10_ranked_1 rfl rfl ?_
  refine zv_cvvD (st := []) C (c_X10_needYear hfl E σ U y hU (by omega) hy) mX10_needYear kX10_192 (by decide : kd 0 = 9) rfl rfl rfl ⟨rfl, rfl⟩ (show zfit (zrm 1 22) 2 (zrx 10 210) = true from rfl) (Nat.le_of_ble_eq_true rfl) dX10_ranked_2 ⟨Nat.zero_le _, Nat.zero_le _⟩ ?_
  refine zv_iconst (v := zI 0) C dX10_ranked_5 rfl ?_
  refine zv_istore_n (lv' := [(3, .int (zI 0)), (0, .ref (ob E 0)), (1, .int (zI y)), (2, .int (zI rk))]) C dX10_ranked_6 rfl (by decide) rfl ?_
  have q7_8 : (0 : Int) = (0 : Int) := by first | rfl | omega
  refine zv_sub (lv' := [(0, .ref (ob E 0)), (1, .int (zI y)), (2, .int (zI rk)), (3, .int (zI (0 : Int)))]) [1, 2, 3, 0] (zcons rfl (zcons rfl (zcons rfl (zcons (zqI q7_8) rfl)))) ?_
  refine zv_eqS (τ := (qM σ U S y 0)) (rfl) ?_
  refine zv_while (α := Nat) (fun v => U.nb - v) (fun v => v ≤ U.nb) (fun v => (qM σ U S y v)) (fun v => [(0, .ref (ob E 0)), (1, .int (zI y)), (2, .int (zI rk)), (3, .int (zI (v : Int)))]) (fun v => []) (fun j hI ih => ?_) (0) (by omega)
  refine zv_iload_n C 3 dX10_ranked_7 rfl rfl ?_
  refine zv_aload_n C 0 dX10_ranked_8 rfl rfl ?_
  refine zG9_1 C (by decide : kd 0 = _) kX10_19 dX10_ranked_9 ?_
  refine zG4_1 C (by decide : kd 29 = _) kX10_108 dX10_ranked_12 ?_
  refine zv_eqi (y := zI (U.nb : Int)) ((qM_U hU j).2.1) ?_
  refine zv_icmp_geZ (tgt := 36) C (by omega) (by omega) dX10_ranked_15 (by decide) (fun h15 => ?_) (fun h15 => ?_)
  · skip
    refine zv_iconst (v := zI 0) C dX10_ranked_36 rfl ?_
    refine zv_istore_n (lv' := [(3, .int (zI 0)), (0, .ref (ob E 0)), (1, .int (zI y)), (2, .int (zI rk))]) C dX10_ranked_37 rfl (by decide) rfl ?_
    have q38_21 : (0 : Int) = (0 : Int) := by first | rfl | omega
    refine zv_sub (lv' := [(0, .ref (ob E 0)), (2, .int (zI rk)), (3, .int (zI (0 : Int)))]) [1, 3, 0] (zcons rfl (zcons rfl (zcons (zqI q38_21) rfl))) ?_
    refine zv_eqS (τ := (qM σ U S y U.nb)) (by rw [show j = U.nb by omega]) ?_
    refine zv_while (α := Nat) (fun v => U.nb - v) (fun v => v ≤ U.nb ∧ fi (dRk U S y rk) v = -1) (fun v => (qM σ U S y U.nb)) (fun v => [(0, .ref (ob E 0)), (2, .int (zI rk)), (3, .int (zI (v : Int)))]) (fun v => []) (fun j hI ih38 => ?_) (0) (⟨by omega, rfl⟩)
    obtain ⟨hI, hI2⟩ := hI
    refine zv_iload_n C 2 dX10_ranked_38 rfl rfl ?_
    refine zv_aload_n C 0 dX10_ranked_39 rfl rfl ?_
    refine zG9_1 C (by decide : kd 0 = _) kX10_19 dX10_ranked_40 ?_
    refine zG4_1 C (by decide : kd 29 = _) kX10_108 dX10_ranked_43 ?_
    refine zv_eqi (y := zI (U.nb : Int)) ((qM_U hU U.nb).2.1) ?_
    refine zv_icmp_geZ (tgt := 66) C (by omega) (by omega) dX10_ranked_46 (by decide) (fun h46 => ?_) (fun h46 => ?_)
    · skip
      refine zv_mono (zxm (fun u hu => hu)) ?_
      exact zv_throwN (text := "no such place in the order") C hout rfl kX10_165 zini_NoSuchElementException (by decide) (by decide) zat_NoSuchElementException zot_NoSuchElementException dX10_ranked_66 dX10_ranked_69 dX10_ranked_70 dX10_ranked_72 dX10_ranked_75 (by decide) (by decide) ⟨by decide, by decide⟩
    · skip
      have hdp := dPl_le (qMs U S y) j U.nb
      refine zv_aload_n C 0 dX10_ranked_49 rfl rfl ?_
      refine zv_iload_n C 2 dX10_ranked_50 rfl rfl ?_
      refine zv_cviD (st := []) C (c_X10_placeAmongMisses hfl E (qM σ U S y U.nb) U (qMs U S y) j (qM_U hU _) (fun o ho => qM_r _ _ _ _ _ _ ho) (qMs_b hU hS (by omega)) (by omega)) mX10_placeAmongMisses kX10_233 (by decide : kd 0 = 9) rfl rfl rfl ⟨rfl, rfl⟩ (show zfit (zrm 0 0) 4 (zrx 10 210) = true from rfl) (Nat.le_of_ble_eq_true rfl) dX10_ranked_51 ⟨Nat.zero_le _, Nat.zero_le _⟩ ?_
      refine zv_iload_n C 1 dX10_ranked_54 rfl rfl ?_
      refine zv_icmp_neZ (tgt := 60) C (by omega) (by omega) dX10_ranked_55 (by decide) (fun h55 => ?_) (fun h55 => ?_)
      · skip
        refine zv_iinc (v := (zI ((j : Int) + 1))) (lv' := [(3, .int (zI ((j : Int) + 1))), (0, .ref (ob E 0)), (2, .int (zI rk))]) C 2 dX10_ranked_60 rfl (zI_add _ _) (by decide) rfl ?_
        refine zv_goto (tgt := 38) C dX10_ranked_63 (by decide) ?_
        have q38_45 : ((j : Int) + 1 : Int) = ((j + 1 : Nat) : Int) := by first | rfl | omega
        refine zv_sub (lv' := [(0, .ref (ob E 0)), (2, .int (zI rk)), (3, .int (zI ((j + 1 : Nat) : Int)))]) [1, 2, 0] (zcons rfl (zcons rfl (zcons (zqI q38_45) rfl))) ?_
        refine zv_eqS (τ := (qM σ U S y U.nb)) (rfl) ?_
        exact ih38 (j + 1) (⟨by omega, fi_s hI2 (by simp only [dRk, decide_eq_true_eq]; omega)⟩) (by omega)
      · exfalso
        have := fi_of hI2 (by simp only [dRk, decide_eq_true_eq]; omega) U.nb (by omega); omega
  · skip
    have hqb := qErr_b hU hS (i := j) (by omega) (y := y) (by omega)
    refine zv_aload_n C 0 dX10_ranked_18 rfl rfl ?_
    refine zG9_11 C (by decide : kd 0 = _) kX10_74 dX10_ranked_19 ?_
    refine zv_iload_n C 3 dX10_ranked_22 rfl rfl ?_
    refine zv_aload_n C 0 dX10_ranked_23 rfl rfl ?_
    refine zv_iload_n C 3 dX10_ranked_24 rfl rfl ?_
    refine zv_iload_n C 1 dX10_ranked_25 rfl rfl ?_
    refine zv_cvlD (st := [.int (zI (j : Int)), .ref (ob E 326)]) C (c_X10_yearEndMiss hfl E (qM σ U S y j) U S j y (qM_U hU j) (qM_S hS j) (by omega) hy (by omega)) mX10_yearEndMiss kX10_230 (by decide : kd 0 = 9) rfl rfl rfl ⟨rfl, rfl⟩ (show zfit (zrm 5 126) 3 (zrx 10 210) = true from rfl) (Nat.le_of_ble_eq_true rfl) dX10_ranked_26 ⟨Nat.zero_le _, Nat.zero_le _⟩ ?_
    refine zv_last (j := j) C (by decide : kd 326 = _) (zI_ix rfl) (Nat.lt_of_lt_of_eq (show j < 8 by omega) (by decide)) dX10_ranked_29 ?_
    refine zv_iinc (v := (zI ((j : Int) + 1))) (lv' := [(3, .int (zI ((j : Int) + 1))), (0, .ref (ob E 0)), (1, .int (zI y)), (2, .int (zI rk))]) C 3 dX10_ranked_30 rfl (zI_add _ _) (by decide) rfl ?_
    refine zv_goto (tgt := 7) C dX10_ranked_33 (by decide) ?_
    have q7_63 : ((j : Int) + 1 : Int) = ((j + 1 : Nat) : Int) := by first | rfl | omega
    refine zv_sub (lv' := [(0, .ref (ob E 0)), (1, .int (zI y)), (2, .int (zI rk)), (3, .int (zI ((j + 1 : Nat) : Int)))]) [1, 2, 3, 0] (zcons rfl (zcons rfl (zcons rfl (zcons (zqI q7_63) rfl)))) ?_
    refine zv_eqS (τ := (qM σ U S y (j + 1))) (rfl) ?_
    exact ih (j + 1) (by omega) (by omega)
