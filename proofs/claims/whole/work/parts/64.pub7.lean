theorem zF_e {z : Int} {f : Nat} (h : z = (f : Int)) : ((f * 1296000 : Nat) : Int) = z * 1296000 := by omega
def dFb (U : zSU) (S : zST) (i : Nat) (lim : Int) (j : Nat) : Bool := decide (lim < ((qErr U S i (U.s0 + (j : Int))).natAbs : Int))
def dFbR (U : zSU) (S : zST) (i : Nat) (lim : Int) : Int := if fi (dFb U S i lim) 1000 < 0 then -1 else U.s0 + fi (dFb U S i lim) 1000
set_option maxRecDepth 20000 in
theorem c_X10_firstBeyond {l : Launch} (hfl : l.stackTraces = false) (E : zE) (σ : zS) (U : zSU) (S : zST) (i : Nat) (lim : Int) (hU : zSUp σ 29 U) (hS : zSTp σ 34 S) (hi : i < U.nb) (hl : 0 ≤ lim ∧ lim ≤ 1000000000) : zRi l E yX10_firstBeyond cX10_firstBeyond 5 .int (zrm 5 126) [.ref (ob E 0), .int (zI (i : Int)), .int (zI lim)] σ (fun r τ => r = zI (dFbR U S i lim) ∧ τ = (rW σ 322 (qDrift U S i).1 (qDrift U S i).2)) := by
  refine Met.ofW (cc := cX10_firstBeyond) (maxL := 5) (ret := (some .int)) (by decide +kernel) rfl ?_
  intro p e s m args below meth c s₁ B hml hv
  obtain ⟨rfl, hd⟩ := hv
  have C := zX_of (own := RX10) hfl B hml rfl hd rfl
  have hr := B.returns
  refine zV_go hd (Nat.le_of_ble_eq_true rfl) (lv := [(0, .ref (ob E 0)), (1, .int (zI (i : Int))), (2, .int (zI lim))]) rfl ?_
  have hnb : U.nb ≤ 8 := hU.2.2.1
  have hs0 := hU.2.2.2.1
  have hdb := qDrift_b hU hS hi
  have hU2 : zSUp (rW σ 322 (qDrift U S i).1 (qDrift U S i).2) 29 U := zSUp_rW hU (by decide)
  
  refine zv_aload_n C 0 dX10_firstBeyond_0 rfl rfl ?_
  refine zv_iload_n C 1 dX10_firstBeyond_1 rfl rfl ?_
  refine zv_cvvD (st := []) C (c_X10_needBody hfl E σ U (i : Int) hU (by omega) (by omega)) mX10_needBody kX10_140 (by decide : kd 0 = 9) rfl rfl rfl ⟨rfl, rfl⟩ (show zfit (zrm 0 0) 2 (zrm 5 126) = true from rfl) (Nat.le_of_ble_eq_true rfl) dX10_firstBeyond_2 ⟨Nat.zero_le _, Nat.zero_le _⟩ ?_
  refine zv_iload_n C 2 dX10_firstBeyond_5 rfl rfl ?_
  refine zv_iconst (v := zI 0) C dX10_firstBeyond_6 rfl ?_
  refine zv_ldc C kX10_238 dX10_firstBeyond_7 ?_
  refine zv_eqi (y := zI 1000000000) (by decide) ?_
  refine zv_csvD (st := []) C (c_X10_needWithin hfl E σ lim 0 1000000000 (by omega) (by omega) (by omega) hl) mX10_needWithin kX10_117 rfl ⟨rfl, rfl⟩ (show zfit (zrm 0 0) 3 (zrm 5 126) = true from rfl) (Nat.le_of_ble_eq_true rfl) dX10_firstBeyond_9 ⟨Nat.zero_le _, Nat.zero_le _⟩ ?_
  refine zv_aload_n C 0 dX10_firstBeyond_12 rfl rfl ?_
  refine zv_iload_n C 1 dX10_firstBeyond_13 rfl rfl ?_
  refine zv_cvrD (st := []) C (c_X10_driftOf hfl E σ U S i hU hS hi) mX10_driftOf kX10_210 (by decide : kd 0 = 9) rfl rfl rfl ⟨rfl, rfl⟩ (show zfit (zrm 4 105) 2 (zrm 5 126) = true from rfl) (Nat.le_of_ble_eq_true rfl) dX10_firstBeyond_14 ⟨Nat.zero_le _, Nat.zero_le _⟩ ?_
  refine zv_astore_n (lv' := [(3, .ref (ob E 322)), (0, .ref (ob E 0)), (1, .int (zI (i : Int))), (2, .int (zI lim))]) C dX10_firstBeyond_17 rfl (by decide) rfl ?_
  refine zv_aload_n C 1 dX10_firstBeyond_18 rfl rfl ?_
  refine zG9_1 C (by decide : kd 0 = _) kX10_19 dX10_firstBeyond_19 ?_
  refine zG4_0 C (by decide : kd 29 = _) kX10_124 dX10_firstBeyond_22 ?_
  refine zv_eqi (y := (zI U.s0)) (hU2.1) ?_
  refine zv_istore (lv' := [(4, .int (zI U.s0)), (3, .ref (ob E 322)), (0, .ref (ob E 0)), (1, .int (zI (i : Int))), (2, .int (zI lim))]) C dX10_firstBeyond_25  (by decide) rfl ?_
  have q27_22 : (U.s0 : Int) = U.s0 + (0 : Int) := by first | rfl | omega
  refine zv_sub (lv' := [(0, .ref (ob E 0)), (2, .int (zI lim)), (3, .ref (ob E 322)), (4, .int (zI (U.s0 + (0 : Int))))]) [2, 4, 1, 0] (zcons rfl (zcons rfl (zcons rfl (zcons (zqI q27_22) rfl)))) ?_
  refine zv_while (α := Nat) (fun v => 1000 - v) (fun v => v ≤ 1000 ∧ fi (dFb U S i lim) v = -1) (fun v => (rW σ 322 (qDrift U S i).1 (qDrift U S i).2)) (fun v => [(0, .ref (ob E 0)), (2, .int (zI lim)), (3, .ref (ob E 322)), (4, .int (zI (U.s0 + (v : Int))))]) (fun v => []) (fun j hI ih => ?_) (0) (⟨by omega, rfl⟩)
  obtain ⟨hI, hI2⟩ := hI
  refine zv_iload C 3 dX10_firstBeyond_27 rfl ?_
  refine zv_aload_n C 0 dX10_firstBeyond_29 rfl rfl ?_
  refine zG9_1 C (by decide : kd 0 = _) kX10_19 dX10_firstBeyond_30 ?_
  refine zG4_0 C (by decide : kd 29 = _) kX10_124 dX10_firstBeyond_33 ?_
  refine zv_eqi (y := zI U.s0) (hU2.1) ?_
  refine zv_sipush (v := zI 1000) C dX10_firstBeyond_36 (by decide) ?_
  refine zv_iaddZ C dX10_firstBeyond_39 ?_
  refine zv_icmp_geZ (tgt := 74) C (by omega) (by omega) dX10_firstBeyond_40 (by decide) (fun h40 => ?_) (fun h40 => ?_)
  · skip
    refine zv_iconst (v := zI (-1)) C dX10_firstBeyond_74 rfl ?_
    exact zv_iret C hr rfl dX10_firstBeyond_75 ⟨by rw [dFbR, show (1000 : Nat) = j by omega, hI2]; rfl, rfl⟩
  · skip
    have hye := yEnd_in hs0 (y := U.s0 + (j : Int)) (by omega)
    obtain ⟨f, hf⟩ : ∃ f : Nat, yEnd U.s0 (U.s0 + (j : Int)) = (f : Int) := ⟨(yEnd U.s0 (U.s0 + (j : Int))).toNat, by omega⟩
    have hF := zF_e hf
    have hqb := qErr_b hU hS hi (y := U.s0 + (j : Int)) (by omega)
    refine zv_aload_n C 2 dX10_firstBeyond_43 rfl rfl ?_
    refine zv_aload_n C 0 dX10_firstBeyond_44 rfl rfl ?_
    refine zG9_1 C (by decide : kd 0 = _) kX10_19 dX10_firstBeyond_45 ?_
    refine zv_iload C 3 dX10_firstBeyond_48 rfl ?_
    refine zv_cviD (st := [.ref (ob E 322)]) C (c_X4_endDay hfl E (rW σ 322 (qDrift U S i).1 (qDrift U S i).2) 29 U.s0 U.nb U.nm U.pe U.re U.ca (U.s0 + (j : Int)) (by decide) hU2 (by omega)) mX4_endDay kX10_195 (by decide : kd 29 = 4) rfl rfl rfl ⟨rfl, rfl⟩ (show zfit (zrm 1 20) 2 (zrm 5 126) = true from rfl) (Nat.le_of_ble_eq_true rfl) dX10_firstBeyond_50 ⟨Nat.zero_le _, Nat.zero_le _⟩ ?_
    refine zv_eqi (y := (zI (f : Int))) (by rw [hf]) ?_
    refine zv_cvlD (st := []) C (c_X3_arcBy hfl E (rW σ 322 (qDrift U S i).1 (qDrift U S i).2) 322 (qDrift U S i).1 (qDrift U S i).2 f (f * 1296000) rfl (by decide) (rW_R _ _ _ _) (by omega) (by omega) (by omega)) mX3_arcBy kX10_214 (by decide : kd 322 = 3) rfl rfl rfl ⟨rfl, rfl⟩ (show zfit (zrm 1 21) 14 (zrm 5 126) = true from rfl) (Nat.le_of_ble_eq_true rfl) dX10_firstBeyond_53 ⟨Nat.zero_le _, Nat.zero_le _⟩ ?_
    refine zv_eql (y := (zL (qErr U S i (U.s0 + (j : Int))))) (by rw [hF]; rfl) ?_
    refine zv_cslD (st := []) C (c_J9_abs_067f4 hfl E (rW σ 322 (qDrift U S i).1 (qDrift U S i).2) (qErr U S i (U.s0 + (j : Int))) (by omega)) mJ9_abs_067f4 kX10_239 rfl ⟨rfl, rfl⟩ (show zfit (zrm 0 0) 2 (zrm 5 126) = true from rfl) (Nat.le_of_ble_eq_true rfl) dX10_firstBeyond_56 ⟨Nat.zero_le _, Nat.zero_le _⟩ ?_
    refine zv_iload_n C 1 dX10_firstBeyond_59 rfl rfl ?_
    refine zv_i2lZ C (by omega) dX10_firstBeyond_60 ?_
    refine zv_lc_leZ (tgt := 68) C (by omega) (by omega) dX10_firstBeyond_61 dX10_firstBeyond_62 (by decide) (fun h61 => ?_) (fun h61 => ?_)
    · skip
      refine zv_iinc (v := (zI (U.s0 + (j : Int) + 1))) (lv' := [(4, .int (zI (U.s0 + (j : Int) + 1))), (0, .ref (ob E 0)), (2, .int (zI lim)), (3, .ref (ob E 322))]) C 3 dX10_firstBeyond_68 rfl (zI_add _ _) (by decide) rfl ?_
      refine zv_goto (tgt := 27) C dX10_firstBeyond_71 (by decide) ?_
      have q27_57 : (U.s0 + (j : Int) + 1 : Int) = U.s0 + ((j + 1 : Nat) : Int) := by first | rfl | omega
      refine zv_sub (lv' := [(0, .ref (ob E 0)), (2, .int (zI lim)), (3, .ref (ob E 322)), (4, .int (zI (U.s0 + ((j + 1 : Nat) : Int))))]) [1, 2, 3, 0] (zcons rfl (zcons rfl (zcons rfl (zcons (zqI q27_57) rfl)))) ?_
      exact ih (j + 1) (⟨by omega, fi_s hI2 (by simp only [dFb, decide_eq_true_eq]; omega)⟩) (by omega)
    · skip
      refine zv_iload C 3 dX10_firstBeyond_65 rfl ?_
      exact zv_iret C hr rfl dX10_firstBeyond_67 ⟨by rw [dFbR, fi_of hI2 (by simp only [dFb, decide_eq_true_eq]; omega) 1000 (by omega), if_neg (by omega)], rfl⟩
set_option maxRecDepth 20000 in
theorem x1_X10_firstBeyond {l : Launch} (hfl : l.stackTraces = false) (E : zE) (σ : zS) (U : zSU) (b : Int) (y : Int) (hU : zSUp σ 29 U) (hbi : -2147483648 ≤ b ∧ b < 2147483648) (hno : ¬ (0 ≤ b ∧ b < U.nb)) : zRx l E yX10_firstBeyond cX10_firstBeyond 5 (some .int) (zrx 9 200) [.ref (ob E 0), .int (zI b), .int (zI y)] σ "java/lang/IndexOutOfBoundsException" := by
  refine vx_ofW (cc := cX10_firstBeyond) (maxL := 5) (ret := (some .int)) (by decide) rfl ?_
  intro p e s m args below meth c s₁ B hml hout hv
  obtain ⟨rfl, hd⟩ := hv
  have C := zX_of (own := RX10) hfl B hml rfl hd rfl
  have hr := B.returns
  refine zV_go hd (Nat.le_of_ble_eq_true rfl) (lv := [(0, .ref (ob E 0)), (1, .int (zI b)), (2, .int (zI y))]) rfl ?_
  have hnb : U.nb ≤ 8 := hU.2.2.1
  have hs0 := hU.2.2.2.1
  
  refine zv_aload_n C 0 dX10_firstBeyond_0 rfl rfl ?_
  refine zv_iload_n C 1 dX10_firstBeyond_1 rfl rfl ?_
  exact zv_xcv (st := []) C (x_X10_needBody hfl E σ U b hU hbi hno) hout mX10_needBody kX10_140 (by decide : kd 0 = 9) rfl rfl rfl ⟨rfl, rfl⟩ (show zfit (zrx 6 100) 2 (zrx 9 200) = true from rfl) (Nat.le_of_ble_eq_true rfl) dX10_firstBeyond_2
set_option maxRecDepth 20000 in
theorem x2_X10_firstBeyond {l : Launch} (hfl : l.stackTraces = false) (E : zE) (σ : zS) (U : zSU) (S : zST) (i : Nat) (y : Int) (hU : zSUp σ 29 U) (hi : i < U.nb) (hyi : -2147483648 ≤ y ∧ y < 2147483648) (hno : ¬ (0 ≤ y ∧ y ≤ 1000000000)) : zRx l E yX10_firstBeyond cX10_firstBeyond 5 (some .int) (zrx 9 200) [.ref (ob E 0), .int (zI (i : Int)), .int (zI y)] σ "java/lang/IllegalArgumentException" := by
  refine vx_ofW (cc := cX10_firstBeyond) (maxL := 5) (ret := (some .int)) (by decide) rfl ?_
  intro p e s m args below meth c s₁ B hml hout hv
  obtain ⟨rfl, hd⟩ := hv
  have C := zX_of (own := RX10) hfl B hml rfl hd rfl
  have hr := B.returns
  refine zV_go hd (Nat.le_of_ble_eq_true rfl) (lv := [(0, .ref (ob E 0)), (1, .int (zI (i : Int))), (2, .int (zI y))]) rfl ?_
  have hnb : U.nb ≤ 8 := hU.2.2.1
  have hs0 := hU.2.2.2.1
  
  refine zv_aload_n C 0 dX10_firstBeyond_0 rfl rfl ?_
  refine zv_iload_n C 1 dX10_firstBeyond_1 rfl rfl ?_
  refine zv_cvvD (st := []) C (c_X10_needBody hfl E σ U (i : Int) hU (by omega) (by omega)) mX10_needBody kX10_140 (by decide : kd 0 = 9) rfl rfl rfl ⟨rfl, rfl⟩ (show zfit (zrm 0 0) 2 (zrx 9 200) = true from rfl) (Nat.le_of_ble_eq_true rfl) dX10_firstBeyond_2 ⟨Nat.zero_le _, Nat.zero_le _⟩ ?_
  refine zv_iload_n C 2 dX10_firstBeyond_5 rfl rfl ?_
  refine zv_iconst (v := zI 0) C dX10_firstBeyond_6 rfl ?_
  refine zv_ldc C kX10_238 dX10_firstBeyond_7 ?_
  refine zv_eqi (y := zI 1000000000) (by decide) ?_
  exact zv_xcs (st := []) C (x_X10_needWithin hfl E σ y 0 1000000000 hyi (by omega) (by omega) hno) hout mX10_needWithin kX10_117 rfl ⟨rfl, rfl⟩ (show zfit (zrx 6 100) 3 (zrx 9 200) = true from rfl) (Nat.le_of_ble_eq_true rfl) dX10_firstBeyond_9
def dGr (U : zSU) (S : zST) (i : Nat) (a : Int) : Nat → Int
  | 0 => 0
  | j + 1 => max (dGr U S i a j) ((qErr U S i (a + (j : Int) + 1) - qErr U S i (a + (j : Int))).natAbs : Int)
theorem dGr_b {σ σ' : zS} {k k' : Nat} {U : zSU} {S : zST} (h : zSUp σ k U) (hS : zSTp σ' k' S) {i : Nat} (hi : i < U.nb) {a : Int} (ha : U.s0 ≤ a) : ∀ j : Nat, a + j ≤ U.s0 + 999 → 0 ≤ dGr U S i a j ∧ dGr U S i a j ≤ 103685184000000000 := by
  intro j
  induction j with
  | zero => intro _; exact ⟨Int.le_refl _, by show (0 : Int) ≤ _; omega⟩
  | succ j ih =>
    intro hj
    have h1 := ih (by omega)
    have h2 := qErr_b h hS hi (y := a + (j : Int) + 1) (by omega)
    have h3 := qErr_b h hS hi (y := a + (j : Int)) (by omega)
    simp only [dGr]
    omega
set_option maxRecDepth 20000 in
theorem c_X10_growth {l : Launch} (hfl : l.stackTraces = false) (E : zE) (σ : zS) (U : zSU) (S : zST) (i : Nat) (a b : Int) (hU : zSUp σ 29 U) (hS : zSTp σ 34 S) (hi : i < U.nb) (ha : U.s0 ≤ a ∧ a ≤ U.s0 + 999) (hb : U.s0 ≤ b ∧ b ≤ U.s0 + 999) (hlt : a < b) : zRl l E yX10_growth cX10_growth 12 (zrm 5 126) [.ref (ob E 0), .int (zI (i : Int)), .int (zI a), .int (zI b)] σ (fun r τ => r = zL (dGr U S i a (b - a).toNat) ∧ τ = (rW σ 322 (qDrift U S i).1 (qDrift U S i).2)) := by
  refine Met.ofW (cc := cX10_growth) (maxL := 12) (ret := (some .long)) (by decide +kernel) rfl ?_
  intro p e s m args below meth c s₁ B hml hv
  obtain ⟨rfl, hd⟩ := hv
  have C := zX_of (own := RX10) hfl B hml rfl hd rfl
  have hr := B.returns
  refine zV_go hd (Nat.le_of_ble_eq_true rfl) (lv := [(0, .ref (ob E 0)), (1, .int (zI (i : Int))), (2, .int (zI a)), (3, .int (zI b))]) rfl ?_
  have hnb : U.nb ≤ 8 := hU.2.2.1
  have hs0 := hU.2.2.2.1
  have hdb := qDrift_b hU hS hi
  have hU2 : zSUp (rW σ 322 (qDrift U S i).1 (qDrift U S i).2) 29 U := zSUp_rW hU (by decide)
  have hye0 := yEnd_in hs0 (y := a) (by omega)
  obtain ⟨f0, hf0⟩ : ∃ f : Nat, yEnd U.s0 (a) = (f : Int) := ⟨(yEnd U.s0 (a)).toNat, by omega⟩
  have hF0 := zF_e hf0
  have hqb0 := qErr_b hU hS hi (y := a) (by omega)
  have hab : (((b - a).toNat : Nat) : Int) = b - a := by omega
  refine zv_aload_n C 0 dX10_growth_0 rfl rfl ?_
  refine zv_iload_n C 1 dX10_growth_1 rfl rfl ?_
  refine zv_cvvD (st := []) C (c_X10_needBody hfl E σ U (i : Int) hU (by omega) (by omega)) mX10_needBody kX10_140 (by decide : kd 0 = 9) rfl rfl rfl ⟨rfl, rfl⟩ (show zfit (zrm 0 0) 2 (zrm 5 126) = true from rfl) (Nat.le_of_ble_eq_true rfl) dX10_growth_2 ⟨Nat.zero_le _, Nat.zero_le _⟩ ?_
  refine zv_aload_n C 0 dX10_growth_5 rfl rfl ?_
  refine zv_iload_n C 2 dX10_growth_6 rfl rfl ?_
  refine zv_iload_n C 3 dX10_growth_7 rfl rfl ?_
  refine zv_cvvD (st := []) C (c_X10_needYears hfl E σ U a b hU (by omega) (by omega) ha hb (by omega)) mX10_needYears kX10_203 (by decide : kd 0 = 9) rfl rfl rfl ⟨rfl, rfl⟩ (show zfit (zrm 2 43) 3 (zrm 5 126) = true from rfl) (Nat.le_of_ble_eq_true rfl) dX10_growth_8 ⟨Nat.zero_le _, Nat.zero_le _⟩ ?_
  refine zv_iload_n C 2 dX10_growth_11 rfl rfl ?_
  refine zv_iload_n C 3 dX10_growth_12 rfl rfl ?_
  refine zv_icmp_neZ (tgt := 26) C (by omega) (by omega) dX10_growth_13 (by decide) (fun h13 => ?_) (fun h13 => ?_)
  · skip
    refine zv_aload_n C 0 dX10_growth_26 rfl rfl ?_
    refine zv_iload_n C 1 dX10_growth_27 rfl rfl ?_
    refine zv_cvrD (st := []) C (c_X10_driftOf hfl E σ U S i hU hS hi) mX10_driftOf kX10_210 (by decide : kd 0 = 9) rfl rfl rfl ⟨rfl, rfl⟩ (show zfit (zrm 4 105) 2 (zrm 5 126) = true from rfl) (Nat.le_of_ble_eq_true rfl) dX10_growth_28 ⟨Nat.zero_le _, Nat.zero_le _⟩ ?_
    refine zv_astore (lv' := [(4, .ref (ob E 322)), (0, .ref (ob E 0)), (1, .int (zI (i : Int))), (2, .int (zI a)), (3, .int (zI b))]) C dX10_growth_31  (by decide) rfl ?_
    refine zv_lconst (v := zL 0) C dX10_growth_33 (by decide) ?_
    refine zv_lstore (lv' := [(5, .long (zL 0)), (4, .ref (ob E 322)), (0, .ref (ob E 0)), (1, .int (zI (i : Int))), (2, .int (zI a)), (3, .int (zI b))]) C dX10_growth_34  (by decide) rfl ?_
    refine zv_aload C 1 dX10_growth_36 rfl ?_
    refine zv_aload_n C 2 dX10_growth_38 rfl rfl ?_
    refine zG9_1 C (by decide : kd 0 = _) kX10_19 dX10_growth_39 ?_
    refine zv_iload_n C 4 dX10_growth_42 rfl rfl ?_
    refine zv_cviD (st := [.ref (ob E 322)]) C (c_X4_endDay hfl E (rW σ 322 (qDrift U S i).1 (qDrift U S i).2) 29 U.s0 U.nb U.nm U.pe U.re U.ca (a) (by decide) hU2 (by omega)) mX4_endDay kX10_195 (by decide : kd 29 = 4) rfl rfl rfl ⟨rfl, rfl⟩ (show zfit (zrm 1 20) 2 (zrm 5 126) = true from rfl) (Nat.le_of_ble_eq_true rfl) dX10_growth_43 ⟨Nat.zero_le _, Nat.zero_le _⟩ ?_
    refine zv_eqi (y := (zI (f0 : Int))) (by rw [hf0]) ?_
    refine zv_cvlD (st := []) C (c_X3_arcBy hfl E (rW σ 322 (qDrift U S i).1 (qDrift U S i).2) 322 (qDrift U S i).1 (qDrift U S i).2 f0 (f0 * 1296000) rfl (by decide) (rW_R _ _ _ _) (by omega) (by omega) (by omega)) mX3_arcBy kX10_214 (by decide : kd 322 = 3) rfl rfl rfl ⟨rfl, rfl⟩ (show zfit (zrm 1 21) 14 (zrm 5 126) = true from rfl) (Nat.le_of_ble_eq_true rfl) dX10_growth_46 ⟨Nat.zero_le _, Nat.zero_le _⟩ ?_
    refine zv_eql (y := (zL (qErr U S i (a)))) (by rw [hF0]; rfl) ?_
    refine zv_lstore (lv' := [(7, .long (zL (qErr U S i (a)))), (5, .long (zL 0)), (4, .ref (ob E 322)), (0, .ref (ob E 0)), (1, .int (zI (i : Int))), (2, .int (zI a)), (3, .int (zI b))]) C dX10_growth_49  (by decide) rfl ?_
    refine zv_iload_n C 5 dX10_growth_51 rfl rfl ?_
    refine zv_iconst (v := zI 1) C dX10_growth_52 rfl ?_
    refine zv_iaddZ C dX10_growth_53 ?_
    refine zv_istore (lv' := [(9, .int (zI (a + 1))), (7, .long (zL (qErr U S i (a)))), (5, .long (zL 0)), (4, .ref (ob E 322)), (0, .ref (ob E 0)), (1, .int (zI (i : Int))), (2, .int (zI a)), (3, .int (zI b))]) C dX10_growth_54  (by decide) rfl ?_
    have q56_39 : (a + 1 : Int) = a + (0 : Int) + 1 := by first | rfl | omega
    have q56_40 : (qErr U S i (a) : Int) = qErr U S i (a + (0 : Int)) := by rw [Int.add_zero]
    have q56_41 : (0 : Int) = dGr U S i a 0 := by first | rfl | omega
    refine zv_sub (lv' := [(0, .ref (ob E 0)), (3, .int (zI b)), (4, .ref (ob E 322)), (5, .long (zL (dGr U S i a 0))), (7, .long (zL (qErr U S i (a + (0 : Int))))), (9, .int (zI (a + (0 : Int) + 1)))]) [4, 7, 3, 2, 1, 0] (zcons rfl (zcons rfl (zcons rfl (zcons (zqL q56_41) (zcons (zqL q56_40) (zcons (zqI q56_39) rfl)))))) ?_
    refine zv_while (α := Nat) (fun v => (b - a).toNat - v) (fun v => v ≤ (b - a).toNat) (fun v => (rW σ 322 (qDrift U S i).1 (qDrift U S i).2)) (fun v => [(0, .ref (ob E 0)), (3, .int (zI b)), (4, .ref (ob E 322)), (5, .long (zL (dGr U S i a v))), (7, .long (zL (qErr U S i (a + (v : Int))))), (9, .int (zI (a + (v : Int) + 1)))]) (fun v => []) (fun j hI ih => ?_) (0) (by omega)
    have hgb := dGr_b hU hS hi ha.1 j (by omega)
    have hqa := qErr_b hU hS hi (y := a + (j : Int)) (by omega)
    refine zv_iload C 5 dX10_growth_56 rfl ?_
    refine zv_iload_n C 1 dX10_growth_58 rfl rfl ?_
    refine zv_icmp_gtZ (tgt := 103) C (by omega) (by omega) dX10_growth_59 (by decide) (fun h59 => ?_) (fun h59 => ?_)
    · skip
      refine zv_lload C 3 dX10_growth_103 rfl ?_
      exact zv_lret C hr dX10_growth_105 ⟨by rw [show j = (b - a).toNat by omega], rfl⟩
    · skip
      have hye := yEnd_in hs0 (y := a + (j : Int) + 1) (by omega)
      obtain ⟨f, hf⟩ : ∃ f : Nat, yEnd U.s0 (a + (j : Int) + 1) = (f : Int) := ⟨(yEnd U.s0 (a + (j : Int) + 1)).toNat, by omega⟩
      have hF := zF_e hf
      have hqb := qErr_b hU hS hi (y := a + (j : Int) + 1) (by omega)
      refine zv_aload C 2 dX10_growth_62 rfl ?_
      refine zv_aload_n C 0 dX10_growth_64 rfl rfl ?_
      refine zG9_1 C (by decide : kd 0 = _) kX10_19 dX10_growth_65 ?_
      refine zv_iload C 5 dX10_growth_68 rfl ?_
      refine zv_cviD (st := [.ref (ob E 322)]) C (c_X4_endDay hfl E (rW σ 322 (qDrift U S i).1 (qDrift U S i).2) 29 U.s0 U.nb U.nm U.pe U.re U.ca (a + (j : Int) + 1) (by decide) hU2 (by omega)) mX4_endDay kX10_195 (by decide : kd 29 = 4) rfl rfl rfl ⟨rfl, rfl⟩ (show zfit (zrm 1 20) 2 (zrm 5 126) = true from rfl) (Nat.le_of_ble_eq_true rfl) dX10_growth_70 ⟨Nat.zero_le _, Nat.zero_le _⟩ ?_
      refine zv_eqi (y := (zI (f : Int))) (by rw [hf]) ?_
      refine zv_cvlD (st := []) C (c_X3_arcBy hfl E (rW σ 322 (qDrift U S i).1 (qDrift U S i).2) 322 (qDrift U S i).1 (qDrift U S i).2 f (f * 1296000) rfl (by decide) (rW_R _ _ _ _) (by omega) (by omega) (by omega)) mX3_arcBy kX10_214 (by decide : kd 322 = 3) rfl rfl rfl ⟨rfl, rfl⟩ (show zfit (zrm 1 21) 14 (zrm 5 126) = true from rfl) (Nat.le_of_ble_eq_true rfl) dX10_growth_73 ⟨Nat.zero_le _, Nat.zero_le _⟩ ?_
      refine zv_eql (y := (zL (qErr U S i (a + (j : Int) + 1)))) (by rw [hF]; rfl) ?_
      refine zv_lstore (lv' := [(10, .long (zL (qErr U S i (a + (j : Int) + 1)))), (0, .ref (ob E 0)), (3, .int (zI b)), (4, .ref (ob E 322)), (5, .long (zL (dGr U S i a j))), (7, .long (zL (qErr U S i (a + (j : Int))))), (9, .int (zI (a + (j : Int) + 1)))]) C dX10_growth_76  (by decide) rfl ?_
      refine zv_lload C 4 dX10_growth_78 rfl ?_
      refine zv_lload C 0 dX10_growth_80 rfl ?_
      refine zv_lload C 5 dX10_growth_82 rfl ?_
      refine zv_lsubZ C dX10_growth_84 ?_
      refine zv_cslD (st := [.long (zL (dGr U S i a j))]) C (c_J9_abs_067f4 hfl E (rW σ 322 (qDrift U S i).1 (qDrift U S i).2) ((qErr U S i (a + (j : Int) + 1)) - (qErr U S i (a + (j : Int)))) (by omega)) mJ9_abs_067f4 kX10_239 rfl ⟨rfl, rfl⟩ (show zfit (zrm 0 0) 2 (zrm 5 126) = true from rfl) (Nat.le_of_ble_eq_true rfl) dX10_growth_85 ⟨Nat.zero_le _, Nat.zero_le _⟩ ?_
      refine zv_cslD (st := []) C (c_J9_max_f86c9 hfl E (rW σ 322 (qDrift U S i).1 (qDrift U S i).2) (dGr U S i a j) ((((qErr U S i (a + (j : Int) + 1)) - (qErr U S i (a + (j : Int)))).natAbs : Int)) (by omega) (by omega)) mJ9_max_f86c9 kX10_250 rfl ⟨rfl, rfl⟩ (show zfit (zrm 0 0) 4 (zrm 5 126) = true from rfl) (Nat.le_of_ble_eq_true rfl) dX10_growth_88 ⟨Nat.zero_le _, Nat.zero_le _⟩ ?_
      refine zv_lstore (lv' := [(5, .long (zL (max (dGr U S i a j) ((((qErr U S i (a + (j : Int) + 1)) - (qErr U S i (a + (j : Int)))).natAbs : Int))))), (10, .long (zL (qErr U S i (a + (j : Int) + 1)))), (0, .ref (ob E 0)), (3, .int (zI b)), (4, .ref (ob E 322)), (7, .long (zL (qErr U S i (a + (j : Int))))), (9, .int (zI (a + (j : Int) + 1)))]) C dX10_growth_91  (by decide) rfl ?_
      refine zv_lload C 1 dX10_growth_93 rfl ?_
      refine zv_lstore (lv' := [(7, .long (zL (qErr U S i (a + (j : Int) + 1)))), (5, .long (zL (max (dGr U S i a j) ((((qErr U S i (a + (j : Int) + 1)) - (qErr U S i (a + (j : Int)))).natAbs : Int))))), (10, .long (zL (qErr U S i (a + (j : Int) + 1)))), (0, .ref (ob E 0)), (3, .int (zI b)), (4, .ref (ob E 322)), (9, .int (zI (a + (j : Int) + 1)))]) C dX10_growth_95  (by decide) rfl ?_
      refine zv_iinc (v := (zI (a + (j : Int) + 1 + 1))) (lv' := [(9, .int (zI (a + (j : Int) + 1 + 1))), (7, .long (zL (qErr U S i (a + (j : Int) + 1)))), (5, .long (zL (max (dGr U S i a j) ((((qErr U S i (a + (j : Int) + 1)) - (qErr U S i (a + (j : Int)))).natAbs : Int))))), (10, .long (zL (qErr U S i (a + (j : Int) + 1)))), (0, .ref (ob E 0)), (3, .int (zI b)), (4, .ref (ob E 322))]) C 6 dX10_growth_97 rfl (zI_add _ _) (by decide) rfl ?_
      refine zv_goto (tgt := 56) C dX10_growth_100 (by decide) ?_
      have q56_77 : (a + (j : Int) + 1 + 1 : Int) = a + ((j + 1 : Nat) : Int) + 1 := by first | rfl | omega
      have q56_78 : (qErr U S i (a + (j : Int) + 1) : Int) = qErr U S i (a + ((j + 1 : Nat) : Int)) := by rw [Int.natCast_succ, ← Int.add_assoc]
      have q56_79 : (max (dGr U S i a j) ((((qErr U S i (a + (j : Int) + 1)) - (qErr U S i (a + (j : Int)))).natAbs : Int)) : Int) = dGr U S i a (j + 1) := by rfl
      refine zv_sub (lv' := [(0, .ref (ob E 0)), (3, .int (zI b)), (4, .ref (ob E 322)), (5, .long (zL (dGr U S i a (j + 1)))), (7, .long (zL (qErr U S i (a + ((j + 1 : Nat) : Int))))), (9, .int (zI (a + ((j + 1 : Nat) : Int) + 1)))]) [4, 5, 6, 2, 1, 0] (zcons rfl (zcons rfl (zcons rfl (zcons (zqL q56_79) (zcons (zqL q56_78) (zcons (zqI q56_77) rfl)))))) ?_
      exact ih (j + 1) (by omega) (by omega)
  · exfalso
    omega
set_option maxRecDepth 20000 in
theorem x1_X10_growth {l : Launch} (hfl : l.stackTraces = false) (E : zE) (σ : zS) (U : zSU) (b : Int) (y : Int) (z : Int) (hU : zSUp σ 29 U) (hbi : -2147483648 ≤ b ∧ b < 2147483648) (hno : ¬ (0 ≤ b ∧ b < U.nb)) : zRx l E yX10_growth cX10_growth 12 (some .long) (zrx 11 260) [.ref (ob E 0), .int (zI b), .int (zI y), .int (zI z)] σ "java/lang/IndexOutOfBoundsException" := by
  refine vx_ofW (cc := cX10_growth) (maxL := 12) (ret := (some .long)) (by decide) rfl ?_
  intro p e s m args below meth c s₁ B hml hout hv
  obtain ⟨rfl, hd⟩ := hv
  have C := zX_of (own := RX10) hfl B hml rfl hd rfl
  have hr := B.returns
  refine zV_go hd (Nat.le_of_ble_eq_true rfl) (lv := [(0, .ref (ob E 0)), (1, .int (zI b)), (2, .int (zI y)), (3, .int (zI z))]) rfl ?_
  have hnb : U.nb ≤ 8 := hU.2.2.1
  have hs0 := hU.2.2.2.1
  
  refine zv_aload_n C 0 dX10_growth_0 rfl rfl ?_
  refine zv_iload_n C 1 dX10_growth_1 rfl rfl ?_
  exact zv_xcv (st := []) C (x_X10_needBody hfl E σ U b hU hbi hno) hout mX10_needBody kX10_140 (by decide : kd 0 = 9) rfl rfl rfl ⟨rfl, rfl⟩ (show zfit (zrx 6 100) 2 (zrx 11 260) = true from rfl) (Nat.le_of_ble_eq_true rfl) dX10_growth_2
set_option maxRecDepth 20000 in
theorem x2_X10_growth {l : Launch} (hfl : l.stackTraces = false) (E : zE) (σ : zS) (U : zSU) (i : Nat) (y z : Int) (hU : zSUp σ 29 U) (hi : i < U.nb) (hyi : -2147483648 ≤ y ∧ y < 2147483648) (hzi : -2147483648 ≤ z ∧ z < 2147483648) (hno : ¬ (U.s0 ≤ y ∧ y ≤ U.s0 + 999)) : zRx l E yX10_growth cX10_growth 12 (some .long) (zrx 11 260) [.ref (ob E 0), .int (zI (i : Int)), .int (zI y), .int (zI z)] σ "java/lang/IllegalArgumentException" := by
  refine vx_ofW (cc := cX10_growth) (maxL := 12) (ret := (some .long)) (by decide) rfl ?_
  intro p e s m args below meth c s₁ B hml hout hv
  obtain ⟨rfl, hd⟩ := hv
  have C := zX_of (own := RX10) hfl B hml rfl hd rfl
  have hr := B.returns
  refine zV_go hd (Nat.le_of_ble_eq_true rfl) (lv := [(0, .ref (ob E 0)), (1, .int (zI (i : Int))), (2, .int (zI y)), (3, .int (zI z))]) rfl ?_
  have hnb : U.nb ≤ 8 := hU.2.2.1
  have hs0 := hU.2.2.2.1
  
  refine zv_aload_n C 0 dX10_growth_0 rfl rfl ?_
  refine zv_iload_n C 1 dX10_growth_1 rfl rfl ?_
  refine zv_cvvD (st := []) C (c_X10_needBody hfl E σ U (i : Int) hU (by omega) (by omega)) mX10_needBody kX10_140 (by decide : kd 0 = 9) rfl rfl rfl ⟨rfl, rfl⟩ (show zfit (zrm 0 0) 2 (zrx 11 260) = true from rfl) (Nat.le_of_ble_eq_true rfl) dX10_growth_2 ⟨Nat.zero_le _, Nat.zero_le _⟩ ?_
  refine zv_aload_n C 0 dX10_growth_5 rfl rfl ?_
  refine zv_iload_n C 2 dX10_growth_6 rfl rfl ?_
  refine zv_iload_n C 3 dX10_growth_7 rfl rfl ?_
  exact zv_xcv (st := []) C (x1_X10_needYears hfl E σ U y z hU hyi hzi hno) hout mX10_needYears kX10_203 (by decide : kd 0 = 9) rfl rfl rfl ⟨rfl, rfl⟩ (show zfit (zrx 10 220) 3 (zrx 11 260) = true from rfl) (Nat.le_of_ble_eq_true rfl) dX10_growth_8
set_option maxRecDepth 20000 in
theorem x3_X10_growth {l : Launch} (hfl : l.stackTraces = false) (E : zE) (σ : zS) (U : zSU) (i : Nat) (y z : Int) (hU : zSUp σ 29 U) (hi : i < U.nb) (hyi : -2147483648 ≤ y ∧ y < 2147483648) (hzi : -2147483648 ≤ z ∧ z < 2147483648) (hy : U.s0 ≤ y ∧ y ≤ U.s0 + 999) (hno : ¬ (U.s0 ≤ z ∧ z ≤ U.s0 + 999)) : zRx l E yX10_growth cX10_growth 12 (some .long) (zrx 11 260) [.ref (ob E 0), .int (zI (i : Int)), .int (zI y), .int (zI z)] σ "java/lang/IllegalArgumentException" := by
  refine vx_ofW (cc := cX10_growth) (maxL := 12) (ret := (some .long)) (by decide) rfl ?_
  intro p e s m args below meth c s₁ B hml hout hv
  obtain ⟨rfl, hd⟩ := hv
  have C := zX_of (own := RX10) hfl B hml rfl hd rfl
  have hr := B.returns
  refine zV_go hd (Nat.le_of_ble_eq_true rfl) (lv := [(0, .ref (ob E 0)), (1, .int (zI (i : Int))), (2, .int (zI y)), (3, .int (zI z))]) rfl ?_
  have hnb : U.nb ≤ 8 := hU.2.2.1
  have hs0 := hU.2.2.2.1
  
  refine zv_aload_n C 0 dX10_growth_0 rfl rfl ?_
  refine zv_iload_n C 1 dX10_growth_1 rfl rfl ?_
  refine zv_cvvD (st := []) C (c_X10_needBody hfl E σ U (i : Int) hU (by omega) (by omega)) mX10_needBody kX10_140 (by decide : kd 0 = 9) rfl rfl rfl ⟨rfl, rfl⟩ (show zfit (zrm 0 0) 2 (zrx 11 260) = true from rfl) (Nat.le_of_ble_eq_true rfl) dX10_growth_2 ⟨Nat.zero_le _, Nat.zero_le _⟩ ?_
  refine zv_aload_n C 0 dX10_growth_5 rfl rfl ?_
  refine zv_iload_n C 2 dX10_growth_6 rfl rfl ?_
  refine zv_iload_n C 3 dX10_growth_7 rfl rfl ?_
  exact zv_xcv (st := []) C (x2_X10_needYears hfl E σ U y z hU hyi hzi hy hno) hout mX10_needYears kX10_203 (by decide : kd 0 = 9) rfl rfl rfl ⟨rfl, rfl⟩ (show zfit (zrx 10 220) 3 (zrx 11 260) = true from rfl) (Nat.le_of_ble_eq_true rfl) dX10_growth_8
set_option maxRecDepth 20000 in
theorem x4_X10_growth {l : Launch} (hfl : l.stackTraces = false) (E : zE) (σ : zS) (U : zSU) (i : Nat) (y z : Int) (hU : zSUp σ 29 U) (hi : i < U.nb) (hyi : -2147483648 ≤ y ∧ y < 2147483648) (hzi : -2147483648 ≤ z ∧ z < 2147483648) (hy : U.s0 ≤ y ∧ y ≤ U.s0 + 999) (hz : U.s0 ≤ z ∧ z ≤ U.s0 + 999) (hno : z < y) : zRx l E yX10_growth cX10_growth 12 (some .long) (zrx 11 260) [.ref (ob E 0), .int (zI (i : Int)), .int (zI y), .int (zI z)] σ "java/lang/IllegalArgumentException" := by
  refine vx_ofW (cc := cX10_growth) (maxL := 12) (ret := (some .long)) (by decide) rfl ?_
  intro p e s m args below meth c s₁ B hml hout hv
  obtain ⟨rfl, hd⟩ := hv
  have C := zX_of (own := RX10) hfl B hml rfl hd rfl
  have hr := B.returns
  refine zV_go hd (Nat.le_of_ble_eq_true rfl) (lv := [(0, .ref (ob E 0)), (1, .int (zI (i : Int))), (2, .int (zI y)), (3, .int (zI z))]) rfl ?_
  have hnb : U.nb ≤ 8 := hU.2.2.1
  have hs0 := hU.2.2.2.1
  
  refine zv_aload_n C 0 dX10_growth_0 rfl rfl ?_
  refine zv_iload_n C 1 dX10_growth_1 rfl rfl ?_
  refine zv_cvvD (st := []) C (c_X10_needBody hfl E σ U (i : Int) hU (by omega) (by omega)) mX10_needBody kX10_140 (by decide : kd 0 = 9) rfl rfl rfl ⟨rfl, rfl⟩ (show zfit (zrm 0 0) 2 (zrx 11 260) = true from rfl) (Nat.le_of_ble_eq_true rfl) dX10_growth_2 ⟨Nat.zero_le _, Nat.zero_le _⟩ ?_
  refine zv_aload_n C 0 dX10_growth_5 rfl rfl ?_
  refine zv_iload_n C 2 dX10_growth_6 rfl rfl ?_
  refine zv_iload_n C 3 dX10_growth_7 rfl rfl ?_
  exact zv_xcv (st := []) C (x3_X10_needYears hfl E σ U y z hU hyi hzi hy hz hno) hout mX10_needYears kX10_203 (by decide : kd 0 = 9) rfl rfl rfl ⟨rfl, rfl⟩ (show zfit (zrx 10 220) 3 (zrx 11 260) = true from rfl) (Nat.le_of_ble_eq_true rfl) dX10_growth_8
set_option maxRecDepth 20000 in
theorem x5_X10_growth {l : Launch} (hfl : l.stackTraces = false) (E : zE) (σ : zS) (U : zSU) (i : Nat) (y : Int) (hU : zSUp σ 29 U) (hi : i < U.nb) (hyi : -2147483648 ≤ y ∧ y < 2147483648) (hy : U.s0 ≤ y ∧ y ≤ U.s0 + 999) : zRx l E yX10_growth cX10_growth 12 (some .long) (zrx 11 260) [.ref (ob E 0), .int (zI (i : Int)), .int (zI y), .int (zI y)] σ "java/lang/IllegalArgumentException" := by
  refine vx_ofW (cc := cX10_growth) (maxL := 12) (ret := (some .long)) (by decide) rfl ?_
  intro p e s m args below meth c s₁ B hml hout hv
  obtain ⟨rfl, hd⟩ := hv
  have C := zX_of (own := RX10) hfl B hml rfl hd rfl
  have hr := B.returns
  refine zV_go hd (Nat.le_of_ble_eq_true rfl) (lv := [(0, .ref (ob E 0)), (1, .int (zI (i : Int))), (2, .int (zI y)), (3, .int (zI y))]) rfl ?_
  have hnb : U.nb ≤ 8 := hU.2.2.1
  have hs0 := hU.2.2.2.1
  
  refine zv_aload_n C 0 dX10_growth_0 rfl rfl ?_
  refine zv_iload_n C 1 dX10_growth_1 rfl rfl ?_
  refine zv_cvvD (st := []) C (c_X10_needBody hfl E σ U (i : Int) hU (by omega) (by omega)) mX10_needBody kX10_140 (by decide : kd 0 = 9) rfl rfl rfl ⟨rfl, rfl⟩ (show zfit (zrm 0 0) 2 (zrx 11 260) = true from rfl) (Nat.le_of_ble_eq_true rfl) dX10_growth_2 ⟨Nat.zero_le _, Nat.zero_le _⟩ ?_
  refine zv_aload_n C 0 dX10_growth_5 rfl rfl ?_
  refine zv_iload_n C 2 dX10_growth_6 rfl rfl ?_
  refine zv_iload_n C 3 dX10_growth_7 rfl rfl ?_
  refine zv_cvvD (st := []) C (c_X10_needYears hfl E σ U y y hU hyi hyi hy hy (by omega)) mX10_needYears kX10_203 (by decide : kd 0 = 9) rfl rfl rfl ⟨rfl, rfl⟩ (show zfit (zrm 2 43) 3 (zrx 11 260) = true from rfl) (Nat.le_of_ble_eq_true rfl) dX10_growth_8 ⟨Nat.zero_le _, Nat.zero_le _⟩ ?_
  refine zv_iload_n C 2 dX10_growth_11 rfl rfl ?_
  refine zv_iload_n C 3 dX10_growth_12 rfl rfl ?_
  refine zv_icmp_neZ (tgt := 26) C (by omega) (by omega) dX10_growth_13 (by decide) (fun h13 => ?_) (fun h13 => ?_)
  · exfalso
    omega
  · skip
    exact zv_throwS (text := "a later year is needed") C hout rfl kX10_245 zini_IllegalArgumentException (by decide) (by decide) (by decide) zat_IllegalArgumentException zot_IllegalArgumentException dX10_growth_16 dX10_growth_19 dX10_growth_20 dX10_growth_22 dX10_growth_25 (by decide) (by decide) ⟨by decide, by decide⟩
def dWy (U : zSU) (S : zST) (i : Nat) (a : Int) : Nat → Int × Int
  | 0 => (a, -1)
  | j + 1 => if (dWy U S i a j).2 < ((qErr U S i (a + (j : Int))).natAbs : Int) then (a + (j : Int), ((qErr U S i (a + (j : Int))).natAbs : Int)) else dWy U S i a j
theorem dWy_b {σ σ' : zS} {k k' : Nat} {U : zSU} {S : zST} (h : zSUp σ k U) (hS : zSTp σ' k' S) {i : Nat} (hi : i < U.nb) {a : Int} (ha : U.s0 ≤ a) : ∀ j : Nat, a + j ≤ U.s0 + 1000 → -1 ≤ (dWy U S i a j).2 ∧ (dWy U S i a j).2 ≤ 51842592000000000 := by
  intro j
  induction j with
  | zero => intro _; exact ⟨Int.le_refl _, by show (-1 : Int) ≤ _; omega⟩
  | succ j ih =>
    intro hj
    have h1 := ih (by omega)
    have h3 := qErr_b h hS hi (y := a + (j : Int)) (by omega)
    simp only [dWy]
    split
    · show -1 ≤ ((qErr U S i (a + (j : Int))).natAbs : Int) ∧ ((qErr U S i (a + (j : Int))).natAbs : Int) ≤ 51842592000000000
      omega
    · exact h1
set_option maxRecDepth 20000 in
theorem c_X10_worstYear {l : Launch} (hfl : l.stackTraces = false) (E : zE) (σ : zS) (U : zSU) (S : zST) (i : Nat) (a b : Int) (hU : zSUp σ 29 U) (hS : zSTp σ 34 S) (hi : i < U.nb) (ha : U.s0 ≤ a ∧ a ≤ U.s0 + 999) (hb : U.s0 ≤ b ∧ b ≤ U.s0 + 999) (hle : a ≤ b) : zRi l E yX10_worstYear cX10_worstYear 11 .int (zrm 5 126) [.ref (ob E 0), .int (zI (i : Int)), .int (zI a), .int (zI b)] σ (fun r τ => r = zI (dWy U S i a ((b - a).toNat + 1)).1 ∧ τ = (rW σ 322 (qDrift U S i).1 (qDrift U S i).2)) := by
  refine Met.ofW (cc := cX10_worstYear) (maxL := 11) (ret := (some .int)) (by decide +kernel) rfl ?_
  intro p e s m args below meth c s₁ B hml hv
  obtain ⟨rfl, hd⟩ := hv
  have C := zX_of (own := RX10) hfl B hml rfl hd rfl
  have hr := B.returns
  refine zV_go hd (Nat.le_of_ble_eq_true rfl) (lv := [(0, .ref (ob E 0)), (1, .int (zI (i : Int))), (2, .int (zI a)), (3, .int (zI b))]) rfl ?_
  have hnb : U.nb ≤ 8 := hU.2.2.1
  have hs0 := hU.2.2.2.1
  have hdb := qDrift_b hU hS hi
  have hU2 : zSUp (rW σ 322 (qDrift U S i).1 (qDrift U S i).2) 29 U := zSUp_rW hU (by decide)
  have hab : (((b - a).toNat : Nat) : Int) = b - a := by omega
  refine zv_aload_n C 0 dX10_worstYear_0 rfl rfl ?_
  refine zv_iload_n C 1 dX10_worstYear_1 rfl rfl ?_
  refine zv_cvvD (st := []) C (c_X10_needBody hfl E σ U (i : Int) hU (by omega) (by omega)) mX10_needBody kX10_140 (by decide : kd 0 = 9) rfl rfl rfl ⟨rfl, rfl⟩ (show zfit (zrm 0 0) 2 (zrm 5 126) = true from rfl) (Nat.le_of_ble_eq_true rfl) dX10_worstYear_2 ⟨Nat.zero_le _, Nat.zero_le _⟩ ?_
  refine zv_aload_n C 0 dX10_worstYear_5 rfl rfl ?_
  refine zv_iload_n C 2 dX10_worstYear_6 rfl rfl ?_
  refine zv_iload_n C 3 dX10_worstYear_7 rfl rfl ?_
  refine zv_cvvD (st := []) C (c_X10_needYears hfl E σ U a b hU (by omega) (by omega) ha hb hle) mX10_needYears kX10_203 (by decide : kd 0 = 9) rfl rfl rfl ⟨rfl, rfl⟩ (show zfit (zrm 2 43) 3 (zrm 5 126) = true from rfl) (Nat.le_of_ble_eq_true rfl) dX10_worstYear_8 ⟨Nat.zero_le _, Nat.zero_le _⟩ ?_
  refine zv_aload_n C 0 dX10_worstYear_11 rfl rfl ?_
  refine zv_iload_n C 1 dX10_worstYear_12 rfl rfl ?_
  refine zv_cvrD (st := []) C (c_X10_driftOf hfl E σ U S i hU hS hi) mX10_driftOf kX10_210 (by decide : kd 0 = 9) rfl rfl rfl ⟨rfl, rfl⟩ (show zfit (zrm 4 105) 2 (zrm 5 126) = true from rfl) (Nat.le_of_ble_eq_true rfl) dX10_worstYear_13 ⟨Nat.zero_le _, Nat.zero_le _⟩ ?_
  refine zv_astore (lv' := [(4, .ref (ob E 322)), (0, .ref (ob E 0)), (1, .int (zI (i : Int))), (2, .int (zI a)), (3, .int (zI b))]) C dX10_worstYear_16  (by decide) rfl ?_
  refine zv_iload_n C 3 dX10_worstYear_18 rfl rfl ?_
  refine zv_istore (lv' := [(5, .int (zI a)), (4, .ref (ob E 322)), (0, .ref (ob E 0)), (1, .int (zI (i : Int))), (2, .int (zI a)), (3, .int (zI b))]) C dX10_worstYear_19  (by decide) rfl ?_
  refine zv_ldc2 C kX10_228 dX10_worstYear_21 ?_
  refine zv_eql (y := zL (-1)) (by decide) ?_
  refine zv_lstore (lv' := [(6, .long (zL (-1))), (5, .int (zI a)), (4, .ref (ob E 322)), (0, .ref (ob E 0)), (1, .int (zI (i : Int))), (2, .int (zI a)), (3, .int (zI b))]) C dX10_worstYear_24  (by decide) rfl ?_
  refine zv_iload_n C 5 dX10_worstYear_26 rfl rfl ?_
  refine zv_istore (lv' := [(8, .int (zI a)), (6, .long (zL (-1))), (5, .int (zI a)), (4, .ref (ob E 322)), (0, .ref (ob E 0)), (1, .int (zI (i : Int))), (2, .int (zI a)), (3, .int (zI b))]) C dX10_worstYear_27  (by decide) rfl ?_
  have q29_23 : (a : Int) = a + (0 : Int) := by first | rfl | omega
  have q29_24 : ((-1) : Int) = (dWy U S i a 0).2 := by first | rfl | omega
  have q29_25 : (a : Int) = (dWy U S i a 0).1 := by first | rfl | omega
  refine zv_sub (lv' := [(0, .ref (ob E 0)), (3, .int (zI b)), (4, .ref (ob E 322)), (5, .int (zI ((dWy U S i a 0).1))), (6, .long (zL ((dWy U S i a 0).2))), (8, .int (zI (a + (0 : Int))))]) [4, 7, 3, 2, 1, 0] (zcons rfl (zcons rfl (zcons rfl (zcons (zqI q29_25) (zcons (zqL q29_24) (zcons (zqI q29_23) rfl)))))) ?_
  refine zv_while (α := Nat) (fun v => (b - a).toNat + 1 - v) (fun v => v ≤ (b - a).toNat + 1) (fun v => (rW σ 322 (qDrift U S i).1 (qDrift U S i).2)) (fun v => [(0, .ref (ob E 0)), (3, .int (zI b)), (4, .ref (ob E 322)), (5, .int (zI ((dWy U S i a v).1))), (6, .long (zL ((dWy U S i a v).2))), (8, .int (zI (a + (v : Int))))]) (fun v => []) (fun j hI ih => ?_) (0) (by omega)
  have hgb := dWy_b hU hS hi ha.1 j (by omega)
  refine zv_iload C 5 dX10_worstYear_29 rfl ?_
  refine zv_iload_n C 1 dX10_worstYear_31 rfl rfl ?_
  refine zv_icmp_gtZ (tgt := 76) C (by omega) (by omega) dX10_worstYear_32 (by decide) (fun h32 => ?_) (fun h32 => ?_)
  · skip
    refine zv_iload C 3 dX10_worstYear_76 rfl ?_
    exact zv_iret C hr rfl dX10_worstYear_78 ⟨by rw [show j = (b - a).toNat + 1 by omega], rfl⟩
  · skip
    have hye := yEnd_in hs0 (y := a + (j : Int)) (by omega)
    obtain ⟨f, hf⟩ : ∃ f : Nat, yEnd U.s0 (a + (j : Int)) = (f : Int) := ⟨(yEnd U.s0 (a + (j : Int))).toNat, by omega⟩
    have hF := zF_e hf
    have hqb := qErr_b hU hS hi (y := a + (j : Int)) (by omega)
    refine zv_aload C 2 dX10_worstYear_35 rfl ?_
    refine zv_aload_n C 0 dX10_worstYear_37 rfl rfl ?_
    refine zG9_1 C (by decide : kd 0 = _) kX10_19 dX10_worstYear_38 ?_
    refine zv_iload C 5 dX10_worstYear_41 rfl ?_
    refine zv_cviD (st := [.ref (ob E 322)]) C (c_X4_endDay hfl E (rW σ 322 (qDrift U S i).1 (qDrift U S i).2) 29 U.s0 U.nb U.nm U.pe U.re U.ca (a + (j : Int)) (by decide) hU2 (by omega)) mX4_endDay kX10_195 (by decide : kd 29 = 4) rfl rfl rfl ⟨rfl, rfl⟩ (show zfit (zrm 1 20) 2 (zrm 5 126) = true from rfl) (Nat.le_of_ble_eq_true rfl) dX10_worstYear_43 ⟨Nat.zero_le _, Nat.zero_le _⟩ ?_
    refine zv_eqi (y := (zI (f : Int))) (by rw [hf]) ?_
    refine zv_cvlD (st := []) C (c_X3_arcBy hfl E (rW σ 322 (qDrift U S i).1 (qDrift U S i).2) 322 (qDrift U S i).1 (qDrift U S i).2 f (f * 1296000) rfl (by decide) (rW_R _ _ _ _) (by omega) (by omega) (by omega)) mX3_arcBy kX10_214 (by decide : kd 322 = 3) rfl rfl rfl ⟨rfl, rfl⟩ (show zfit (zrm 1 21) 14 (zrm 5 126) = true from rfl) (Nat.le_of_ble_eq_true rfl) dX10_worstYear_46 ⟨Nat.zero_le _, Nat.zero_le _⟩ ?_
    refine zv_eql (y := (zL (qErr U S i (a + (j : Int))))) (by rw [hF]; rfl) ?_
    refine zv_cslD (st := []) C (c_J9_abs_067f4 hfl E (rW σ 322 (qDrift U S i).1 (qDrift U S i).2) (qErr U S i (a + (j : Int))) (by omega)) mJ9_abs_067f4 kX10_239 rfl ⟨rfl, rfl⟩ (show zfit (zrm 0 0) 2 (zrm 5 126) = true from rfl) (Nat.le_of_ble_eq_true rfl) dX10_worstYear_49 ⟨Nat.zero_le _, Nat.zero_le _⟩ ?_
    refine zv_lstore (lv' := [(9, .long (zL ((qErr U S i (a + (j : Int))).natAbs : Int))), (0, .ref (ob E 0)), (3, .int (zI b)), (4, .ref (ob E 322)), (5, .int (zI ((dWy U S i a j).1))), (6, .long (zL ((dWy U S i a j).2))), (8, .int (zI (a + (j : Int))))]) C dX10_worstYear_52  (by decide) rfl ?_
    refine zv_lload C 0 dX10_worstYear_54 rfl ?_
    refine zv_lload C 5 dX10_worstYear_56 rfl ?_
    refine zv_lc_leZ (tgt := 70) C (by omega) (by omega) dX10_worstYear_58 dX10_worstYear_59 (by decide) (fun h58 => ?_) (fun h58 => ?_)
    · skip
      refine zv_iinc (v := (zI (a + (j : Int) + 1))) (lv' := [(8, .int (zI (a + (j : Int) + 1))), (9, .long (zL ((qErr U S i (a + (j : Int))).natAbs : Int))), (0, .ref (ob E 0)), (3, .int (zI b)), (4, .ref (ob E 322)), (5, .int (zI ((dWy U S i a j).1))), (6, .long (zL ((dWy U S i a j).2)))]) C 6 dX10_worstYear_70 rfl (zI_add _ _) (by decide) rfl ?_
      refine zv_goto (tgt := 29) C dX10_worstYear_73 (by decide) ?_
      have q29_56 : (a + (j : Int) + 1 : Int) = a + ((j + 1 : Nat) : Int) := by first | rfl | omega
      have q29_57 : ((dWy U S i a j).2 : Int) = (dWy U S i a (j + 1)).2 := by simp only [dWy]; first | rw [if_pos (by omega)] | rw [if_neg (by omega)]
      have q29_58 : ((dWy U S i a j).1 : Int) = (dWy U S i a (j + 1)).1 := by simp only [dWy]; first | rw [if_pos (by omega)] | rw [if_neg (by omega)]
      refine zv_sub (lv' := [(0, .ref (ob E 0)), (3, .int (zI b)), (4, .ref (ob E 322)), (5, .int (zI ((dWy U S i a (j + 1)).1))), (6, .long (zL ((dWy U S i a (j + 1)).2))), (8, .int (zI (a + ((j + 1 : Nat) : Int))))]) [2, 3, 4, 5, 6, 0] (zcons rfl (zcons rfl (zcons rfl (zcons (zqI q29_58) (zcons (zqL q29_57) (zcons (zqI q29_56) rfl)))))) ?_
      exact ih (j + 1) (by omega) (by omega)
    · skip
      refine zv_lload C 0 dX10_worstYear_62 rfl ?_
      refine zv_lstore (lv' := [(6, .long (zL ((qErr U S i (a + (j : Int))).natAbs : Int))), (9, .long (zL ((qErr U S i (a + (j : Int))).natAbs : Int))), (0, .ref (ob E 0)), (3, .int (zI b)), (4, .ref (ob E 322)), (5, .int (zI ((dWy U S i a j).1))), (8, .int (zI (a + (j : Int))))]) C dX10_worstYear_64  (by decide) rfl ?_
      refine zv_iload C 6 dX10_worstYear_66 rfl ?_
      refine zv_istore (lv' := [(5, .int (zI (a + (j : Int)))), (6, .long (zL ((qErr U S i (a + (j : Int))).natAbs : Int))), (9, .long (zL ((qErr U S i (a + (j : Int))).natAbs : Int))), (0, .ref (ob E 0)), (3, .int (zI b)), (4, .ref (ob E 322)), (8, .int (zI (a + (j : Int))))]) C dX10_worstYear_68  (by decide) rfl ?_
      refine zv_iinc (v := (zI (a + (j : Int) + 1))) (lv' := [(8, .int (zI (a + (j : Int) + 1))), (5, .int (zI (a + (j : Int)))), (6, .long (zL ((qErr U S i (a + (j : Int))).natAbs : Int))), (9, .long (zL ((qErr U S i (a + (j : Int))).natAbs : Int))), (0, .ref (ob E 0)), (3, .int (zI b)), (4, .ref (ob E 322))]) C 6 dX10_worstYear_70 rfl (zI_add _ _) (by decide) rfl ?_
      refine zv_goto (tgt := 29) C dX10_worstYear_73 (by decide) ?_
      have q29_68 : (a + (j : Int) + 1 : Int) = a + ((j + 1 : Nat) : Int) := by first | rfl | omega
      have q29_69 : (((qErr U S i (a + (j : Int))).natAbs : Int) : Int) = (dWy U S i a (j + 1)).2 := by simp only [dWy]; first | rw [if_pos (by omega)] | rw [if_neg (by omega)]
      have q29_70 : (a + (j : Int) : Int) = (dWy U S i a (j + 1)).1 := by simp only [dWy]; first | rw [if_pos (by omega)] | rw [if_neg (by omega)]
      refine zv_sub (lv' := [(0, .ref (ob E 0)), (3, .int (zI b)), (4, .ref (ob E 322)), (5, .int (zI ((dWy U S i a (j + 1)).1))), (6, .long (zL ((dWy U S i a (j + 1)).2))), (8, .int (zI (a + ((j + 1 : Nat) : Int))))]) [4, 5, 6, 1, 2, 0] (zcons rfl (zcons rfl (zcons rfl (zcons (zqI q29_70) (zcons (zqL q29_69) (zcons (zqI q29_68) rfl)))))) ?_
      exact ih (j + 1) (by omega) (by omega)
set_option maxRecDepth 20000 in
theorem x1_X10_worstYear {l : Launch} (hfl : l.stackTraces = false) (E : zE) (σ : zS) (U : zSU) (b : Int) (y : Int) (z : Int) (hU : zSUp σ 29 U) (hbi : -2147483648 ≤ b ∧ b < 2147483648) (hno : ¬ (0 ≤ b ∧ b < U.nb)) : zRx l E yX10_worstYear cX10_worstYear 11 (some .int) (zrx 11 260) [.ref (ob E 0), .int (zI b), .int (zI y), .int (zI z)] σ "java/lang/IndexOutOfBoundsException" := by
  refine vx_ofW (cc := cX10_worstYear) (maxL := 11) (ret := (some .int)) (by decide) rfl ?_
  intro p e s m args below meth c s₁ B hml hout hv
  obtain ⟨rfl, hd⟩ := hv
  have C := zX_of (own := RX10) hfl B hml rfl hd rfl
  have hr := B.returns
  refine zV_go hd (Nat.le_of_ble_eq_true rfl) (lv := [(0, .ref (ob E 0)), (1, .int (zI b)), (2, .int (zI y)), (3, .int (zI z))]) rfl ?_
  have hnb : U.nb ≤ 8 := hU.2.2.1
  have hs0 := hU.2.2.2.1
  
  refine zv_aload_n C 0 dX10_worstYear_0 rfl rfl ?_
  refine zv_iload_n C 1 dX10_worstYear_1 rfl rfl ?_
  exact zv_xcv (st := []) C (x_X10_needBody hfl E σ U b hU hbi hno) hout mX10_needBody kX10_140 (by decide : kd 0 = 9) rfl rfl rfl ⟨rfl, rfl⟩ (show zfit (zrx 6 100) 2 (zrx 11 260) = true from rfl) (Nat.le_of_ble_eq_true rfl) dX10_worstYear_2
set_option maxRecDepth 20000 in
theorem x2_X10_worstYear {l : Launch} (hfl : l.stackTraces = false) (E : zE) (σ : zS) (U : zSU) (i : Nat) (y z : Int) (hU : zSUp σ 29 U) (hi : i < U.nb) (hyi : -2147483648 ≤ y ∧ y < 2147483648) (hzi : -2147483648 ≤ z ∧ z < 2147483648) (hno : ¬ (U.s0 ≤ y ∧ y ≤ U.s0 + 999)) : zRx l E yX10_worstYear cX10_worstYear 11 (some .int) (zrx 11 260) [.ref (ob E 0), .int (zI (i : Int)), .int (zI y), .int (zI z)] σ "java/lang/IllegalArgumentException" := by
  refine vx_ofW (cc := cX10_worstYear) (maxL := 11) (ret := (some .int)) (by decide) rfl ?_
  intro p e s m args below meth c s₁ B hml hout hv
  obtain ⟨rfl, hd⟩ := hv
  have C := zX_of (own := RX10) hfl B hml rfl hd rfl
  have hr := B.returns
  refine zV_go hd (Nat.le_of_ble_eq_true rfl) (lv := [(0, .ref (ob E 0)), (1, .int (zI (i : Int))), (2, .int (zI y)), (3, .int (zI z))]) rfl ?_
  have hnb : U.nb ≤ 8 := hU.2.2.1
  have hs0 := hU.2.2.2.1
  
  refine zv_aload_n C 0 dX10_worstYear_0 rfl rfl ?_
  refine zv_iload_n C 1 dX10_worstYear_1 rfl rfl ?_
  refine zv_cvvD (st := []) C (c_X10_needBody hfl E σ U (i : Int) hU (by omega) (by omega)) mX10_needBody kX10_140 (by decide : kd 0 = 9) rfl rfl rfl ⟨rfl, rfl⟩ (show zfit (zrm 0 0) 2 (zrx 11 260) = true from rfl) (Nat.le_of_ble_eq_true rfl) dX10_worstYear_2 ⟨Nat.zero_le _, Nat.zero_le _⟩ ?_
  refine zv_aload_n C 0 dX10_worstYear_5 rfl rfl ?_
  refine zv_iload_n C 2 dX10_worstYear_6 rfl rfl ?_
  refine zv_iload_n C 3 dX10_worstYear_7 rfl rfl ?_
  exact zv_xcv (st := []) C (x1_X10_needYears hfl E σ U y z hU hyi hzi hno) hout mX10_needYears kX10_203 (by decide : kd 0 = 9) rfl rfl rfl ⟨rfl, rfl⟩ (show zfit (zrx 10 220) 3 (zrx 11 260) = true from rfl) (Nat.le_of_ble_eq_true rfl) dX10_worstYear_8
set_option maxRecDepth 20000 in
theorem x3_X10_worstYear {l : Launch} (hfl : l.stackTraces = false) (E : zE) (σ : zS) (U : zSU) (i : Nat) (y z : Int) (hU : zSUp σ 29 U) (hi : i < U.nb) (hyi : -2147483648 ≤ y ∧ y < 2147483648) (hzi : -2147483648 ≤ z ∧ z < 2147483648) (hy : U.s0 ≤ y ∧ y ≤ U.s0 + 999) (hno : ¬ (U.s0 ≤ z ∧ z ≤ U.s0 + 999)) : zRx l E yX10_worstYear cX10_worstYear 11 (some .int) (zrx 11 260) [.ref (ob E 0), .int (zI (i : Int)), .int (zI y), .int (zI z)] σ "java/lang/IllegalArgumentException" := by
  refine vx_ofW (cc := cX10_worstYear) (maxL := 11) (ret := (some .int)) (by decide) rfl ?_
  intro p e s m args below meth c s₁ B hml hout hv
  obtain ⟨rfl, hd⟩ := hv
  have C := zX_of (own := RX10) hfl B hml rfl hd rfl
  have hr := B.returns
  refine zV_go hd (Nat.le_of_ble_eq_true rfl) (lv := [(0, .ref (ob E 0)), (1, .int (zI (i : Int))), (2, .int (zI y)), (3, .int (zI z))]) rfl ?_
  have hnb : U.nb ≤ 8 := hU.2.2.1
  have hs0 := hU.2.2.2.1
  
  refine zv_aload_n C 0 dX10_worstYear_0 rfl rfl ?_
  refine zv_iload_n C 1 dX10_worstYear_1 rfl rfl ?_
  refine zv_cvvD (st := []) C (c_X10_needBody hfl E σ U (i : Int) hU (by omega) (by omega)) mX10_needBody kX10_140 (by decide : kd 0 = 9) rfl rfl rfl ⟨rfl, rfl⟩ (show zfit (zrm 0 0) 2 (zrx 11 260) = true from rfl) (Nat.le_of_ble_eq_true rfl) dX10_worstYear_2 ⟨Nat.zero_le _, Nat.zero_le _⟩ ?_
  refine zv_aload_n C 0 dX10_worstYear_5 rfl rfl ?_
  refine zv_iload_n C 2 dX10_worstYear_6 rfl rfl ?_
  refine zv_iload_n C 3 dX10_worstYear_7 rfl rfl ?_
  exact zv_xcv (st := []) C (x2_X10_needYears hfl E σ U y z hU hyi hzi hy hno) hout mX10_needYears kX10_203 (by decide : kd 0 = 9) rfl rfl rfl ⟨rfl, rfl⟩ (show zfit (zrx 10 220) 3 (zrx 11 260) = true from rfl) (Nat.le_of_ble_eq_true rfl) dX10_worstYear_8
set_option maxRecDepth 20000 in
theorem x4_X10_worstYear {l : Launch} (hfl : l.stackTraces = false) (E : zE) (σ : zS) (U : zSU) (i : Nat) (y z : Int) (hU : zSUp σ 29 U) (hi : i < U.nb) (hyi : -2147483648 ≤ y ∧ y < 2147483648) (hzi : -2147483648 ≤ z ∧ z < 2147483648) (hy : U.s0 ≤ y ∧ y ≤ U.s0 + 999) (hz : U.s0 ≤ z ∧ z ≤ U.s0 + 999) (hno : z < y) : zRx l E yX10_worstYear cX10_worstYear 11 (some .int) (zrx 11 260) [.ref (ob E 0), .int (zI (i : Int)), .int (zI y), .int (zI z)] σ "java/lang/IllegalArgumentException" := by
  refine vx_ofW (cc := cX10_worstYear) (maxL := 11) (ret := (some .int)) (by decide) rfl ?_
  intro p e s m args below meth c s₁ B hml hout hv
  obtain ⟨rfl, hd⟩ := hv
  have C := zX_of (own := RX10) hfl B hml rfl hd rfl
  have hr := B.returns
  refine zV_go hd (Nat.le_of_ble_eq_true rfl) (lv := [(0, .ref (ob E 0)), (1, .int (zI (i : Int))), (2, .int (zI y)), (3, .int (zI z))]) rfl ?_
  have hnb : U.nb ≤ 8 := hU.2.2.1
  have hs0 := hU.2.2.2.1
  
  refine zv_aload_n C 0 dX10_worstYear_0 rfl rfl ?_
  refine zv_iload_n C 1 dX10_worstYear_1 rfl rfl ?_
  refine zv_cvvD (st := []) C (c_X10_needBody hfl E σ U (i : Int) hU (by omega) (by omega)) mX10_needBody kX10_140 (by decide : kd 0 = 9) rfl rfl rfl ⟨rfl, rfl⟩ (show zfit (zrm 0 0) 2 (zrx 11 260) = true from rfl) (Nat.le_of_ble_eq_true rfl) dX10_worstYear_2 ⟨Nat.zero_le _, Nat.zero_le _⟩ ?_
  refine zv_aload_n C 0 dX10_worstYear_5 rfl rfl ?_
  refine zv_iload_n C 2 dX10_worstYear_6 rfl rfl ?_
  refine zv_iload_n C 3 dX10_worstYear_7 rfl rfl ?_
  exact zv_xcv (st := []) C (x3_X10_needYears hfl E σ U y z hU hyi hzi hy hz hno) hout mX10_needYears kX10_203 (by decide : kd 0 = 9) rfl rfl rfl ⟨rfl, rfl⟩ (show zfit (zrx 10 220) 3 (zrx 11 260) = true from rfl) (Nat.le_of_ble_eq_true rfl) dX10_worstYear_8
